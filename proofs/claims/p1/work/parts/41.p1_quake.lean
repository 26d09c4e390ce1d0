def kf_thing (p1 : Int32) (p2 : Int32) : Int32 := 1
def vf_thing (p1 : Int32) (p2 : Int32) : Int64 := 0
set_option maxHeartbeats 4000000 in
set_option maxRecDepth 100000 in
theorem au_X10_needThing_0 (l : Launch) (hlt : l.stackTraces = false) (D : va_G) (cy : Nat → ClassId) (a : Nat → Nat) (v1_ : Int32) : Xv l yX10_needThing cX10_needThing 2 none { frames := 6, cells := 1, slots := 6, locals := 90 } D cy [.ref (a 0), .int v1_] [((a 0), .inr (10, [.ref (a 1), .int 0, .int 0, .int (-1), .ref (a 2), .ref (a 3), .ref (a 4), .ref (a 5), .ref (a 6), .ref (a 7), .ref (a 8), .ref (a 9), .int 0])), ((a 3), .inr (6, [.ref (a 10), .int 0, .ref (a 21), .ref (a 22), .ref (a 23), .ref (a 24), .ref (a 25), .int 0])), ((a 10), .inr (0, [.int 0, .int 1, .int 1, .int 0, .int 0, .ref (a 11), .ref (a 12), .ref (a 13), .null, .null]))] (fun _ => False) (fun E _ => ((v1_ < 0) ∧ E = "java/util/NoSuchElementException") ∨ ((¬ v1_ < 0) ∧ (¬ v1_ < 0) ∧ E = "java/util/NoSuchElementException")) := by
  refine Xv.of (by decide) (Nat.le_of_ble_eq_true rfl) ?_
  intro p e s m below meth c A ls hX hE hP hD hl hxt
  obtain ⟨hx, hb, hr, hml, hown, htA, hlk⟩ := id hX
  have hK := hE.1
  have hS : va_S A s.heap s.heap [] := va_S.rf
  have hl : lv_has ls 2 [(0, .ref (a 0)), (1, .int v1_)] := hl
  refine lv_iload_n hx hb dX10_needThing_0 rfl (lv_at hl 1 rfl) ?_
  refine lv_if_lt (tgt := 18) hx hb dX10_needThing_1 (by decide) (fun c1 => ?_) (fun c1 => ?_)
  · exact k_throwN rx_0 rx_1 rx_2 rx_5 hlt hX hE hxt hP hD hS hl.1 (by decide) (htA _ wd_869) (htA _ wd_23) (xSW_in hE.2.2.2 "LateFalls" 183 "no such thing" (by decide)) (at_X10_185 htA hE.2.2.2) ot_X10_181_185 (htA _ wd_881) (htA _ wd_880) dX10_needThing_18 dX10_needThing_21 dX10_needThing_22 dX10_needThing_24 dX10_needThing_27 (by decide) (by decide) (by decide) (by decide) (by decide) (by decide) (Or.inl (⟨c1, rfl⟩))
  · refine lv_iload_n hx hb dX10_needThing_4 rfl (lv_at hl 1 rfl) ?_
    refine lv_aload_n hx hb dX10_needThing_5 rfl (lv_at hl 0 rfl) ?_
    refine va_get (ci := 10) (v := .ref (a 3)) (C := RX10) (T := TX10) (N := 13) hx hb htA in_X10 hown hK hP 0 rfl rfl 5 (by decide) (htA _ wd_313) (fun _ h => h) rfl dX10_needThing_6 ?_
    refine va_get (ci := 6) (v := .ref (a 10)) (C := RX6) (T := TX6) (N := 8) hx hb htA in_X6 hown hK hP 1 rfl rfl 0 (by decide) (htA _ wd_168) (fun _ h => h) rfl dX10_needThing_9 ?_
    refine va_get (ci := 0) (v := .int 0) (C := RX0) (T := TX0) (N := 10) hx hb htA in_X0 hown hK hP 2 rfl rfl 3 (by decide) (htA _ wd_88) (fun _ h => h) rfl dX10_needThing_12 ?_
    refine lv_icmp_lt (tgt := 28) hx hb dX10_needThing_15 (by decide) (fun c2 => absurd c2 c1) (fun c2 => ?_)
    exact k_throwN rx_0 rx_1 rx_2 rx_5 hlt hX hE hxt hP hD hS hl.1 (by decide) (htA _ wd_869) (htA _ wd_23) (xSW_in hE.2.2.2 "LateFalls" 183 "no such thing" (by decide)) (at_X10_185 htA hE.2.2.2) ot_X10_181_185 (htA _ wd_881) (htA _ wd_880) dX10_needThing_18 dX10_needThing_21 dX10_needThing_22 dX10_needThing_24 dX10_needThing_27 (by decide) (by decide) (by decide) (by decide) (by decide) (by decide) (Or.inr (⟨c1, c2, rfl⟩))
set_option maxHeartbeats 4000000 in
set_option maxRecDepth 100000 in
theorem m_thing (l : Launch) (hlt : l.stackTraces = false) (D : va_G) (cy : Nat → ClassId) (a : Nat → Nat) (p1 : Int32) (p2 : Int32) : Xi l yX10_thing cX10_thing 4 (some .int) { frames := 7, cells := 1, slots := 6, locals := 111 } D cy [.ref (a 0), .int p1, .int p2] [((a 0), .inr (10, [.ref (a 1), .int 0, .int 0, .int (-1), .ref (a 2), .ref (a 3), .ref (a 4), .ref (a 5), .ref (a 6), .ref (a 7), .ref (a 8), .ref (a 9), .int 0])), ((a 3), .inr (6, [.ref (a 10), .int 0, .ref (a 21), .ref (a 22), .ref (a 23), .ref (a 24), .ref (a 25), .int 0])), ((a 10), .inr (0, [.int 0, .int 1, .int 1, .int 0, .int 0, .ref (a 11), .ref (a 12), .ref (a 13), .null, .null]))] (fun r _ => kf_thing p1 p2 = 0 ∧ r.toInt64 = vf_thing p1 p2) (fun E _ => (E = "java/util/NoSuchElementException" ∧ kf_thing p1 p2 = 1)) := by
  refine Xi.of (by decide) (Nat.le_of_ble_eq_true rfl) ?_
  intro p e s m below meth c A ls hX hE hP hD hl hxt
  obtain ⟨hx, hb, hr, hml, hown, htA, hlk⟩ := id hX
  have hK := hE.1
  have hS : va_S A s.heap s.heap [] := va_S.rf
  have hl : lv_has ls 4 [(0, .ref (a 0)), (1, .int p1), (2, .int p2)] := hl
  refine lv_aload_n hx hb dX10_thing_0 rfl (lv_at hl 0 rfl) ?_
  refine lv_iload_n hx hb dX10_thing_1 rfl (lv_at hl 1 rfl) ?_
  refine xVv (As := [.int p1]) (rest := []) (wr := []) hX hE (au_X10_needThing_0 l hlt D cy a p1) (cwVA 1 htA wd_868 wd_865 wd_1 wd_867 wp_26 (by decide +kernel) ⟨by decide, by decide⟩) hP hD hS [0, 1, 2] [] rfl rfl (by decide) 0 rfl rfl rfl rfl hl.1 rfl (Nat.le_of_ble_eq_true rfl) dX10_thing_2 (by decide) (fun E ce q9 W1 H locs hw hP hD hS hce hcv hcl => ?_) (fun W1 H locs hw hP hD hS => ?_)
  · rcases hw with ⟨g1, rfl⟩ | ⟨g2, g3, rfl⟩
    · exact xO hX hE hxt hP hD hS hce hcv hcl (by decide) (by decide) (⟨rfl, (by have kg1 := g1; (try simp only [lg_cmp_lt, lg_cmp_le, lg_cmp_ge, lg_cmp_gt, lg_cmp_eq, fa_lt, fa_le, fa_eq, fa_lt64, fa_le64, fa_eq64, Int32.toInt_toInt64, li_0, lj_0] at kg1); first | rfl | (unfold kf_thing; (repeat' split) <;> first | rfl | (exfalso; omega)))⟩)
    · exact xO hX hE hxt hP hD hS hce hcv hcl (by decide) (by decide) (⟨rfl, (by have kg2 := g2; have kg3 := g3; (try simp only [lg_cmp_lt, lg_cmp_le, lg_cmp_ge, lg_cmp_gt, lg_cmp_eq, fa_lt, fa_le, fa_eq, fa_lt64, fa_le64, fa_eq64, Int32.toInt_toInt64, li_0, lj_0] at kg2); (try simp only [lg_cmp_lt, lg_cmp_le, lg_cmp_ge, lg_cmp_gt, lg_cmp_eq, fa_lt, fa_le, fa_eq, fa_lt64, fa_le64, fa_eq64, Int32.toInt_toInt64, li_0, lj_0] at kg3); first | rfl | (unfold kf_thing; (repeat' split) <;> first | rfl | (exfalso; omega)))⟩)
  · exact hw.elim
def kf_walker (p1 : Int32) (p2 : Int32) : Int32 := 1
def vf_walker (p1 : Int32) (p2 : Int32) : Int64 := 0
set_option maxHeartbeats 4000000 in
set_option maxRecDepth 100000 in
theorem au_X10_needWalker_1 (l : Launch) (hlt : l.stackTraces = false) (D : va_G) (cy : Nat → ClassId) (a : Nat → Nat) (v1_ : Int32) : Xv l yX10_needWalker cX10_needWalker 2 none { frames := 6, cells := 1, slots := 6, locals := 90 } D cy [.ref (a 0), .int v1_] [((a 0), .inr (10, [.ref (a 1), .int 0, .int 0, .int (-1), .ref (a 2), .ref (a 3), .ref (a 4), .ref (a 5), .ref (a 6), .ref (a 7), .ref (a 8), .ref (a 9), .int 0])), ((a 3), .inr (6, [.ref (a 10), .int 0, .ref (a 21), .ref (a 22), .ref (a 23), .ref (a 24), .ref (a 25), .int 0])), ((a 10), .inr (0, [.int 0, .int 1, .int 1, .int 0, .int 0, .ref (a 11), .ref (a 12), .ref (a 13), .null, .null]))] (fun _ => False) (fun E _ => ((v1_ < 0) ∧ E = "java/util/NoSuchElementException") ∨ ((¬ v1_ < 0) ∧ (¬ v1_ < 0) ∧ E = "java/util/NoSuchElementException")) := by
  refine Xv.of (by decide) (Nat.le_of_ble_eq_true rfl) ?_
  intro p e s m below meth c A ls hX hE hP hD hl hxt
  obtain ⟨hx, hb, hr, hml, hown, htA, hlk⟩ := id hX
  have hK := hE.1
  have hS : va_S A s.heap s.heap [] := va_S.rf
  have hl : lv_has ls 2 [(0, .ref (a 0)), (1, .int v1_)] := hl
  refine lv_iload_n hx hb dX10_needWalker_0 rfl (lv_at hl 1 rfl) ?_
  refine lv_if_lt (tgt := 18) hx hb dX10_needWalker_1 (by decide) (fun c1 => ?_) (fun c1 => ?_)
  · exact k_throwN rx_0 rx_1 rx_2 rx_5 hlt hX hE hxt hP hD hS hl.1 (by decide) (htA _ wd_869) (htA _ wd_23) (xSW_in hE.2.2.2 "LateFalls" 189 "no such walker" (by decide)) (at_X10_185 htA hE.2.2.2) ot_X10_181_185 (htA _ wd_881) (htA _ wd_880) dX10_needWalker_18 dX10_needWalker_21 dX10_needWalker_22 dX10_needWalker_24 dX10_needWalker_27 (by decide) (by decide) (by decide) (by decide) (by decide) (by decide) (Or.inl (⟨c1, rfl⟩))
  · refine lv_iload_n hx hb dX10_needWalker_4 rfl (lv_at hl 1 rfl) ?_
    refine lv_aload_n hx hb dX10_needWalker_5 rfl (lv_at hl 0 rfl) ?_
    refine va_get (ci := 10) (v := .ref (a 3)) (C := RX10) (T := TX10) (N := 13) hx hb htA in_X10 hown hK hP 0 rfl rfl 5 (by decide) (htA _ wd_313) (fun _ h => h) rfl dX10_needWalker_6 ?_
    refine va_get (ci := 6) (v := .ref (a 10)) (C := RX6) (T := TX6) (N := 8) hx hb htA in_X6 hown hK hP 1 rfl rfl 0 (by decide) (htA _ wd_168) (fun _ h => h) rfl dX10_needWalker_9 ?_
    refine va_get (ci := 0) (v := .int 0) (C := RX0) (T := TX0) (N := 10) hx hb htA in_X0 hown hK hP 2 rfl rfl 4 (by decide) (htA _ wd_92) (fun _ h => h) rfl dX10_needWalker_12 ?_
    refine lv_icmp_lt (tgt := 28) hx hb dX10_needWalker_15 (by decide) (fun c2 => absurd c2 c1) (fun c2 => ?_)
    exact k_throwN rx_0 rx_1 rx_2 rx_5 hlt hX hE hxt hP hD hS hl.1 (by decide) (htA _ wd_869) (htA _ wd_23) (xSW_in hE.2.2.2 "LateFalls" 189 "no such walker" (by decide)) (at_X10_185 htA hE.2.2.2) ot_X10_181_185 (htA _ wd_881) (htA _ wd_880) dX10_needWalker_18 dX10_needWalker_21 dX10_needWalker_22 dX10_needWalker_24 dX10_needWalker_27 (by decide) (by decide) (by decide) (by decide) (by decide) (by decide) (Or.inr (⟨c1, c2, rfl⟩))
set_option maxHeartbeats 4000000 in
set_option maxRecDepth 100000 in
theorem m_walker (l : Launch) (hlt : l.stackTraces = false) (D : va_G) (cy : Nat → ClassId) (a : Nat → Nat) (p1 : Int32) (p2 : Int32) : Xi l yX10_walker cX10_walker 3 (some .int) { frames := 7, cells := 1, slots := 6, locals := 111 } D cy [.ref (a 0), .int p1, .int p2] [((a 0), .inr (10, [.ref (a 1), .int 0, .int 0, .int (-1), .ref (a 2), .ref (a 3), .ref (a 4), .ref (a 5), .ref (a 6), .ref (a 7), .ref (a 8), .ref (a 9), .int 0])), ((a 3), .inr (6, [.ref (a 10), .int 0, .ref (a 21), .ref (a 22), .ref (a 23), .ref (a 24), .ref (a 25), .int 0])), ((a 10), .inr (0, [.int 0, .int 1, .int 1, .int 0, .int 0, .ref (a 11), .ref (a 12), .ref (a 13), .null, .null]))] (fun r _ => kf_walker p1 p2 = 0 ∧ r.toInt64 = vf_walker p1 p2) (fun E _ => (E = "java/util/NoSuchElementException" ∧ kf_walker p1 p2 = 1)) := by
  refine Xi.of (by decide) (Nat.le_of_ble_eq_true rfl) ?_
  intro p e s m below meth c A ls hX hE hP hD hl hxt
  obtain ⟨hx, hb, hr, hml, hown, htA, hlk⟩ := id hX
  have hK := hE.1
  have hS : va_S A s.heap s.heap [] := va_S.rf
  have hl : lv_has ls 3 [(0, .ref (a 0)), (1, .int p1), (2, .int p2)] := hl
  refine lv_aload_n hx hb dX10_walker_0 rfl (lv_at hl 0 rfl) ?_
  refine lv_iload_n hx hb dX10_walker_1 rfl (lv_at hl 1 rfl) ?_
  refine xVv (As := [.int p1]) (rest := []) (wr := []) hX hE (au_X10_needWalker_1 l hlt D cy a p1) (cwVA 1 htA wd_896 wd_893 wd_1 wd_895 wp_27 (by decide +kernel) ⟨by decide, by decide⟩) hP hD hS [0, 1, 2] [] rfl rfl (by decide) 0 rfl rfl rfl rfl hl.1 rfl (Nat.le_of_ble_eq_true rfl) dX10_walker_2 (by decide) (fun E ce q9 W1 H locs hw hP hD hS hce hcv hcl => ?_) (fun W1 H locs hw hP hD hS => ?_)
  · rcases hw with ⟨g1, rfl⟩ | ⟨g2, g3, rfl⟩
    · exact xO hX hE hxt hP hD hS hce hcv hcl (by decide) (by decide) (⟨rfl, (by have kg1 := g1; (try simp only [lg_cmp_lt, lg_cmp_le, lg_cmp_ge, lg_cmp_gt, lg_cmp_eq, fa_lt, fa_le, fa_eq, fa_lt64, fa_le64, fa_eq64, Int32.toInt_toInt64, li_0, lj_0] at kg1); first | rfl | (unfold kf_walker; (repeat' split) <;> first | rfl | (exfalso; omega)))⟩)
    · exact xO hX hE hxt hP hD hS hce hcv hcl (by decide) (by decide) (⟨rfl, (by have kg2 := g2; have kg3 := g3; (try simp only [lg_cmp_lt, lg_cmp_le, lg_cmp_ge, lg_cmp_gt, lg_cmp_eq, fa_lt, fa_le, fa_eq, fa_lt64, fa_le64, fa_eq64, Int32.toInt_toInt64, li_0, lj_0] at kg2); (try simp only [lg_cmp_lt, lg_cmp_le, lg_cmp_ge, lg_cmp_gt, lg_cmp_eq, fa_lt, fa_le, fa_eq, fa_lt64, fa_le64, fa_eq64, Int32.toInt_toInt64, li_0, lj_0] at kg3); first | rfl | (unfold kf_walker; (repeat' split) <;> first | rfl | (exfalso; omega)))⟩)
  · exact hw.elim
def kf_hanging (p1 : Int32) (p2 : Int32) (p3 : Int32) (p4 : Int32) : Int32 := 1
def vf_hanging (p1 : Int32) (p2 : Int32) (p3 : Int32) (p4 : Int32) : Int64 := 0
set_option maxHeartbeats 4000000 in
set_option maxRecDepth 100000 in
theorem m_hanging (l : Launch) (hlt : l.stackTraces = false) (D : va_G) (cy : Nat → ClassId) (a : Nat → Nat) (p1 : Int32) (p2 : Int32) (p3 : Int32) (p4 : Int32) : Xi l yX10_hanging cX10_hanging 6 (some .int) { frames := 7, cells := 1, slots := 6, locals := 111 } D cy [.ref (a 0), .int p1, .int p2, .int p3, .int p4] [((a 0), .inr (10, [.ref (a 1), .int 0, .int 0, .int (-1), .ref (a 2), .ref (a 3), .ref (a 4), .ref (a 5), .ref (a 6), .ref (a 7), .ref (a 8), .ref (a 9), .int 0])), ((a 3), .inr (6, [.ref (a 10), .int 0, .ref (a 21), .ref (a 22), .ref (a 23), .ref (a 24), .ref (a 25), .int 0])), ((a 10), .inr (0, [.int 0, .int 1, .int 1, .int 0, .int 0, .ref (a 11), .ref (a 12), .ref (a 13), .null, .null]))] (fun r _ => kf_hanging p1 p2 p3 p4 = 0 ∧ r.toInt64 = vf_hanging p1 p2 p3 p4) (fun E _ => (E = "java/util/NoSuchElementException" ∧ kf_hanging p1 p2 p3 p4 = 1)) := by
  refine Xi.of (by decide) (Nat.le_of_ble_eq_true rfl) ?_
  intro p e s m below meth c A ls hX hE hP hD hl hxt
  obtain ⟨hx, hb, hr, hml, hown, htA, hlk⟩ := id hX
  have hK := hE.1
  have hS : va_S A s.heap s.heap [] := va_S.rf
  have hl : lv_has ls 6 [(0, .ref (a 0)), (1, .int p1), (2, .int p2), (3, .int p3), (4, .int p4)] := hl
  refine lv_aload_n hx hb dX10_hanging_0 rfl (lv_at hl 0 rfl) ?_
  refine lv_iload_n hx hb dX10_hanging_1 rfl (lv_at hl 1 rfl) ?_
  refine xVv (As := [.int p1]) (rest := []) (wr := []) hX hE (au_X10_needThing_0 l hlt D cy a p1) (cwVA 1 htA wd_868 wd_865 wd_1 wd_867 wp_26 (by decide +kernel) ⟨by decide, by decide⟩) hP hD hS [0, 1, 2] [] rfl rfl (by decide) 0 rfl rfl rfl rfl hl.1 rfl (Nat.le_of_ble_eq_true rfl) dX10_hanging_2 (by decide) (fun E ce q9 W1 H locs hw hP hD hS hce hcv hcl => ?_) (fun W1 H locs hw hP hD hS => ?_)
  · rcases hw with ⟨g1, rfl⟩ | ⟨g2, g3, rfl⟩
    · exact xO hX hE hxt hP hD hS hce hcv hcl (by decide) (by decide) (⟨rfl, (by have kg1 := g1; (try simp only [lg_cmp_lt, lg_cmp_le, lg_cmp_ge, lg_cmp_gt, lg_cmp_eq, fa_lt, fa_le, fa_eq, fa_lt64, fa_le64, fa_eq64, Int32.toInt_toInt64, li_0, lj_0] at kg1); first | rfl | (unfold kf_hanging; (repeat' split) <;> first | rfl | (exfalso; omega)))⟩)
    · exact xO hX hE hxt hP hD hS hce hcv hcl (by decide) (by decide) (⟨rfl, (by have kg2 := g2; have kg3 := g3; (try simp only [lg_cmp_lt, lg_cmp_le, lg_cmp_ge, lg_cmp_gt, lg_cmp_eq, fa_lt, fa_le, fa_eq, fa_lt64, fa_le64, fa_eq64, Int32.toInt_toInt64, li_0, lj_0] at kg2); (try simp only [lg_cmp_lt, lg_cmp_le, lg_cmp_ge, lg_cmp_gt, lg_cmp_eq, fa_lt, fa_le, fa_eq, fa_lt64, fa_le64, fa_eq64, Int32.toInt_toInt64, li_0, lj_0] at kg3); first | rfl | (unfold kf_hanging; (repeat' split) <;> first | rfl | (exfalso; omega)))⟩)
  · exact hw.elim
def kf_falls (p1 : Int32) : Int32 := 1
def vf_falls (p1 : Int32) : Int64 := 0
set_option maxHeartbeats 4000000 in
set_option maxRecDepth 100000 in
theorem m_falls (l : Launch) (hlt : l.stackTraces = false) (D : va_G) (cy : Nat → ClassId) (a : Nat → Nat) (p1 : Int32) : Xi l yX10_falls cX10_falls 2 (some .int) { frames := 7, cells := 1, slots := 6, locals := 111 } D cy [.ref (a 0), .int p1] [((a 0), .inr (10, [.ref (a 1), .int 0, .int 0, .int (-1), .ref (a 2), .ref (a 3), .ref (a 4), .ref (a 5), .ref (a 6), .ref (a 7), .ref (a 8), .ref (a 9), .int 0])), ((a 3), .inr (6, [.ref (a 10), .int 0, .ref (a 21), .ref (a 22), .ref (a 23), .ref (a 24), .ref (a 25), .int 0])), ((a 10), .inr (0, [.int 0, .int 1, .int 1, .int 0, .int 0, .ref (a 11), .ref (a 12), .ref (a 13), .null, .null]))] (fun r _ => kf_falls p1 = 0 ∧ r.toInt64 = vf_falls p1) (fun E _ => (E = "java/util/NoSuchElementException" ∧ kf_falls p1 = 1)) := by
  refine Xi.of (by decide) (Nat.le_of_ble_eq_true rfl) ?_
  intro p e s m below meth c A ls hX hE hP hD hl hxt
  obtain ⟨hx, hb, hr, hml, hown, htA, hlk⟩ := id hX
  have hK := hE.1
  have hS : va_S A s.heap s.heap [] := va_S.rf
  have hl : lv_has ls 2 [(0, .ref (a 0)), (1, .int p1)] := hl
  refine lv_aload_n hx hb dX10_falls_0 rfl (lv_at hl 0 rfl) ?_
  refine lv_iload_n hx hb dX10_falls_1 rfl (lv_at hl 1 rfl) ?_
  refine xVv (As := [.int p1]) (rest := []) (wr := []) hX hE (au_X10_needThing_0 l hlt D cy a p1) (cwVA 1 htA wd_868 wd_865 wd_1 wd_867 wp_26 (by decide +kernel) ⟨by decide, by decide⟩) hP hD hS [0, 1, 2] [] rfl rfl (by decide) 0 rfl rfl rfl rfl hl.1 rfl (Nat.le_of_ble_eq_true rfl) dX10_falls_2 (by decide) (fun E ce q9 W1 H locs hw hP hD hS hce hcv hcl => ?_) (fun W1 H locs hw hP hD hS => ?_)
  · rcases hw with ⟨g1, rfl⟩ | ⟨g2, g3, rfl⟩
    · exact xO hX hE hxt hP hD hS hce hcv hcl (by decide) (by decide) (⟨rfl, (by have kg1 := g1; (try simp only [lg_cmp_lt, lg_cmp_le, lg_cmp_ge, lg_cmp_gt, lg_cmp_eq, fa_lt, fa_le, fa_eq, fa_lt64, fa_le64, fa_eq64, Int32.toInt_toInt64, li_0, lj_0] at kg1); first | rfl | (unfold kf_falls; (repeat' split) <;> first | rfl | (exfalso; omega)))⟩)
    · exact xO hX hE hxt hP hD hS hce hcv hcl (by decide) (by decide) (⟨rfl, (by have kg2 := g2; have kg3 := g3; (try simp only [lg_cmp_lt, lg_cmp_le, lg_cmp_ge, lg_cmp_gt, lg_cmp_eq, fa_lt, fa_le, fa_eq, fa_lt64, fa_le64, fa_eq64, Int32.toInt_toInt64, li_0, lj_0] at kg2); (try simp only [lg_cmp_lt, lg_cmp_le, lg_cmp_ge, lg_cmp_gt, lg_cmp_eq, fa_lt, fa_le, fa_eq, fa_lt64, fa_le64, fa_eq64, Int32.toInt_toInt64, li_0, lj_0] at kg3); first | rfl | (unfold kf_falls; (repeat' split) <;> first | rfl | (exfalso; omega)))⟩)
  · exact hw.elim
def kf_lands (p1 : Int32) : Int32 := 1
def vf_lands (p1 : Int32) : Int64 := 0
set_option maxHeartbeats 4000000 in
set_option maxRecDepth 100000 in
theorem m_lands (l : Launch) (hlt : l.stackTraces = false) (D : va_G) (cy : Nat → ClassId) (a : Nat → Nat) (p1 : Int32) : Xi l yX10_lands cX10_lands 2 (some .int) { frames := 7, cells := 1, slots := 6, locals := 111 } D cy [.ref (a 0), .int p1] [((a 0), .inr (10, [.ref (a 1), .int 0, .int 0, .int (-1), .ref (a 2), .ref (a 3), .ref (a 4), .ref (a 5), .ref (a 6), .ref (a 7), .ref (a 8), .ref (a 9), .int 0])), ((a 3), .inr (6, [.ref (a 10), .int 0, .ref (a 21), .ref (a 22), .ref (a 23), .ref (a 24), .ref (a 25), .int 0])), ((a 10), .inr (0, [.int 0, .int 1, .int 1, .int 0, .int 0, .ref (a 11), .ref (a 12), .ref (a 13), .null, .null]))] (fun r _ => kf_lands p1 = 0 ∧ r.toInt64 = vf_lands p1) (fun E _ => (E = "java/util/NoSuchElementException" ∧ kf_lands p1 = 1)) := by
  refine Xi.of (by decide) (Nat.le_of_ble_eq_true rfl) ?_
  intro p e s m below meth c A ls hX hE hP hD hl hxt
  obtain ⟨hx, hb, hr, hml, hown, htA, hlk⟩ := id hX
  have hK := hE.1
  have hS : va_S A s.heap s.heap [] := va_S.rf
  have hl : lv_has ls 2 [(0, .ref (a 0)), (1, .int p1)] := hl
  refine lv_aload_n hx hb dX10_lands_0 rfl (lv_at hl 0 rfl) ?_
  refine lv_iload_n hx hb dX10_lands_1 rfl (lv_at hl 1 rfl) ?_
  refine xVv (As := [.int p1]) (rest := []) (wr := []) hX hE (au_X10_needThing_0 l hlt D cy a p1) (cwVA 1 htA wd_868 wd_865 wd_1 wd_867 wp_26 (by decide +kernel) ⟨by decide, by decide⟩) hP hD hS [0, 1, 2] [] rfl rfl (by decide) 0 rfl rfl rfl rfl hl.1 rfl (Nat.le_of_ble_eq_true rfl) dX10_lands_2 (by decide) (fun E ce q9 W1 H locs hw hP hD hS hce hcv hcl => ?_) (fun W1 H locs hw hP hD hS => ?_)
  · rcases hw with ⟨g1, rfl⟩ | ⟨g2, g3, rfl⟩
    · exact xO hX hE hxt hP hD hS hce hcv hcl (by decide) (by decide) (⟨rfl, (by have kg1 := g1; (try simp only [lg_cmp_lt, lg_cmp_le, lg_cmp_ge, lg_cmp_gt, lg_cmp_eq, fa_lt, fa_le, fa_eq, fa_lt64, fa_le64, fa_eq64, Int32.toInt_toInt64, li_0, lj_0] at kg1); first | rfl | (unfold kf_lands; (repeat' split) <;> first | rfl | (exfalso; omega)))⟩)
    · exact xO hX hE hxt hP hD hS hce hcv hcl (by decide) (by decide) (⟨rfl, (by have kg2 := g2; have kg3 := g3; (try simp only [lg_cmp_lt, lg_cmp_le, lg_cmp_ge, lg_cmp_gt, lg_cmp_eq, fa_lt, fa_le, fa_eq, fa_lt64, fa_le64, fa_eq64, Int32.toInt_toInt64, li_0, lj_0] at kg2); (try simp only [lg_cmp_lt, lg_cmp_le, lg_cmp_ge, lg_cmp_gt, lg_cmp_eq, fa_lt, fa_le, fa_eq, fa_lt64, fa_le64, fa_eq64, Int32.toInt_toInt64, li_0, lj_0] at kg3); first | rfl | (unfold kf_lands; (repeat' split) <;> first | rfl | (exfalso; omega)))⟩)
  · exact hw.elim
def kf_frees (p1 : Int32) : Int32 := 1
def vf_frees (p1 : Int32) : Int64 := 0
set_option maxHeartbeats 4000000 in
set_option maxRecDepth 100000 in
theorem m_frees (l : Launch) (hlt : l.stackTraces = false) (D : va_G) (cy : Nat → ClassId) (a : Nat → Nat) (p1 : Int32) : Xi l yX10_frees cX10_frees 2 (some .int) { frames := 7, cells := 1, slots := 6, locals := 111 } D cy [.ref (a 0), .int p1] [((a 0), .inr (10, [.ref (a 1), .int 0, .int 0, .int (-1), .ref (a 2), .ref (a 3), .ref (a 4), .ref (a 5), .ref (a 6), .ref (a 7), .ref (a 8), .ref (a 9), .int 0])), ((a 3), .inr (6, [.ref (a 10), .int 0, .ref (a 21), .ref (a 22), .ref (a 23), .ref (a 24), .ref (a 25), .int 0])), ((a 10), .inr (0, [.int 0, .int 1, .int 1, .int 0, .int 0, .ref (a 11), .ref (a 12), .ref (a 13), .null, .null]))] (fun r _ => kf_frees p1 = 0 ∧ r.toInt64 = vf_frees p1) (fun E _ => (E = "java/util/NoSuchElementException" ∧ kf_frees p1 = 1)) := by
  refine Xi.of (by decide) (Nat.le_of_ble_eq_true rfl) ?_
  intro p e s m below meth c A ls hX hE hP hD hl hxt
  obtain ⟨hx, hb, hr, hml, hown, htA, hlk⟩ := id hX
  have hK := hE.1
  have hS : va_S A s.heap s.heap [] := va_S.rf
  have hl : lv_has ls 2 [(0, .ref (a 0)), (1, .int p1)] := hl
  refine lv_aload_n hx hb dX10_frees_0 rfl (lv_at hl 0 rfl) ?_
  refine lv_iload_n hx hb dX10_frees_1 rfl (lv_at hl 1 rfl) ?_
  refine xVv (As := [.int p1]) (rest := []) (wr := []) hX hE (au_X10_needThing_0 l hlt D cy a p1) (cwVA 1 htA wd_868 wd_865 wd_1 wd_867 wp_26 (by decide +kernel) ⟨by decide, by decide⟩) hP hD hS [0, 1, 2] [] rfl rfl (by decide) 0 rfl rfl rfl rfl hl.1 rfl (Nat.le_of_ble_eq_true rfl) dX10_frees_2 (by decide) (fun E ce q9 W1 H locs hw hP hD hS hce hcv hcl => ?_) (fun W1 H locs hw hP hD hS => ?_)
  · rcases hw with ⟨g1, rfl⟩ | ⟨g2, g3, rfl⟩
    · exact xO hX hE hxt hP hD hS hce hcv hcl (by decide) (by decide) (⟨rfl, (by have kg1 := g1; (try simp only [lg_cmp_lt, lg_cmp_le, lg_cmp_ge, lg_cmp_gt, lg_cmp_eq, fa_lt, fa_le, fa_eq, fa_lt64, fa_le64, fa_eq64, Int32.toInt_toInt64, li_0, lj_0] at kg1); first | rfl | (unfold kf_frees; (repeat' split) <;> first | rfl | (exfalso; omega)))⟩)
    · exact xO hX hE hxt hP hD hS hce hcv hcl (by decide) (by decide) (⟨rfl, (by have kg2 := g2; have kg3 := g3; (try simp only [lg_cmp_lt, lg_cmp_le, lg_cmp_ge, lg_cmp_gt, lg_cmp_eq, fa_lt, fa_le, fa_eq, fa_lt64, fa_le64, fa_eq64, Int32.toInt_toInt64, li_0, lj_0] at kg2); (try simp only [lg_cmp_lt, lg_cmp_le, lg_cmp_ge, lg_cmp_gt, lg_cmp_eq, fa_lt, fa_le, fa_eq, fa_lt64, fa_le64, fa_eq64, Int32.toInt_toInt64, li_0, lj_0] at kg3); first | rfl | (unfold kf_frees; (repeat' split) <;> first | rfl | (exfalso; omega)))⟩)
  · exact hw.elim
def kf_hurtIn (p1 : Int32) : Int32 := 1
def vf_hurtIn (p1 : Int32) : Int64 := 0
set_option maxHeartbeats 4000000 in
set_option maxRecDepth 100000 in
theorem m_hurtIn (l : Launch) (hlt : l.stackTraces = false) (D : va_G) (cy : Nat → ClassId) (a : Nat → Nat) (p1 : Int32) : Xi l yX10_hurtIn cX10_hurtIn 4 (some .int) { frames := 7, cells := 1, slots := 6, locals := 111 } D cy [.ref (a 0), .int p1] [((a 0), .inr (10, [.ref (a 1), .int 0, .int 0, .int (-1), .ref (a 2), .ref (a 3), .ref (a 4), .ref (a 5), .ref (a 6), .ref (a 7), .ref (a 8), .ref (a 9), .int 0])), ((a 3), .inr (6, [.ref (a 10), .int 0, .ref (a 21), .ref (a 22), .ref (a 23), .ref (a 24), .ref (a 25), .int 0])), ((a 10), .inr (0, [.int 0, .int 1, .int 1, .int 0, .int 0, .ref (a 11), .ref (a 12), .ref (a 13), .null, .null]))] (fun r _ => kf_hurtIn p1 = 0 ∧ r.toInt64 = vf_hurtIn p1) (fun E _ => (E = "java/util/NoSuchElementException" ∧ kf_hurtIn p1 = 1)) := by
  refine Xi.of (by decide) (Nat.le_of_ble_eq_true rfl) ?_
  intro p e s m below meth c A ls hX hE hP hD hl hxt
  obtain ⟨hx, hb, hr, hml, hown, htA, hlk⟩ := id hX
  have hK := hE.1
  have hS : va_S A s.heap s.heap [] := va_S.rf
  have hl : lv_has ls 4 [(0, .ref (a 0)), (1, .int p1)] := hl
  refine lv_aload_n hx hb dX10_hurtIn_0 rfl (lv_at hl 0 rfl) ?_
  refine lv_iload_n hx hb dX10_hurtIn_1 rfl (lv_at hl 1 rfl) ?_
  refine xVv (As := [.int p1]) (rest := []) (wr := []) hX hE (au_X10_needWalker_1 l hlt D cy a p1) (cwVA 1 htA wd_896 wd_893 wd_1 wd_895 wp_27 (by decide +kernel) ⟨by decide, by decide⟩) hP hD hS [0, 1, 2] [] rfl rfl (by decide) 0 rfl rfl rfl rfl hl.1 rfl (Nat.le_of_ble_eq_true rfl) dX10_hurtIn_2 (by decide) (fun E ce q9 W1 H locs hw hP hD hS hce hcv hcl => ?_) (fun W1 H locs hw hP hD hS => ?_)
  · rcases hw with ⟨g1, rfl⟩ | ⟨g2, g3, rfl⟩
    · exact xO hX hE hxt hP hD hS hce hcv hcl (by decide) (by decide) (⟨rfl, (by have kg1 := g1; (try simp only [lg_cmp_lt, lg_cmp_le, lg_cmp_ge, lg_cmp_gt, lg_cmp_eq, fa_lt, fa_le, fa_eq, fa_lt64, fa_le64, fa_eq64, Int32.toInt_toInt64, li_0, lj_0] at kg1); first | rfl | (unfold kf_hurtIn; (repeat' split) <;> first | rfl | (exfalso; omega)))⟩)
    · exact xO hX hE hxt hP hD hS hce hcv hcl (by decide) (by decide) (⟨rfl, (by have kg2 := g2; have kg3 := g3; (try simp only [lg_cmp_lt, lg_cmp_le, lg_cmp_ge, lg_cmp_gt, lg_cmp_eq, fa_lt, fa_le, fa_eq, fa_lt64, fa_le64, fa_eq64, Int32.toInt_toInt64, li_0, lj_0] at kg2); (try simp only [lg_cmp_lt, lg_cmp_le, lg_cmp_ge, lg_cmp_gt, lg_cmp_eq, fa_lt, fa_le, fa_eq, fa_lt64, fa_le64, fa_eq64, Int32.toInt_toInt64, li_0, lj_0] at kg3); first | rfl | (unfold kf_hurtIn; (repeat' split) <;> first | rfl | (exfalso; omega)))⟩)
  · exact hw.elim
def kf_hurts (p1 : Int32) : Int32 := 1
def vf_hurts (p1 : Int32) : Int64 := 0
set_option maxHeartbeats 4000000 in
set_option maxRecDepth 100000 in
theorem m_hurts (l : Launch) (hlt : l.stackTraces = false) (D : va_G) (cy : Nat → ClassId) (a : Nat → Nat) (p1 : Int32) : Xi l yX10_hurts cX10_hurts 2 (some .int) { frames := 7, cells := 1, slots := 6, locals := 111 } D cy [.ref (a 0), .int p1] [((a 0), .inr (10, [.ref (a 1), .int 0, .int 0, .int (-1), .ref (a 2), .ref (a 3), .ref (a 4), .ref (a 5), .ref (a 6), .ref (a 7), .ref (a 8), .ref (a 9), .int 0])), ((a 3), .inr (6, [.ref (a 10), .int 0, .ref (a 21), .ref (a 22), .ref (a 23), .ref (a 24), .ref (a 25), .int 0])), ((a 10), .inr (0, [.int 0, .int 1, .int 1, .int 0, .int 0, .ref (a 11), .ref (a 12), .ref (a 13), .null, .null]))] (fun r _ => kf_hurts p1 = 0 ∧ r.toInt64 = vf_hurts p1) (fun E _ => (E = "java/util/NoSuchElementException" ∧ kf_hurts p1 = 1)) := by
  refine Xi.of (by decide) (Nat.le_of_ble_eq_true rfl) ?_
  intro p e s m below meth c A ls hX hE hP hD hl hxt
  obtain ⟨hx, hb, hr, hml, hown, htA, hlk⟩ := id hX
  have hK := hE.1
  have hS : va_S A s.heap s.heap [] := va_S.rf
  have hl : lv_has ls 2 [(0, .ref (a 0)), (1, .int p1)] := hl
  refine lv_aload_n hx hb dX10_hurts_0 rfl (lv_at hl 0 rfl) ?_
  refine lv_iload_n hx hb dX10_hurts_1 rfl (lv_at hl 1 rfl) ?_
  refine xVv (As := [.int p1]) (rest := []) (wr := []) hX hE (au_X10_needWalker_1 l hlt D cy a p1) (cwVA 1 htA wd_896 wd_893 wd_1 wd_895 wp_27 (by decide +kernel) ⟨by decide, by decide⟩) hP hD hS [0, 1, 2] [] rfl rfl (by decide) 0 rfl rfl rfl rfl hl.1 rfl (Nat.le_of_ble_eq_true rfl) dX10_hurts_2 (by decide) (fun E ce q9 W1 H locs hw hP hD hS hce hcv hcl => ?_) (fun W1 H locs hw hP hD hS => ?_)
  · rcases hw with ⟨g1, rfl⟩ | ⟨g2, g3, rfl⟩
    · exact xO hX hE hxt hP hD hS hce hcv hcl (by decide) (by decide) (⟨rfl, (by have kg1 := g1; (try simp only [lg_cmp_lt, lg_cmp_le, lg_cmp_ge, lg_cmp_gt, lg_cmp_eq, fa_lt, fa_le, fa_eq, fa_lt64, fa_le64, fa_eq64, Int32.toInt_toInt64, li_0, lj_0] at kg1); first | rfl | (unfold kf_hurts; (repeat' split) <;> first | rfl | (exfalso; omega)))⟩)
    · exact xO hX hE hxt hP hD hS hce hcv hcl (by decide) (by decide) (⟨rfl, (by have kg2 := g2; have kg3 := g3; (try simp only [lg_cmp_lt, lg_cmp_le, lg_cmp_ge, lg_cmp_gt, lg_cmp_eq, fa_lt, fa_le, fa_eq, fa_lt64, fa_le64, fa_eq64, Int32.toInt_toInt64, li_0, lj_0] at kg2); (try simp only [lg_cmp_lt, lg_cmp_le, lg_cmp_ge, lg_cmp_gt, lg_cmp_eq, fa_lt, fa_le, fa_eq, fa_lt64, fa_le64, fa_eq64, Int32.toInt_toInt64, li_0, lj_0] at kg3); first | rfl | (unfold kf_hurts; (repeat' split) <;> first | rfl | (exfalso; omega)))⟩)
  · exact hw.elim
def kf_spares (p1 : Int32) (p2 : Int32) : Int32 := 1
def vf_spares (p1 : Int32) (p2 : Int32) : Int64 := 0
set_option maxHeartbeats 4000000 in
set_option maxRecDepth 100000 in
theorem m_spares (l : Launch) (hlt : l.stackTraces = false) (D : va_G) (cy : Nat → ClassId) (a : Nat → Nat) (p1 : Int32) (p2 : Int32) : Xi l yX10_spares cX10_spares 3 (some .int) { frames := 7, cells := 1, slots := 6, locals := 111 } D cy [.ref (a 0), .int p1, .int p2] [((a 0), .inr (10, [.ref (a 1), .int 0, .int 0, .int (-1), .ref (a 2), .ref (a 3), .ref (a 4), .ref (a 5), .ref (a 6), .ref (a 7), .ref (a 8), .ref (a 9), .int 0])), ((a 3), .inr (6, [.ref (a 10), .int 0, .ref (a 21), .ref (a 22), .ref (a 23), .ref (a 24), .ref (a 25), .int 0])), ((a 10), .inr (0, [.int 0, .int 1, .int 1, .int 0, .int 0, .ref (a 11), .ref (a 12), .ref (a 13), .null, .null]))] (fun r _ => kf_spares p1 p2 = 0 ∧ r.toInt64 = vf_spares p1 p2) (fun E _ => (E = "java/util/NoSuchElementException" ∧ kf_spares p1 p2 = 1)) := by
  refine Xi.of (by decide) (Nat.le_of_ble_eq_true rfl) ?_
  intro p e s m below meth c A ls hX hE hP hD hl hxt
  obtain ⟨hx, hb, hr, hml, hown, htA, hlk⟩ := id hX
  have hK := hE.1
  have hS : va_S A s.heap s.heap [] := va_S.rf
  have hl : lv_has ls 3 [(0, .ref (a 0)), (1, .int p1), (2, .int p2)] := hl
  refine lv_aload_n hx hb dX10_spares_0 rfl (lv_at hl 0 rfl) ?_
  refine lv_iload_n hx hb dX10_spares_1 rfl (lv_at hl 1 rfl) ?_
  refine xVv (As := [.int p1]) (rest := []) (wr := []) hX hE (au_X10_needWalker_1 l hlt D cy a p1) (cwVA 1 htA wd_896 wd_893 wd_1 wd_895 wp_27 (by decide +kernel) ⟨by decide, by decide⟩) hP hD hS [0, 1, 2] [] rfl rfl (by decide) 0 rfl rfl rfl rfl hl.1 rfl (Nat.le_of_ble_eq_true rfl) dX10_spares_2 (by decide) (fun E ce q9 W1 H locs hw hP hD hS hce hcv hcl => ?_) (fun W1 H locs hw hP hD hS => ?_)
  · rcases hw with ⟨g1, rfl⟩ | ⟨g2, g3, rfl⟩
    · exact xO hX hE hxt hP hD hS hce hcv hcl (by decide) (by decide) (⟨rfl, (by have kg1 := g1; (try simp only [lg_cmp_lt, lg_cmp_le, lg_cmp_ge, lg_cmp_gt, lg_cmp_eq, fa_lt, fa_le, fa_eq, fa_lt64, fa_le64, fa_eq64, Int32.toInt_toInt64, li_0, lj_0] at kg1); first | rfl | (unfold kf_spares; (repeat' split) <;> first | rfl | (exfalso; omega)))⟩)
    · exact xO hX hE hxt hP hD hS hce hcv hcl (by decide) (by decide) (⟨rfl, (by have kg2 := g2; have kg3 := g3; (try simp only [lg_cmp_lt, lg_cmp_le, lg_cmp_ge, lg_cmp_gt, lg_cmp_eq, fa_lt, fa_le, fa_eq, fa_lt64, fa_le64, fa_eq64, Int32.toInt_toInt64, li_0, lj_0] at kg2); (try simp only [lg_cmp_lt, lg_cmp_le, lg_cmp_ge, lg_cmp_gt, lg_cmp_eq, fa_lt, fa_le, fa_eq, fa_lt64, fa_le64, fa_eq64, Int32.toInt_toInt64, li_0, lj_0] at kg3); first | rfl | (unfold kf_spares; (repeat' split) <;> first | rfl | (exfalso; omega)))⟩)
  · exact hw.elim
def kf_fallsBy (p1 : Int32) (p2 : Int32) (p3 : Int32) (p4 : Int32) : Int32 := 1
def vf_fallsBy (p1 : Int32) (p2 : Int32) (p3 : Int32) (p4 : Int32) : Int64 := 0
set_option maxHeartbeats 4000000 in
set_option maxRecDepth 100000 in
theorem au_X10_needHeldAndPlace_2 (l : Launch) (hlt : l.stackTraces = false) (D : va_G) (cy : Nat → ClassId) (a : Nat → Nat) (v1_ : Int32) (v2_ : Int32) (v3_ : Int32) : Xv l yX10_needHeldAndPlace cX10_needHeldAndPlace 4 none { frames := 7, cells := 1, slots := 6, locals := 111 } D cy [.ref (a 0), .int v1_, .int v2_, .int v3_] [((a 0), .inr (10, [.ref (a 1), .int 0, .int 0, .int (-1), .ref (a 2), .ref (a 3), .ref (a 4), .ref (a 5), .ref (a 6), .ref (a 7), .ref (a 8), .ref (a 9), .int 0])), ((a 3), .inr (6, [.ref (a 10), .int 0, .ref (a 21), .ref (a 22), .ref (a 23), .ref (a 24), .ref (a 25), .int 0])), ((a 10), .inr (0, [.int 0, .int 1, .int 1, .int 0, .int 0, .ref (a 11), .ref (a 12), .ref (a 13), .null, .null]))] (fun _ => False) (fun E _ => ((v1_ < 0) ∧ E = "java/util/NoSuchElementException") ∨ ((¬ v1_ < 0) ∧ (¬ v1_ < 0) ∧ E = "java/util/NoSuchElementException")) := by
  refine Xv.of (by decide) (Nat.le_of_ble_eq_true rfl) ?_
  intro p e s m below meth c A ls hX hE hP hD hl hxt
  obtain ⟨hx, hb, hr, hml, hown, htA, hlk⟩ := id hX
  have hK := hE.1
  have hS : va_S A s.heap s.heap [] := va_S.rf
  have hl : lv_has ls 4 [(0, .ref (a 0)), (1, .int v1_), (2, .int v2_), (3, .int v3_)] := hl
  refine lv_aload_n hx hb dX10_needHeldAndPlace_0 rfl (lv_at hl 0 rfl) ?_
  refine lv_iload_n hx hb dX10_needHeldAndPlace_1 rfl (lv_at hl 1 rfl) ?_
  refine xVv (As := [.int v1_]) (rest := []) (wr := []) hX hE (au_X10_needThing_0 l hlt D cy a v1_) (cwVA 1 htA wd_868 wd_865 wd_1 wd_867 wp_26 (by decide +kernel) ⟨by decide, by decide⟩) hP hD hS [0, 1, 2] [] rfl rfl (by decide) 0 rfl rfl rfl rfl hl.1 rfl (Nat.le_of_ble_eq_true rfl) dX10_needHeldAndPlace_2 (by decide) (fun E ce q9 W1 H locs hw hP hD hS hce hcv hcl => ?_) (fun W1 H locs hw hP hD hS => ?_)
  · rcases hw with ⟨g1, rfl⟩ | ⟨g2, g3, rfl⟩
    · exact xO hX hE hxt hP hD hS hce hcv hcl (by decide) (by decide) (Or.inl (⟨g1, rfl⟩))
    · exact xO hX hE hxt hP hD hS hce hcv hcl (by decide) (by decide) (Or.inr (⟨g2, g3, rfl⟩))
  · exact hw.elim
set_option maxHeartbeats 4000000 in
set_option maxRecDepth 100000 in
theorem m_fallsBy (l : Launch) (hlt : l.stackTraces = false) (D : va_G) (cy : Nat → ClassId) (a : Nat → Nat) (p1 : Int32) (p2 : Int32) (p3 : Int32) (p4 : Int32) : Xi l yX10_fallsBy cX10_fallsBy 5 (some .int) { frames := 8, cells := 1, slots := 6, locals := 134 } D cy [.ref (a 0), .int p1, .int p2, .int p3, .int p4] [((a 0), .inr (10, [.ref (a 1), .int 0, .int 0, .int (-1), .ref (a 2), .ref (a 3), .ref (a 4), .ref (a 5), .ref (a 6), .ref (a 7), .ref (a 8), .ref (a 9), .int 0])), ((a 3), .inr (6, [.ref (a 10), .int 0, .ref (a 21), .ref (a 22), .ref (a 23), .ref (a 24), .ref (a 25), .int 0])), ((a 10), .inr (0, [.int 0, .int 1, .int 1, .int 0, .int 0, .ref (a 11), .ref (a 12), .ref (a 13), .null, .null]))] (fun r _ => kf_fallsBy p1 p2 p3 p4 = 0 ∧ r.toInt64 = vf_fallsBy p1 p2 p3 p4) (fun E _ => (E = "java/util/NoSuchElementException" ∧ kf_fallsBy p1 p2 p3 p4 = 1)) := by
  refine Xi.of (by decide) (Nat.le_of_ble_eq_true rfl) ?_
  intro p e s m below meth c A ls hX hE hP hD hl hxt
  obtain ⟨hx, hb, hr, hml, hown, htA, hlk⟩ := id hX
  have hK := hE.1
  have hS : va_S A s.heap s.heap [] := va_S.rf
  have hl : lv_has ls 5 [(0, .ref (a 0)), (1, .int p1), (2, .int p2), (3, .int p3), (4, .int p4)] := hl
  refine lv_aload_n hx hb dX10_fallsBy_0 rfl (lv_at hl 0 rfl) ?_
  refine lv_iload_n hx hb dX10_fallsBy_1 rfl (lv_at hl 1 rfl) ?_
  refine lv_iload_n hx hb dX10_fallsBy_2 rfl (lv_at hl 2 rfl) ?_
  refine lv_iload_n hx hb dX10_fallsBy_3 rfl (lv_at hl 3 rfl) ?_
  refine xVv (As := [.int p1, .int p2, .int p3]) (rest := []) (wr := []) hX hE (au_X10_needHeldAndPlace_2 l hlt D cy a p1 p2 p3) (cwVA 3 htA wd_1108 wd_1105 wd_1 wd_1107 wp_34 (by decide +kernel) ⟨by decide, by decide⟩) hP hD hS [0, 1, 2] [] rfl rfl (by decide) 0 rfl rfl rfl rfl hl.1 rfl (Nat.le_of_ble_eq_true rfl) dX10_fallsBy_4 (by decide) (fun E ce q9 W1 H locs hw hP hD hS hce hcv hcl => ?_) (fun W1 H locs hw hP hD hS => ?_)
  · rcases hw with ⟨g1, rfl⟩ | ⟨g2, g3, rfl⟩
    · exact xO hX hE hxt hP hD hS hce hcv hcl (by decide) (by decide) (⟨rfl, (by have kg1 := g1; (try simp only [lg_cmp_lt, lg_cmp_le, lg_cmp_ge, lg_cmp_gt, lg_cmp_eq, fa_lt, fa_le, fa_eq, fa_lt64, fa_le64, fa_eq64, Int32.toInt_toInt64, li_0, lj_0] at kg1); first | rfl | (unfold kf_fallsBy; (repeat' split) <;> first | rfl | (exfalso; omega)))⟩)
    · exact xO hX hE hxt hP hD hS hce hcv hcl (by decide) (by decide) (⟨rfl, (by have kg2 := g2; have kg3 := g3; (try simp only [lg_cmp_lt, lg_cmp_le, lg_cmp_ge, lg_cmp_gt, lg_cmp_eq, fa_lt, fa_le, fa_eq, fa_lt64, fa_le64, fa_eq64, Int32.toInt_toInt64, li_0, lj_0] at kg2); (try simp only [lg_cmp_lt, lg_cmp_le, lg_cmp_ge, lg_cmp_gt, lg_cmp_eq, fa_lt, fa_le, fa_eq, fa_lt64, fa_le64, fa_eq64, Int32.toInt_toInt64, li_0, lj_0] at kg3); first | rfl | (unfold kf_fallsBy; (repeat' split) <;> first | rfl | (exfalso; omega)))⟩)
  · exact hw.elim
def kf_waitFor (p1 : Int32) (p2 : Int32) (p3 : Int32) (p4 : Int32) : Int32 := 1
def vf_waitFor (p1 : Int32) (p2 : Int32) (p3 : Int32) (p4 : Int32) : Int64 := 0
set_option maxHeartbeats 4000000 in
set_option maxRecDepth 100000 in
theorem m_waitFor (l : Launch) (hlt : l.stackTraces = false) (D : va_G) (cy : Nat → ClassId) (a : Nat → Nat) (p1 : Int32) (p2 : Int32) (p3 : Int32) (p4 : Int32) : Xi l yX10_waitFor cX10_waitFor 6 (some .int) { frames := 8, cells := 1, slots := 6, locals := 134 } D cy [.ref (a 0), .int p1, .int p2, .int p3, .int p4] [((a 0), .inr (10, [.ref (a 1), .int 0, .int 0, .int (-1), .ref (a 2), .ref (a 3), .ref (a 4), .ref (a 5), .ref (a 6), .ref (a 7), .ref (a 8), .ref (a 9), .int 0])), ((a 3), .inr (6, [.ref (a 10), .int 0, .ref (a 21), .ref (a 22), .ref (a 23), .ref (a 24), .ref (a 25), .int 0])), ((a 10), .inr (0, [.int 0, .int 1, .int 1, .int 0, .int 0, .ref (a 11), .ref (a 12), .ref (a 13), .null, .null]))] (fun r _ => kf_waitFor p1 p2 p3 p4 = 0 ∧ r.toInt64 = vf_waitFor p1 p2 p3 p4) (fun E _ => (E = "java/util/NoSuchElementException" ∧ kf_waitFor p1 p2 p3 p4 = 1)) := by
  refine Xi.of (by decide) (Nat.le_of_ble_eq_true rfl) ?_
  intro p e s m below meth c A ls hX hE hP hD hl hxt
  obtain ⟨hx, hb, hr, hml, hown, htA, hlk⟩ := id hX
  have hK := hE.1
  have hS : va_S A s.heap s.heap [] := va_S.rf
  have hl : lv_has ls 6 [(0, .ref (a 0)), (1, .int p1), (2, .int p2), (3, .int p3), (4, .int p4)] := hl
  refine lv_aload_n hx hb dX10_waitFor_0 rfl (lv_at hl 0 rfl) ?_
  refine lv_iload_n hx hb dX10_waitFor_1 rfl (lv_at hl 1 rfl) ?_
  refine lv_iload_n hx hb dX10_waitFor_2 rfl (lv_at hl 2 rfl) ?_
  refine lv_iload_n hx hb dX10_waitFor_3 rfl (lv_at hl 3 rfl) ?_
  refine xVv (As := [.int p1, .int p2, .int p3]) (rest := []) (wr := []) hX hE (au_X10_needHeldAndPlace_2 l hlt D cy a p1 p2 p3) (cwVA 3 htA wd_1108 wd_1105 wd_1 wd_1107 wp_34 (by decide +kernel) ⟨by decide, by decide⟩) hP hD hS [0, 1, 2] [] rfl rfl (by decide) 0 rfl rfl rfl rfl hl.1 rfl (Nat.le_of_ble_eq_true rfl) dX10_waitFor_4 (by decide) (fun E ce q9 W1 H locs hw hP hD hS hce hcv hcl => ?_) (fun W1 H locs hw hP hD hS => ?_)
  · rcases hw with ⟨g1, rfl⟩ | ⟨g2, g3, rfl⟩
    · exact xO hX hE hxt hP hD hS hce hcv hcl (by decide) (by decide) (⟨rfl, (by have kg1 := g1; (try simp only [lg_cmp_lt, lg_cmp_le, lg_cmp_ge, lg_cmp_gt, lg_cmp_eq, fa_lt, fa_le, fa_eq, fa_lt64, fa_le64, fa_eq64, Int32.toInt_toInt64, li_0, lj_0] at kg1); first | rfl | (unfold kf_waitFor; (repeat' split) <;> first | rfl | (exfalso; omega)))⟩)
    · exact xO hX hE hxt hP hD hS hce hcv hcl (by decide) (by decide) (⟨rfl, (by have kg2 := g2; have kg3 := g3; (try simp only [lg_cmp_lt, lg_cmp_le, lg_cmp_ge, lg_cmp_gt, lg_cmp_eq, fa_lt, fa_le, fa_eq, fa_lt64, fa_le64, fa_eq64, Int32.toInt_toInt64, li_0, lj_0] at kg2); (try simp only [lg_cmp_lt, lg_cmp_le, lg_cmp_ge, lg_cmp_gt, lg_cmp_eq, fa_lt, fa_le, fa_eq, fa_lt64, fa_le64, fa_eq64, Int32.toInt_toInt64, li_0, lj_0] at kg3); first | rfl | (unfold kf_waitFor; (repeat' split) <;> first | rfl | (exfalso; omega)))⟩)
  · exact hw.elim
def kf_waitSafe (p1 : Int32) (p2 : Int32) (p3 : Int32) : Int32 := 1
def vf_waitSafe (p1 : Int32) (p2 : Int32) (p3 : Int32) : Int64 := 0
set_option maxHeartbeats 4000000 in
set_option maxRecDepth 100000 in
theorem m_waitSafe (l : Launch) (hlt : l.stackTraces = false) (D : va_G) (cy : Nat → ClassId) (a : Nat → Nat) (p1 : Int32) (p2 : Int32) (p3 : Int32) : Xi l yX10_waitSafe cX10_waitSafe 6 (some .int) { frames := 8, cells := 1, slots := 6, locals := 134 } D cy [.ref (a 0), .int p1, .int p2, .int p3] [((a 0), .inr (10, [.ref (a 1), .int 0, .int 0, .int (-1), .ref (a 2), .ref (a 3), .ref (a 4), .ref (a 5), .ref (a 6), .ref (a 7), .ref (a 8), .ref (a 9), .int 0])), ((a 3), .inr (6, [.ref (a 10), .int 0, .ref (a 21), .ref (a 22), .ref (a 23), .ref (a 24), .ref (a 25), .int 0])), ((a 10), .inr (0, [.int 0, .int 1, .int 1, .int 0, .int 0, .ref (a 11), .ref (a 12), .ref (a 13), .null, .null]))] (fun r _ => kf_waitSafe p1 p2 p3 = 0 ∧ r.toInt64 = vf_waitSafe p1 p2 p3) (fun E _ => (E = "java/util/NoSuchElementException" ∧ kf_waitSafe p1 p2 p3 = 1)) := by
  refine Xi.of (by decide) (Nat.le_of_ble_eq_true rfl) ?_
  intro p e s m below meth c A ls hX hE hP hD hl hxt
  obtain ⟨hx, hb, hr, hml, hown, htA, hlk⟩ := id hX
  have hK := hE.1
  have hS : va_S A s.heap s.heap [] := va_S.rf
  have hl : lv_has ls 6 [(0, .ref (a 0)), (1, .int p1), (2, .int p2), (3, .int p3)] := hl
  refine lv_aload_n hx hb dX10_waitSafe_0 rfl (lv_at hl 0 rfl) ?_
  refine lv_iload_n hx hb dX10_waitSafe_1 rfl (lv_at hl 1 rfl) ?_
  refine lv_iload_n hx hb dX10_waitSafe_2 rfl (lv_at hl 2 rfl) ?_
  refine lv_iload_n hx hb dX10_waitSafe_3 rfl (lv_at hl 3 rfl) ?_
  refine xVv (As := [.int p1, .int p2, .int p3]) (rest := []) (wr := []) hX hE (au_X10_needHeldAndPlace_2 l hlt D cy a p1 p2 p3) (cwVA 3 htA wd_1108 wd_1105 wd_1 wd_1107 wp_34 (by decide +kernel) ⟨by decide, by decide⟩) hP hD hS [0, 1, 2] [] rfl rfl (by decide) 0 rfl rfl rfl rfl hl.1 rfl (Nat.le_of_ble_eq_true rfl) dX10_waitSafe_4 (by decide) (fun E ce q9 W1 H locs hw hP hD hS hce hcv hcl => ?_) (fun W1 H locs hw hP hD hS => ?_)
  · rcases hw with ⟨g1, rfl⟩ | ⟨g2, g3, rfl⟩
    · exact xO hX hE hxt hP hD hS hce hcv hcl (by decide) (by decide) (⟨rfl, (by have kg1 := g1; (try simp only [lg_cmp_lt, lg_cmp_le, lg_cmp_ge, lg_cmp_gt, lg_cmp_eq, fa_lt, fa_le, fa_eq, fa_lt64, fa_le64, fa_eq64, Int32.toInt_toInt64, li_0, lj_0] at kg1); first | rfl | (unfold kf_waitSafe; (repeat' split) <;> first | rfl | (exfalso; omega)))⟩)
    · exact xO hX hE hxt hP hD hS hce hcv hcl (by decide) (by decide) (⟨rfl, (by have kg2 := g2; have kg3 := g3; (try simp only [lg_cmp_lt, lg_cmp_le, lg_cmp_ge, lg_cmp_gt, lg_cmp_eq, fa_lt, fa_le, fa_eq, fa_lt64, fa_le64, fa_eq64, Int32.toInt_toInt64, li_0, lj_0] at kg2); (try simp only [lg_cmp_lt, lg_cmp_le, lg_cmp_ge, lg_cmp_gt, lg_cmp_eq, fa_lt, fa_le, fa_eq, fa_lt64, fa_le64, fa_eq64, Int32.toInt_toInt64, li_0, lj_0] at kg3); first | rfl | (unfold kf_waitSafe; (repeat' split) <;> first | rfl | (exfalso; omega)))⟩)
  · exact hw.elim
def kf_waitHurt (p1 : Int32) (p2 : Int32) (p3 : Int32) (p4 : Int32) : Int32 := 1
def vf_waitHurt (p1 : Int32) (p2 : Int32) (p3 : Int32) (p4 : Int32) : Int64 := 0
set_option maxHeartbeats 4000000 in
set_option maxRecDepth 100000 in
theorem m_waitHurt (l : Launch) (hlt : l.stackTraces = false) (D : va_G) (cy : Nat → ClassId) (a : Nat → Nat) (p1 : Int32) (p2 : Int32) (p3 : Int32) (p4 : Int32) : Xi l yX10_waitHurt cX10_waitHurt 7 (some .int) { frames := 7, cells := 1, slots := 6, locals := 111 } D cy [.ref (a 0), .int p1, .int p2, .int p3, .int p4] [((a 0), .inr (10, [.ref (a 1), .int 0, .int 0, .int (-1), .ref (a 2), .ref (a 3), .ref (a 4), .ref (a 5), .ref (a 6), .ref (a 7), .ref (a 8), .ref (a 9), .int 0])), ((a 3), .inr (6, [.ref (a 10), .int 0, .ref (a 21), .ref (a 22), .ref (a 23), .ref (a 24), .ref (a 25), .int 0])), ((a 10), .inr (0, [.int 0, .int 1, .int 1, .int 0, .int 0, .ref (a 11), .ref (a 12), .ref (a 13), .null, .null]))] (fun r _ => kf_waitHurt p1 p2 p3 p4 = 0 ∧ r.toInt64 = vf_waitHurt p1 p2 p3 p4) (fun E _ => (E = "java/util/NoSuchElementException" ∧ kf_waitHurt p1 p2 p3 p4 = 1)) := by
  refine Xi.of (by decide) (Nat.le_of_ble_eq_true rfl) ?_
  intro p e s m below meth c A ls hX hE hP hD hl hxt
  obtain ⟨hx, hb, hr, hml, hown, htA, hlk⟩ := id hX
  have hK := hE.1
  have hS : va_S A s.heap s.heap [] := va_S.rf
  have hl : lv_has ls 7 [(0, .ref (a 0)), (1, .int p1), (2, .int p2), (3, .int p3), (4, .int p4)] := hl
  refine lv_aload_n hx hb dX10_waitHurt_0 rfl (lv_at hl 0 rfl) ?_
  refine lv_iload_n hx hb dX10_waitHurt_1 rfl (lv_at hl 1 rfl) ?_
  refine xVv (As := [.int p1]) (rest := []) (wr := []) hX hE (au_X10_needThing_0 l hlt D cy a p1) (cwVA 1 htA wd_868 wd_865 wd_1 wd_867 wp_26 (by decide +kernel) ⟨by decide, by decide⟩) hP hD hS [0, 1, 2] [] rfl rfl (by decide) 0 rfl rfl rfl rfl hl.1 rfl (Nat.le_of_ble_eq_true rfl) dX10_waitHurt_2 (by decide) (fun E ce q9 W1 H locs hw hP hD hS hce hcv hcl => ?_) (fun W1 H locs hw hP hD hS => ?_)
  · rcases hw with ⟨g1, rfl⟩ | ⟨g2, g3, rfl⟩
    · exact xO hX hE hxt hP hD hS hce hcv hcl (by decide) (by decide) (⟨rfl, (by have kg1 := g1; (try simp only [lg_cmp_lt, lg_cmp_le, lg_cmp_ge, lg_cmp_gt, lg_cmp_eq, fa_lt, fa_le, fa_eq, fa_lt64, fa_le64, fa_eq64, Int32.toInt_toInt64, li_0, lj_0] at kg1); first | rfl | (unfold kf_waitHurt; (repeat' split) <;> first | rfl | (exfalso; omega)))⟩)
    · exact xO hX hE hxt hP hD hS hce hcv hcl (by decide) (by decide) (⟨rfl, (by have kg2 := g2; have kg3 := g3; (try simp only [lg_cmp_lt, lg_cmp_le, lg_cmp_ge, lg_cmp_gt, lg_cmp_eq, fa_lt, fa_le, fa_eq, fa_lt64, fa_le64, fa_eq64, Int32.toInt_toInt64, li_0, lj_0] at kg2); (try simp only [lg_cmp_lt, lg_cmp_le, lg_cmp_ge, lg_cmp_gt, lg_cmp_eq, fa_lt, fa_le, fa_eq, fa_lt64, fa_le64, fa_eq64, Int32.toInt_toInt64, li_0, lj_0] at kg3); first | rfl | (unfold kf_waitHurt; (repeat' split) <;> first | rfl | (exfalso; omega)))⟩)
  · exact hw.elim
def kf_place (p1 : Int32) (p2 : Int32) : Int32 := 1
def vf_place (p1 : Int32) (p2 : Int32) : Int64 := 0
set_option maxHeartbeats 4000000 in
set_option maxRecDepth 100000 in
theorem m_place (l : Launch) (hlt : l.stackTraces = false) (D : va_G) (cy : Nat → ClassId) (a : Nat → Nat) (p1 : Int32) (p2 : Int32) : Xi l yX10_place cX10_place 9 (some .int) { frames := 7, cells := 1, slots := 6, locals := 111 } D cy [.ref (a 0), .int p1, .int p2] [((a 0), .inr (10, [.ref (a 1), .int 0, .int 0, .int (-1), .ref (a 2), .ref (a 3), .ref (a 4), .ref (a 5), .ref (a 6), .ref (a 7), .ref (a 8), .ref (a 9), .int 0])), ((a 3), .inr (6, [.ref (a 10), .int 0, .ref (a 21), .ref (a 22), .ref (a 23), .ref (a 24), .ref (a 25), .int 0])), ((a 10), .inr (0, [.int 0, .int 1, .int 1, .int 0, .int 0, .ref (a 11), .ref (a 12), .ref (a 13), .null, .null]))] (fun r _ => kf_place p1 p2 = 0 ∧ r.toInt64 = vf_place p1 p2) (fun E _ => (E = "java/util/NoSuchElementException" ∧ kf_place p1 p2 = 1)) := by
  refine Xi.of (by decide) (Nat.le_of_ble_eq_true rfl) ?_
  intro p e s m below meth c A ls hX hE hP hD hl hxt
  obtain ⟨hx, hb, hr, hml, hown, htA, hlk⟩ := id hX
  have hK := hE.1
  have hS : va_S A s.heap s.heap [] := va_S.rf
  have hl : lv_has ls 9 [(0, .ref (a 0)), (1, .int p1), (2, .int p2)] := hl
  refine lv_aload_n hx hb dX10_place_0 rfl (lv_at hl 0 rfl) ?_
  refine lv_iload_n hx hb dX10_place_1 rfl (lv_at hl 1 rfl) ?_
  refine xVv (As := [.int p1]) (rest := []) (wr := []) hX hE (au_X10_needThing_0 l hlt D cy a p1) (cwVA 1 htA wd_868 wd_865 wd_1 wd_867 wp_26 (by decide +kernel) ⟨by decide, by decide⟩) hP hD hS [0, 1, 2] [] rfl rfl (by decide) 0 rfl rfl rfl rfl hl.1 rfl (Nat.le_of_ble_eq_true rfl) dX10_place_2 (by decide) (fun E ce q9 W1 H locs hw hP hD hS hce hcv hcl => ?_) (fun W1 H locs hw hP hD hS => ?_)
  · rcases hw with ⟨g1, rfl⟩ | ⟨g2, g3, rfl⟩
    · exact xO hX hE hxt hP hD hS hce hcv hcl (by decide) (by decide) (⟨rfl, (by have kg1 := g1; (try simp only [lg_cmp_lt, lg_cmp_le, lg_cmp_ge, lg_cmp_gt, lg_cmp_eq, fa_lt, fa_le, fa_eq, fa_lt64, fa_le64, fa_eq64, Int32.toInt_toInt64, li_0, lj_0] at kg1); first | rfl | (unfold kf_place; (repeat' split) <;> first | rfl | (exfalso; omega)))⟩)
    · exact xO hX hE hxt hP hD hS hce hcv hcl (by decide) (by decide) (⟨rfl, (by have kg2 := g2; have kg3 := g3; (try simp only [lg_cmp_lt, lg_cmp_le, lg_cmp_ge, lg_cmp_gt, lg_cmp_eq, fa_lt, fa_le, fa_eq, fa_lt64, fa_le64, fa_eq64, Int32.toInt_toInt64, li_0, lj_0] at kg2); (try simp only [lg_cmp_lt, lg_cmp_le, lg_cmp_ge, lg_cmp_gt, lg_cmp_eq, fa_lt, fa_le, fa_eq, fa_lt64, fa_le64, fa_eq64, Int32.toInt_toInt64, li_0, lj_0] at kg3); first | rfl | (unfold kf_place; (repeat' split) <;> first | rfl | (exfalso; omega)))⟩)
  · exact hw.elim
def kf_worst (p1 : Int32) (p2 : Int32) : Int32 := 1
def vf_worst (p1 : Int32) (p2 : Int32) : Int64 := 0
set_option maxHeartbeats 4000000 in
set_option maxRecDepth 100000 in
theorem m_worst (l : Launch) (hlt : l.stackTraces = false) (D : va_G) (cy : Nat → ClassId) (a : Nat → Nat) (p1 : Int32) (p2 : Int32) : Xi l yX10_worst cX10_worst 10 (some .int) { frames := 7, cells := 1, slots := 6, locals := 111 } D cy [.ref (a 0), .int p1, .int p2] [((a 0), .inr (10, [.ref (a 1), .int 0, .int 0, .int (-1), .ref (a 2), .ref (a 3), .ref (a 4), .ref (a 5), .ref (a 6), .ref (a 7), .ref (a 8), .ref (a 9), .int 0])), ((a 3), .inr (6, [.ref (a 10), .int 0, .ref (a 21), .ref (a 22), .ref (a 23), .ref (a 24), .ref (a 25), .int 0])), ((a 10), .inr (0, [.int 0, .int 1, .int 1, .int 0, .int 0, .ref (a 11), .ref (a 12), .ref (a 13), .null, .null]))] (fun r _ => kf_worst p1 p2 = 0 ∧ r.toInt64 = vf_worst p1 p2) (fun E _ => (E = "java/util/NoSuchElementException" ∧ kf_worst p1 p2 = 1)) := by
  refine Xi.of (by decide) (Nat.le_of_ble_eq_true rfl) ?_
  intro p e s m below meth c A ls hX hE hP hD hl hxt
  obtain ⟨hx, hb, hr, hml, hown, htA, hlk⟩ := id hX
  have hK := hE.1
  have hS : va_S A s.heap s.heap [] := va_S.rf
  have hl : lv_has ls 10 [(0, .ref (a 0)), (1, .int p1), (2, .int p2)] := hl
  refine lv_aload_n hx hb dX10_worst_0 rfl (lv_at hl 0 rfl) ?_
  refine lv_iload_n hx hb dX10_worst_1 rfl (lv_at hl 1 rfl) ?_
  refine xVv (As := [.int p1]) (rest := []) (wr := []) hX hE (au_X10_needThing_0 l hlt D cy a p1) (cwVA 1 htA wd_868 wd_865 wd_1 wd_867 wp_26 (by decide +kernel) ⟨by decide, by decide⟩) hP hD hS [0, 1, 2] [] rfl rfl (by decide) 0 rfl rfl rfl rfl hl.1 rfl (Nat.le_of_ble_eq_true rfl) dX10_worst_2 (by decide) (fun E ce q9 W1 H locs hw hP hD hS hce hcv hcl => ?_) (fun W1 H locs hw hP hD hS => ?_)
  · rcases hw with ⟨g1, rfl⟩ | ⟨g2, g3, rfl⟩
    · exact xO hX hE hxt hP hD hS hce hcv hcl (by decide) (by decide) (⟨rfl, (by have kg1 := g1; (try simp only [lg_cmp_lt, lg_cmp_le, lg_cmp_ge, lg_cmp_gt, lg_cmp_eq, fa_lt, fa_le, fa_eq, fa_lt64, fa_le64, fa_eq64, Int32.toInt_toInt64, li_0, lj_0] at kg1); first | rfl | (unfold kf_worst; (repeat' split) <;> first | rfl | (exfalso; omega)))⟩)
    · exact xO hX hE hxt hP hD hS hce hcv hcl (by decide) (by decide) (⟨rfl, (by have kg2 := g2; have kg3 := g3; (try simp only [lg_cmp_lt, lg_cmp_le, lg_cmp_ge, lg_cmp_gt, lg_cmp_eq, fa_lt, fa_le, fa_eq, fa_lt64, fa_le64, fa_eq64, Int32.toInt_toInt64, li_0, lj_0] at kg2); (try simp only [lg_cmp_lt, lg_cmp_le, lg_cmp_ge, lg_cmp_gt, lg_cmp_eq, fa_lt, fa_le, fa_eq, fa_lt64, fa_le64, fa_eq64, Int32.toInt_toInt64, li_0, lj_0] at kg3); first | rfl | (unfold kf_worst; (repeat' split) <;> first | rfl | (exfalso; omega)))⟩)
  · exact hw.elim
def kf_both (p1 : Int32) (p2 : Int32) (p3 : Int32) (p4 : Int32) (p5 : Int32) (p6 : Int32) : Int32 := 1
def vf_both (p1 : Int32) (p2 : Int32) (p3 : Int32) (p4 : Int32) (p5 : Int32) (p6 : Int32) : Int64 := 0
set_option maxHeartbeats 4000000 in
set_option maxRecDepth 100000 in
theorem m_both (l : Launch) (hlt : l.stackTraces = false) (D : va_G) (cy : Nat → ClassId) (a : Nat → Nat) (p1 : Int32) (p2 : Int32) (p3 : Int32) (p4 : Int32) (p5 : Int32) (p6 : Int32) : Xi l yX10_both cX10_both 13 (some .int) { frames := 7, cells := 1, slots := 6, locals := 111 } D cy [.ref (a 0), .int p1, .int p2, .int p3, .int p4, .int p5, .int p6] [((a 0), .inr (10, [.ref (a 1), .int 0, .int 0, .int (-1), .ref (a 2), .ref (a 3), .ref (a 4), .ref (a 5), .ref (a 6), .ref (a 7), .ref (a 8), .ref (a 9), .int 0])), ((a 3), .inr (6, [.ref (a 10), .int 0, .ref (a 21), .ref (a 22), .ref (a 23), .ref (a 24), .ref (a 25), .int 0])), ((a 10), .inr (0, [.int 0, .int 1, .int 1, .int 0, .int 0, .ref (a 11), .ref (a 12), .ref (a 13), .null, .null]))] (fun r _ => kf_both p1 p2 p3 p4 p5 p6 = 0 ∧ r.toInt64 = vf_both p1 p2 p3 p4 p5 p6) (fun E _ => (E = "java/util/NoSuchElementException" ∧ kf_both p1 p2 p3 p4 p5 p6 = 1)) := by
  refine Xi.of (by decide) (Nat.le_of_ble_eq_true rfl) ?_
  intro p e s m below meth c A ls hX hE hP hD hl hxt
  obtain ⟨hx, hb, hr, hml, hown, htA, hlk⟩ := id hX
  have hK := hE.1
  have hS : va_S A s.heap s.heap [] := va_S.rf
  have hl : lv_has ls 13 [(0, .ref (a 0)), (1, .int p1), (2, .int p2), (3, .int p3), (4, .int p4), (5, .int p5), (6, .int p6)] := hl
  refine lv_aload_n hx hb dX10_both_0 rfl (lv_at hl 0 rfl) ?_
  refine lv_iload_n hx hb dX10_both_1 rfl (lv_at hl 1 rfl) ?_
  refine xVv (As := [.int p1]) (rest := []) (wr := []) hX hE (au_X10_needThing_0 l hlt D cy a p1) (cwVA 1 htA wd_868 wd_865 wd_1 wd_867 wp_26 (by decide +kernel) ⟨by decide, by decide⟩) hP hD hS [0, 1, 2] [] rfl rfl (by decide) 0 rfl rfl rfl rfl hl.1 rfl (Nat.le_of_ble_eq_true rfl) dX10_both_2 (by decide) (fun E ce q9 W1 H locs hw hP hD hS hce hcv hcl => ?_) (fun W1 H locs hw hP hD hS => ?_)
  · rcases hw with ⟨g1, rfl⟩ | ⟨g2, g3, rfl⟩
    · exact xO hX hE hxt hP hD hS hce hcv hcl (by decide) (by decide) (⟨rfl, (by have kg1 := g1; (try simp only [lg_cmp_lt, lg_cmp_le, lg_cmp_ge, lg_cmp_gt, lg_cmp_eq, fa_lt, fa_le, fa_eq, fa_lt64, fa_le64, fa_eq64, Int32.toInt_toInt64, li_0, lj_0] at kg1); first | rfl | (unfold kf_both; (repeat' split) <;> first | rfl | (exfalso; omega)))⟩)
    · exact xO hX hE hxt hP hD hS hce hcv hcl (by decide) (by decide) (⟨rfl, (by have kg2 := g2; have kg3 := g3; (try simp only [lg_cmp_lt, lg_cmp_le, lg_cmp_ge, lg_cmp_gt, lg_cmp_eq, fa_lt, fa_le, fa_eq, fa_lt64, fa_le64, fa_eq64, Int32.toInt_toInt64, li_0, lj_0] at kg2); (try simp only [lg_cmp_lt, lg_cmp_le, lg_cmp_ge, lg_cmp_gt, lg_cmp_eq, fa_lt, fa_le, fa_eq, fa_lt64, fa_le64, fa_eq64, Int32.toInt_toInt64, li_0, lj_0] at kg3); first | rfl | (unfold kf_both; (repeat' split) <;> first | rfl | (exfalso; omega)))⟩)
  · exact hw.elim
def kf_later (p1 : Int32) (p2 : Int32) : Int32 := 1
def vf_later (p1 : Int32) (p2 : Int32) : Int64 := 0
set_option maxHeartbeats 4000000 in
set_option maxRecDepth 100000 in
theorem m_later (l : Launch) (hlt : l.stackTraces = false) (D : va_G) (cy : Nat → ClassId) (a : Nat → Nat) (p1 : Int32) (p2 : Int32) : Xi l yX10_later cX10_later 3 (some .int) { frames := 7, cells := 1, slots := 6, locals := 111 } D cy [.ref (a 0), .int p1, .int p2] [((a 0), .inr (10, [.ref (a 1), .int 0, .int 0, .int (-1), .ref (a 2), .ref (a 3), .ref (a 4), .ref (a 5), .ref (a 6), .ref (a 7), .ref (a 8), .ref (a 9), .int 0])), ((a 3), .inr (6, [.ref (a 10), .int 0, .ref (a 21), .ref (a 22), .ref (a 23), .ref (a 24), .ref (a 25), .int 0])), ((a 10), .inr (0, [.int 0, .int 1, .int 1, .int 0, .int 0, .ref (a 11), .ref (a 12), .ref (a 13), .null, .null]))] (fun r _ => kf_later p1 p2 = 0 ∧ r.toInt64 = vf_later p1 p2) (fun E _ => (E = "java/util/NoSuchElementException" ∧ kf_later p1 p2 = 1)) := by
  refine Xi.of (by decide) (Nat.le_of_ble_eq_true rfl) ?_
  intro p e s m below meth c A ls hX hE hP hD hl hxt
  obtain ⟨hx, hb, hr, hml, hown, htA, hlk⟩ := id hX
  have hK := hE.1
  have hS : va_S A s.heap s.heap [] := va_S.rf
  have hl : lv_has ls 3 [(0, .ref (a 0)), (1, .int p1), (2, .int p2)] := hl
  refine lv_aload_n hx hb dX10_later_0 rfl (lv_at hl 0 rfl) ?_
  refine lv_iload_n hx hb dX10_later_1 rfl (lv_at hl 1 rfl) ?_
  refine xVv (As := [.int p1]) (rest := []) (wr := []) hX hE (au_X10_needWalker_1 l hlt D cy a p1) (cwVA 1 htA wd_896 wd_893 wd_1 wd_895 wp_27 (by decide +kernel) ⟨by decide, by decide⟩) hP hD hS [0, 1, 2] [] rfl rfl (by decide) 0 rfl rfl rfl rfl hl.1 rfl (Nat.le_of_ble_eq_true rfl) dX10_later_2 (by decide) (fun E ce q9 W1 H locs hw hP hD hS hce hcv hcl => ?_) (fun W1 H locs hw hP hD hS => ?_)
  · rcases hw with ⟨g1, rfl⟩ | ⟨g2, g3, rfl⟩
    · exact xO hX hE hxt hP hD hS hce hcv hcl (by decide) (by decide) (⟨rfl, (by have kg1 := g1; (try simp only [lg_cmp_lt, lg_cmp_le, lg_cmp_ge, lg_cmp_gt, lg_cmp_eq, fa_lt, fa_le, fa_eq, fa_lt64, fa_le64, fa_eq64, Int32.toInt_toInt64, li_0, lj_0] at kg1); first | rfl | (unfold kf_later; (repeat' split) <;> first | rfl | (exfalso; omega)))⟩)
    · exact xO hX hE hxt hP hD hS hce hcv hcl (by decide) (by decide) (⟨rfl, (by have kg2 := g2; have kg3 := g3; (try simp only [lg_cmp_lt, lg_cmp_le, lg_cmp_ge, lg_cmp_gt, lg_cmp_eq, fa_lt, fa_le, fa_eq, fa_lt64, fa_le64, fa_eq64, Int32.toInt_toInt64, li_0, lj_0] at kg2); (try simp only [lg_cmp_lt, lg_cmp_le, lg_cmp_ge, lg_cmp_gt, lg_cmp_eq, fa_lt, fa_le, fa_eq, fa_lt64, fa_le64, fa_eq64, Int32.toInt_toInt64, li_0, lj_0] at kg3); first | rfl | (unfold kf_later; (repeat' split) <;> first | rfl | (exfalso; omega)))⟩)
  · exact hw.elim
def kf_height (p1 : Int32) : Int32 := if p1.toInt = 0 then 0 else 1
def vf_height (p1 : Int32) : Int64 := 0
set_option maxHeartbeats 4000000 in
set_option maxRecDepth 100000 in
theorem au_X10_needColumn_3 (l : Launch) (hlt : l.stackTraces = false) (D : va_G) (cy : Nat → ClassId) (a : Nat → Nat) (v1_ : Int32) : Xv l yX10_needColumn cX10_needColumn 2 none { frames := 6, cells := 1, slots := 6, locals := 90 } D cy [.ref (a 0), .int v1_] [((a 0), .inr (10, [.ref (a 1), .int 0, .int 0, .int (-1), .ref (a 2), .ref (a 3), .ref (a 4), .ref (a 5), .ref (a 6), .ref (a 7), .ref (a 8), .ref (a 9), .int 0])), ((a 3), .inr (6, [.ref (a 10), .int 0, .ref (a 21), .ref (a 22), .ref (a 23), .ref (a 24), .ref (a 25), .int 0])), ((a 10), .inr (0, [.int 0, .int 1, .int 1, .int 0, .int 0, .ref (a 11), .ref (a 12), .ref (a 13), .null, .null]))] (fun W1 => ((¬ v1_ < 0) ∧ (v1_ < 1) ∧ (v1_ = 0) ∧ W1 = [((a 0), .inr (10, [.ref (a 1), .int 0, .int 0, .int (-1), .ref (a 2), .ref (a 3), .ref (a 4), .ref (a 5), .ref (a 6), .ref (a 7), .ref (a 8), .ref (a 9), .int 0])), ((a 3), .inr (6, [.ref (a 10), .int 0, .ref (a 21), .ref (a 22), .ref (a 23), .ref (a 24), .ref (a 25), .int 0])), ((a 10), .inr (0, [.int 0, .int 1, .int 1, .int 0, .int 0, .ref (a 11), .ref (a 12), .ref (a 13), .null, .null]))])) (fun E _ => ((v1_ < 0) ∧ E = "java/util/NoSuchElementException") ∨ ((¬ v1_ < 0) ∧ (¬ v1_ < 1) ∧ E = "java/util/NoSuchElementException")) := by
  refine Xv.of (by decide) (Nat.le_of_ble_eq_true rfl) ?_
  intro p e s m below meth c A ls hX hE hP hD hl hxt
  obtain ⟨hx, hb, hr, hml, hown, htA, hlk⟩ := id hX
  have hK := hE.1
  have hS : va_S A s.heap s.heap [] := va_S.rf
  have hl : lv_has ls 2 [(0, .ref (a 0)), (1, .int v1_)] := hl
  refine lv_iload_n hx hb dX10_needColumn_0 rfl (lv_at hl 1 rfl) ?_
  refine lv_if_lt (tgt := 18) hx hb dX10_needColumn_1 (by decide) (fun c1 => ?_) (fun c1 => ?_)
  · exact k_throwN rx_0 rx_1 rx_2 rx_5 hlt hX hE hxt hP hD hS hl.1 (by decide) (htA _ wd_869) (htA _ wd_23) (xSW_in hE.2.2.2 "LateFalls" 194 "no such column" (by decide)) (at_X10_185 htA hE.2.2.2) ot_X10_181_185 (htA _ wd_881) (htA _ wd_880) dX10_needColumn_18 dX10_needColumn_21 dX10_needColumn_22 dX10_needColumn_24 dX10_needColumn_27 (by decide) (by decide) (by decide) (by decide) (by decide) (by decide) (Or.inl (⟨c1, rfl⟩))
  · refine lv_iload_n hx hb dX10_needColumn_4 rfl (lv_at hl 1 rfl) ?_
    refine lv_aload_n hx hb dX10_needColumn_5 rfl (lv_at hl 0 rfl) ?_
    refine va_get (ci := 10) (v := .ref (a 3)) (C := RX10) (T := TX10) (N := 13) hx hb htA in_X10 hown hK hP 0 rfl rfl 5 (by decide) (htA _ wd_313) (fun _ h => h) rfl dX10_needColumn_6 ?_
    refine va_get (ci := 6) (v := .ref (a 10)) (C := RX6) (T := TX6) (N := 8) hx hb htA in_X6 hown hK hP 1 rfl rfl 0 (by decide) (htA _ wd_168) (fun _ h => h) rfl dX10_needColumn_9 ?_
    refine va_get (ci := 0) (v := .int 1) (C := RX0) (T := TX0) (N := 10) hx hb htA in_X0 hown hK hP 2 rfl rfl 1 (by decide) (htA _ wd_80) (fun _ h => h) rfl dX10_needColumn_12 ?_
    refine lv_icmp_lt (tgt := 28) hx hb dX10_needColumn_15 (by decide) (fun c2 => ?_) (fun c2 => ?_)
    · obtain rfl : v1_ = 0 := (by have kc1 := c1; have kc2 := c2; (try simp only [lg_cmp_lt, lg_cmp_le, lg_cmp_ge, lg_cmp_gt, lg_cmp_eq, fa_lt, fa_le, fa_eq, fa_lt64, fa_le64, fa_eq64, Int32.toInt_toInt64, li_0, lj_0, li_1, lj_1] at kc1); (try simp only [lg_cmp_lt, lg_cmp_le, lg_cmp_ge, lg_cmp_gt, lg_cmp_eq, fa_lt, fa_le, fa_eq, fa_lt64, fa_le64, fa_eq64, Int32.toInt_toInt64, li_0, lj_0, li_1, lj_1] at kc2); rw [fa_eq, li_0]; omega)
      exact vx_ret (rV hX hE hP hD hS dX10_needColumn_28 (by decide) (by decide) (⟨c1, c2, rfl, rfl⟩))
    · exact k_throwN rx_0 rx_1 rx_2 rx_5 hlt hX hE hxt hP hD hS hl.1 (by decide) (htA _ wd_869) (htA _ wd_23) (xSW_in hE.2.2.2 "LateFalls" 194 "no such column" (by decide)) (at_X10_185 htA hE.2.2.2) ot_X10_181_185 (htA _ wd_881) (htA _ wd_880) dX10_needColumn_18 dX10_needColumn_21 dX10_needColumn_22 dX10_needColumn_24 dX10_needColumn_27 (by decide) (by decide) (by decide) (by decide) (by decide) (by decide) (Or.inr (⟨c1, c2, rfl⟩))
set_option maxHeartbeats 4000000 in
set_option maxRecDepth 100000 in
theorem au_X6_lying_4 (l : Launch) (D : va_G) (cy : Nat → ClassId) (a : Nat → Nat) : Ci l yX6_lying cX6_lying 4 (some .int) { frames := 0, cells := 0, slots := 0, locals := 0 } D cy [.ref (a 3), .int 0] [((a 3), .inr (6, [.ref (a 10), .int 0, .ref (a 21), .ref (a 22), .ref (a 23), .ref (a 24), .ref (a 25), .int 0])), ((a 10), .inr (0, [.int 0, .int 1, .int 1, .int 0, .int 0, .ref (a 11), .ref (a 12), .ref (a 13), .null, .null]))] (fun r W1 => (W1 = [((a 3), .inr (6, [.ref (a 10), .int 0, .ref (a 21), .ref (a 22), .ref (a 23), .ref (a 24), .ref (a 25), .int 0])), ((a 10), .inr (0, [.int 0, .int 1, .int 1, .int 0, .int 0, .ref (a 11), .ref (a 12), .ref (a 13), .null, .null]))] ∧ r = 0)) := by
  refine Ci.of (by decide) (Nat.le_of_ble_eq_true rfl) ?_
  intro p e s m below meth c A ls hX hE hP hD hl
  obtain ⟨hx, hb, hr, hml, hown, htA, hlk⟩ := id hX
  have hK := hE.1
  have hS : va_S A s.heap s.heap [] := va_S.rf
  have hl : lv_has ls 4 [(0, .ref (a 3)), (1, .int 0)] := hl
  refine lv_iconst (v := 0) hx hb dX6_lying_0 (by decide) ?_
  refine lv_istore_n (lv' := [(2, .int 0), (0, .ref (a 3)), (1, .int 0)]) hx hb dX6_lying_1 rfl hl (by decide) rfl (fun ls hl => ?_)
  refine lv_iconst (v := 0) hx hb dX6_lying_2 (by decide) ?_
  refine lv_istore_n (lv' := [(3, .int 0), (2, .int 0), (0, .ref (a 3)), (1, .int 0)]) hx hb dX6_lying_3 rfl hl (by decide) rfl (fun ls hl => ?_)
  refine lv_iload_n hx hb dX6_lying_4 rfl (lv_at hl 0 rfl) ?_
  refine lv_aload_n hx hb dX6_lying_5 rfl (lv_at hl 2 rfl) ?_
  refine va_get (ci := 6) (v := .ref (a 10)) (C := RX6) (T := TX6) (N := 8) hx hb htA in_X6 hown hK hP 0 rfl rfl 0 (by decide) (htA _ wd_166) (fun _ h => h) rfl dX6_lying_6 ?_
  refine va_get (ci := 0) (v := .int 0) (C := RX0) (T := TX0) (N := 10) hx hb htA in_X0 hown hK hP 1 rfl rfl 3 (by decide) (htA _ wd_86) (fun _ h => h) rfl dX6_lying_9 ?_
  refine lv_icmp_ge (tgt := 44) hx hb dX6_lying_12 (by decide) (fun _ => ?_) (fun q => absurd (by decide) q)
  refine lv_iload_n hx hb dX6_lying_44 rfl (lv_at hl 1 rfl) ?_
  exact rI hX hE hP hD hS dX6_lying_45 (by decide) (by decide) (⟨rfl, rfl⟩)
set_option maxHeartbeats 4000000 in
set_option maxRecDepth 100000 in
theorem m_height (l : Launch) (hlt : l.stackTraces = false) (D : va_G) (cy : Nat → ClassId) (a : Nat → Nat) (p1 : Int32) : Xi l yX10_height cX10_height 2 (some .int) { frames := 7, cells := 1, slots := 6, locals := 111 } D cy [.ref (a 0), .int p1] [((a 0), .inr (10, [.ref (a 1), .int 0, .int 0, .int (-1), .ref (a 2), .ref (a 3), .ref (a 4), .ref (a 5), .ref (a 6), .ref (a 7), .ref (a 8), .ref (a 9), .int 0])), ((a 3), .inr (6, [.ref (a 10), .int 0, .ref (a 21), .ref (a 22), .ref (a 23), .ref (a 24), .ref (a 25), .int 0])), ((a 10), .inr (0, [.int 0, .int 1, .int 1, .int 0, .int 0, .ref (a 11), .ref (a 12), .ref (a 13), .null, .null]))] (fun r _ => kf_height p1 = 0 ∧ r.toInt64 = vf_height p1) (fun E _ => (E = "java/util/NoSuchElementException" ∧ kf_height p1 = 1)) := by
  refine Xi.of (by decide) (Nat.le_of_ble_eq_true rfl) ?_
  intro p e s m below meth c A ls hX hE hP hD hl hxt
  obtain ⟨hx, hb, hr, hml, hown, htA, hlk⟩ := id hX
  have hK := hE.1
  have hS : va_S A s.heap s.heap [] := va_S.rf
  have hl : lv_has ls 2 [(0, .ref (a 0)), (1, .int p1)] := hl
  refine lv_aload_n hx hb dX10_height_0 rfl (lv_at hl 0 rfl) ?_
  refine lv_iload_n hx hb dX10_height_1 rfl (lv_at hl 1 rfl) ?_
  refine xVv (As := [.int p1]) (rest := []) (wr := []) hX hE (au_X10_needColumn_3 l hlt D cy a p1) (cwVA 1 htA wd_909 wd_906 wd_1 wd_908 wp_28 (by decide +kernel) ⟨by decide, by decide⟩) hP hD hS [0, 1, 2] [] rfl rfl (by decide) 0 rfl rfl rfl rfl hl.1 rfl (Nat.le_of_ble_eq_true rfl) dX10_height_2 (by decide) (fun E ce q9 W1 H locs hw hP hD hS hce hcv hcl => ?_) (fun W1 H locs hw hP hD hS => ?_)
  · rcases hw with ⟨g4, rfl⟩ | ⟨g5, g6, rfl⟩
    · exact xO hX hE hxt hP hD hS hce hcv hcl (by decide) (by decide) (⟨rfl, (by have kg4 := g4; (try simp only [lg_cmp_lt, lg_cmp_le, lg_cmp_ge, lg_cmp_gt, lg_cmp_eq, fa_lt, fa_le, fa_eq, fa_lt64, fa_le64, fa_eq64, Int32.toInt_toInt64, li_0, lj_0] at kg4); first | rfl | (unfold kf_height; (repeat' split) <;> first | rfl | (exfalso; omega)))⟩)
    · exact xO hX hE hxt hP hD hS hce hcv hcl (by decide) (by decide) (⟨rfl, (by have kg5 := g5; have kg6 := g6; (try simp only [lg_cmp_lt, lg_cmp_le, lg_cmp_ge, lg_cmp_gt, lg_cmp_eq, fa_lt, fa_le, fa_eq, fa_lt64, fa_le64, fa_eq64, Int32.toInt_toInt64, li_0, lj_0, li_1, lj_1] at kg5); (try simp only [lg_cmp_lt, lg_cmp_le, lg_cmp_ge, lg_cmp_gt, lg_cmp_eq, fa_lt, fa_le, fa_eq, fa_lt64, fa_le64, fa_eq64, Int32.toInt_toInt64, li_0, lj_0, li_1, lj_1] at kg6); first | rfl | (unfold kf_height; (repeat' split) <;> first | rfl | (exfalso; omega)))⟩)
  · refine W.widen (k := 1) (n := 6) (by decide) (by decide) ?_
    obtain ⟨g1, g2, g3, rfl⟩ := hw
    have hP : va_P D vwCl [((a 0), .inr (10, [.ref (a 1), .int 0, .int 0, .int (-1), .ref (a 2), .ref (a 3), .ref (a 4), .ref (a 5), .ref (a 6), .ref (a 7), .ref (a 8), .ref (a 9), .int 0])), ((a 3), .inr (6, [.ref (a 10), .int 0, .ref (a 21), .ref (a 22), .ref (a 23), .ref (a 24), .ref (a 25), .int 0])), ((a 10), .inr (0, [.int 0, .int 1, .int 1, .int 0, .int 0, .ref (a 11), .ref (a 12), .ref (a 13), .null, .null]))] H := hP
    have hD : va_D A [((a 0), .inr (10, [.ref (a 1), .int 0, .int 0, .int (-1), .ref (a 2), .ref (a 3), .ref (a 4), .ref (a 5), .ref (a 6), .ref (a 7), .ref (a 8), .ref (a 9), .int 0])), ((a 3), .inr (6, [.ref (a 10), .int 0, .ref (a 21), .ref (a 22), .ref (a 23), .ref (a 24), .ref (a 25), .int 0])), ((a 10), .inr (0, [.int 0, .int 1, .int 1, .int 0, .int 0, .ref (a 11), .ref (a 12), .ref (a 13), .null, .null]))] := hD
    obtain rfl : p1 = 0 := (by have kg1 := g1; have kg2 := g2; have kg3 := g3; (try simp only [lg_cmp_lt, lg_cmp_le, lg_cmp_ge, lg_cmp_gt, lg_cmp_eq, fa_lt, fa_le, fa_eq, fa_lt64, fa_le64, fa_eq64, Int32.toInt_toInt64, li_0, lj_0, li_1, lj_1] at kg1); (try simp only [lg_cmp_lt, lg_cmp_le, lg_cmp_ge, lg_cmp_gt, lg_cmp_eq, fa_lt, fa_le, fa_eq, fa_lt64, fa_le64, fa_eq64, Int32.toInt_toInt64, li_0, lj_0, li_1, lj_1] at kg2); (try simp only [lg_cmp_lt, lg_cmp_le, lg_cmp_ge, lg_cmp_gt, lg_cmp_eq, fa_lt, fa_le, fa_eq, fa_lt64, fa_le64, fa_eq64, Int32.toInt_toInt64, li_0, lj_0, li_1, lj_1] at kg3); rw [fa_eq, li_0]; omega)
    refine lv_aload_n hx hb dX10_height_5 rfl (lv_at hl 0 rfl) ?_
    refine va_get (ci := 10) (v := .ref (a 3)) (C := RX10) (T := TX10) (N := 13) hx hb htA in_X10 hown hK hP 0 rfl rfl 5 (by decide) (htA _ wd_313) (fun _ h => h) rfl dX10_height_6 ?_
    refine lv_iload_n hx hb dX10_height_9 rfl (lv_at hl 1 rfl) ?_
    refine kVi (As := [.int 0]) (rest := []) (wr := [((a 0), .inr (10, [.ref (a 1), .int 0, .int 0, .int (-1), .ref (a 2), .ref (a 3), .ref (a 4), .ref (a 5), .ref (a 6), .ref (a 7), .ref (a 8), .ref (a 9), .int 0]))]) hX hE (au_X6_lying_4 l D cy a) (cwVA 1 htA wd_379 wd_911 wd_6 wd_377 wd_378 (by decide +kernel) ⟨by decide, by decide⟩) hP hD hS [1, 2] [0] rfl rfl (by decide) 0 rfl rfl rfl rfl hl.1 rfl (Nat.le_of_ble_eq_true rfl) dX10_height_10 (by decide) (fun r_ W1 H locs hw hP hD hS => ?_)
    refine W.widen (k := 1) (n := 6) (by decide) (by decide) ?_
    obtain ⟨rfl, rfl⟩ := hw
    have hP : va_P D vwCl [((a 0), .inr (10, [.ref (a 1), .int 0, .int 0, .int (-1), .ref (a 2), .ref (a 3), .ref (a 4), .ref (a 5), .ref (a 6), .ref (a 7), .ref (a 8), .ref (a 9), .int 0])), ((a 3), .inr (6, [.ref (a 10), .int 0, .ref (a 21), .ref (a 22), .ref (a 23), .ref (a 24), .ref (a 25), .int 0])), ((a 10), .inr (0, [.int 0, .int 1, .int 1, .int 0, .int 0, .ref (a 11), .ref (a 12), .ref (a 13), .null, .null]))] H := hP
    have hD : va_D A [((a 0), .inr (10, [.ref (a 1), .int 0, .int 0, .int (-1), .ref (a 2), .ref (a 3), .ref (a 4), .ref (a 5), .ref (a 6), .ref (a 7), .ref (a 8), .ref (a 9), .int 0])), ((a 3), .inr (6, [.ref (a 10), .int 0, .ref (a 21), .ref (a 22), .ref (a 23), .ref (a 24), .ref (a 25), .int 0])), ((a 10), .inr (0, [.int 0, .int 1, .int 1, .int 0, .int 0, .ref (a 11), .ref (a 12), .ref (a 13), .null, .null]))] := hD
    exact vx_ret (rI hX hE hP hD hS dX10_height_13 (by decide) (by decide) (⟨(by have kg1 := g1; have kg2 := g2; have kg3 := g3; (try simp only [lg_cmp_lt, lg_cmp_le, lg_cmp_ge, lg_cmp_gt, lg_cmp_eq, fa_lt, fa_le, fa_eq, fa_lt64, fa_le64, fa_eq64, Int32.toInt_toInt64, li_0, lj_0, li_1, lj_1] at kg1); (try simp only [lg_cmp_lt, lg_cmp_le, lg_cmp_ge, lg_cmp_gt, lg_cmp_eq, fa_lt, fa_le, fa_eq, fa_lt64, fa_le64, fa_eq64, Int32.toInt_toInt64, li_0, lj_0, li_1, lj_1] at kg2); (try simp only [lg_cmp_lt, lg_cmp_le, lg_cmp_ge, lg_cmp_gt, lg_cmp_eq, fa_lt, fa_le, fa_eq, fa_lt64, fa_le64, fa_eq64, Int32.toInt_toInt64, li_0, lj_0, li_1, lj_1] at kg3); first | rfl | (unfold kf_height; (try simp only [li_0, and_self, and_true, true_and, if_true]); (repeat' split) <;> first | rfl | (exfalso; omega))), (by have kg1 := g1; have kg2 := g2; have kg3 := g3; (try simp only [lg_cmp_lt, lg_cmp_le, lg_cmp_ge, lg_cmp_gt, lg_cmp_eq, fa_lt, fa_le, fa_eq, fa_lt64, fa_le64, fa_eq64, Int32.toInt_toInt64, li_0, lj_0, li_1, lj_1] at kg1); (try simp only [lg_cmp_lt, lg_cmp_le, lg_cmp_ge, lg_cmp_gt, lg_cmp_eq, fa_lt, fa_le, fa_eq, fa_lt64, fa_le64, fa_eq64, Int32.toInt_toInt64, li_0, lj_0, li_1, lj_1] at kg2); (try simp only [lg_cmp_lt, lg_cmp_le, lg_cmp_ge, lg_cmp_gt, lg_cmp_eq, fa_lt, fa_le, fa_eq, fa_lt64, fa_le64, fa_eq64, Int32.toInt_toInt64, li_0, lj_0, li_1, lj_1] at kg3); first | rfl | decide | (unfold vf_height; (try simp only [li_0, and_self, and_true, true_and, if_true]); (repeat' split) <;> first | rfl | decide | (exfalso; omega)))⟩))
def kf_at (p1 : Int32) (p2 : Int32) : Int32 := if p1.toInt = 0 ∧ p2.toInt = 0 then 0 else 1
def vf_at (p1 : Int32) (p2 : Int32) : Int64 := -1
set_option maxHeartbeats 4000000 in
set_option maxRecDepth 100000 in
theorem au_X0_hasPlace_5 (l : Launch) (D : va_G) (cy : Nat → ClassId) (a : Nat → Nat) (v1_ : Int32) (v2_ : Int32) : Ci l yX0_hasPlace cX0_hasPlace 3 (some .boolean) { frames := 0, cells := 0, slots := 0, locals := 0 } D cy [.ref (a 10), .int v1_, .int v2_] [((a 10), .inr (0, [.int 0, .int 1, .int 1, .int 0, .int 0, .ref (a 11), .ref (a 12), .ref (a 13), .null, .null]))] (fun r W1 => ((v1_ < 0) ∧ W1 = [((a 10), .inr (0, [.int 0, .int 1, .int 1, .int 0, .int 0, .ref (a 11), .ref (a 12), .ref (a 13), .null, .null]))] ∧ r = 0) ∨ ((¬ v1_ < 0) ∧ (1 ≤ v1_) ∧ W1 = [((a 10), .inr (0, [.int 0, .int 1, .int 1, .int 0, .int 0, .ref (a 11), .ref (a 12), .ref (a 13), .null, .null]))] ∧ r = 0) ∨ ((¬ v1_ < 0) ∧ (¬ 1 ≤ v1_) ∧ (v1_ = 0) ∧ (v2_ < 0) ∧ W1 = [((a 10), .inr (0, [.int 0, .int 1, .int 1, .int 0, .int 0, .ref (a 11), .ref (a 12), .ref (a 13), .null, .null]))] ∧ r = 0) ∨ ((¬ v1_ < 0) ∧ (¬ 1 ≤ v1_) ∧ (v1_ = 0) ∧ (¬ v2_ < 0) ∧ (1 ≤ v2_) ∧ W1 = [((a 10), .inr (0, [.int 0, .int 1, .int 1, .int 0, .int 0, .ref (a 11), .ref (a 12), .ref (a 13), .null, .null]))] ∧ r = 0) ∨ ((¬ v1_ < 0) ∧ (¬ 1 ≤ v1_) ∧ (v1_ = 0) ∧ (¬ v2_ < 0) ∧ (¬ 1 ≤ v2_) ∧ (v2_ = 0) ∧ W1 = [((a 10), .inr (0, [.int 0, .int 1, .int 1, .int 0, .int 0, .ref (a 11), .ref (a 12), .ref (a 13), .null, .null]))] ∧ r = 1)) := by
  refine Ci.of (by decide) (Nat.le_of_ble_eq_true rfl) ?_
  intro p e s m below meth c A ls hX hE hP hD hl
  obtain ⟨hx, hb, hr, hml, hown, htA, hlk⟩ := id hX
  have hK := hE.1
  have hS : va_S A s.heap s.heap [] := va_S.rf
  have hl : lv_has ls 3 [(0, .ref (a 10)), (1, .int v1_), (2, .int v2_)] := hl
  refine lv_iload_n hx hb dX0_hasPlace_0 rfl (lv_at hl 1 rfl) ?_
  refine lv_if_lt (tgt := 28) hx hb dX0_hasPlace_1 (by decide) (fun c1 => ?_) (fun c1 => ?_)
  · refine lv_iconst (v := 0) hx hb dX0_hasPlace_28 (by decide) ?_
    exact rZ hX (by decide) hE hP hD hS dX0_hasPlace_29 (by decide) (by decide) (Or.inl (⟨c1, rfl, rfl⟩))
  · refine lv_iload_n hx hb dX0_hasPlace_4 rfl (lv_at hl 1 rfl) ?_
    refine lv_aload_n hx hb dX0_hasPlace_5 rfl (lv_at hl 0 rfl) ?_
    refine va_get (ci := 0) (v := .int 1) (C := RX0) (T := TX0) (N := 10) hx hb htA in_X0 hown hK hP 0 rfl rfl 1 (by decide) (htA _ wd_77) (fun _ h => h) rfl dX0_hasPlace_6 ?_
    refine lv_icmp_ge (tgt := 28) hx hb dX0_hasPlace_9 (by decide) (fun c2 => ?_) (fun c2 => ?_)
    · refine lv_iconst (v := 0) hx hb dX0_hasPlace_28 (by decide) ?_
      exact rZ hX (by decide) hE hP hD hS dX0_hasPlace_29 (by decide) (by decide) (Or.inr (Or.inl (⟨c1, c2, rfl, rfl⟩)))
    · obtain rfl : v1_ = 0 := (by have kc1 := c1; have kc2 := c2; (try simp only [lg_cmp_lt, lg_cmp_le, lg_cmp_ge, lg_cmp_gt, lg_cmp_eq, fa_lt, fa_le, fa_eq, fa_lt64, fa_le64, fa_eq64, Int32.toInt_toInt64, li_0, lj_0, li_1, lj_1] at kc1); (try simp only [lg_cmp_lt, lg_cmp_le, lg_cmp_ge, lg_cmp_gt, lg_cmp_eq, fa_lt, fa_le, fa_eq, fa_lt64, fa_le64, fa_eq64, Int32.toInt_toInt64, li_0, lj_0, li_1, lj_1] at kc2); rw [fa_eq, li_0]; omega)
      refine lv_iload_n hx hb dX0_hasPlace_12 rfl (lv_at hl 2 rfl) ?_
      refine lv_if_lt (tgt := 28) hx hb dX0_hasPlace_13 (by decide) (fun c3 => ?_) (fun c3 => ?_)
      · refine lv_iconst (v := 0) hx hb dX0_hasPlace_28 (by decide) ?_
        exact rZ hX (by decide) hE hP hD hS dX0_hasPlace_29 (by decide) (by decide) (Or.inr (Or.inr (Or.inl (⟨c1, c2, rfl, c3, rfl, rfl⟩))))
      · refine lv_iload_n hx hb dX0_hasPlace_16 rfl (lv_at hl 2 rfl) ?_
        refine lv_aload_n hx hb dX0_hasPlace_17 rfl (lv_at hl 0 rfl) ?_
        refine va_get (ci := 0) (v := .int 1) (C := RX0) (T := TX0) (N := 10) hx hb htA in_X0 hown hK hP 0 rfl rfl 2 (by decide) (htA _ wd_82) (fun _ h => h) rfl dX0_hasPlace_18 ?_
        refine lv_icmp_ge (tgt := 28) hx hb dX0_hasPlace_21 (by decide) (fun c4 => ?_) (fun c4 => ?_)
        · refine lv_iconst (v := 0) hx hb dX0_hasPlace_28 (by decide) ?_
          exact rZ hX (by decide) hE hP hD hS dX0_hasPlace_29 (by decide) (by decide) (Or.inr (Or.inr (Or.inr (Or.inl (⟨c1, c2, rfl, c3, c4, rfl, rfl⟩)))))
        · obtain rfl : v2_ = 0 := (by have kc1 := c1; have kc2 := c2; have kc3 := c3; have kc4 := c4; (try simp only [lg_cmp_lt, lg_cmp_le, lg_cmp_ge, lg_cmp_gt, lg_cmp_eq, fa_lt, fa_le, fa_eq, fa_lt64, fa_le64, fa_eq64, Int32.toInt_toInt64, li_0, lj_0, li_1, lj_1] at kc1); (try simp only [lg_cmp_lt, lg_cmp_le, lg_cmp_ge, lg_cmp_gt, lg_cmp_eq, fa_lt, fa_le, fa_eq, fa_lt64, fa_le64, fa_eq64, Int32.toInt_toInt64, li_0, lj_0, li_1, lj_1] at kc2); (try simp only [lg_cmp_lt, lg_cmp_le, lg_cmp_ge, lg_cmp_gt, lg_cmp_eq, fa_lt, fa_le, fa_eq, fa_lt64, fa_le64, fa_eq64, Int32.toInt_toInt64, li_0, lj_0, li_1, lj_1] at kc3); (try simp only [lg_cmp_lt, lg_cmp_le, lg_cmp_ge, lg_cmp_gt, lg_cmp_eq, fa_lt, fa_le, fa_eq, fa_lt64, fa_le64, fa_eq64, Int32.toInt_toInt64, li_0, lj_0, li_1, lj_1] at kc4); rw [fa_eq, li_0]; omega)
          refine lv_iconst (v := 1) hx hb dX0_hasPlace_24 (by decide) ?_
          refine lv_goto (tgt := 29) hx hb dX0_hasPlace_25 (by decide) ?_
          exact rZ hX (by decide) hE hP hD hS dX0_hasPlace_29 (by decide) (by decide) (Or.inr (Or.inr (Or.inr (Or.inr (⟨c1, c2, rfl, c3, c4, rfl, rfl, rfl⟩)))))
set_option maxHeartbeats 4000000 in
set_option maxRecDepth 100000 in
theorem au_X10_needPlace_6 (l : Launch) (hlt : l.stackTraces = false) (D : va_G) (cy : Nat → ClassId) (a : Nat → Nat) (v1_ : Int32) (v2_ : Int32) : Xv l yX10_needPlace cX10_needPlace 3 none { frames := 6, cells := 1, slots := 6, locals := 90 } D cy [.ref (a 0), .int v1_, .int v2_] [((a 0), .inr (10, [.ref (a 1), .int 0, .int 0, .int (-1), .ref (a 2), .ref (a 3), .ref (a 4), .ref (a 5), .ref (a 6), .ref (a 7), .ref (a 8), .ref (a 9), .int 0])), ((a 3), .inr (6, [.ref (a 10), .int 0, .ref (a 21), .ref (a 22), .ref (a 23), .ref (a 24), .ref (a 25), .int 0])), ((a 10), .inr (0, [.int 0, .int 1, .int 1, .int 0, .int 0, .ref (a 11), .ref (a 12), .ref (a 13), .null, .null]))] (fun W1 => ((¬ v1_ < 0) ∧ (¬ 1 ≤ v1_) ∧ (v1_ = 0) ∧ (¬ v2_ < 0) ∧ (¬ 1 ≤ v2_) ∧ (v2_ = 0) ∧ W1 = [((a 0), .inr (10, [.ref (a 1), .int 0, .int 0, .int (-1), .ref (a 2), .ref (a 3), .ref (a 4), .ref (a 5), .ref (a 6), .ref (a 7), .ref (a 8), .ref (a 9), .int 0])), ((a 3), .inr (6, [.ref (a 10), .int 0, .ref (a 21), .ref (a 22), .ref (a 23), .ref (a 24), .ref (a 25), .int 0])), ((a 10), .inr (0, [.int 0, .int 1, .int 1, .int 0, .int 0, .ref (a 11), .ref (a 12), .ref (a 13), .null, .null]))])) (fun E _ => ((v1_ < 0) ∧ E = "java/util/NoSuchElementException") ∨ ((¬ v1_ < 0) ∧ (1 ≤ v1_) ∧ E = "java/util/NoSuchElementException") ∨ ((¬ v1_ < 0) ∧ (¬ 1 ≤ v1_) ∧ (v1_ = 0) ∧ (v2_ < 0) ∧ E = "java/util/NoSuchElementException") ∨ ((¬ v1_ < 0) ∧ (¬ 1 ≤ v1_) ∧ (v1_ = 0) ∧ (¬ v2_ < 0) ∧ (1 ≤ v2_) ∧ E = "java/util/NoSuchElementException")) := by
  refine Xv.of (by decide) (Nat.le_of_ble_eq_true rfl) ?_
  intro p e s m below meth c A ls hX hE hP hD hl hxt
  obtain ⟨hx, hb, hr, hml, hown, htA, hlk⟩ := id hX
  have hK := hE.1
  have hS : va_S A s.heap s.heap [] := va_S.rf
  have hl : lv_has ls 3 [(0, .ref (a 0)), (1, .int v1_), (2, .int v2_)] := hl
  refine lv_aload_n hx hb dX10_needPlace_0 rfl (lv_at hl 0 rfl) ?_
  refine va_get (ci := 10) (v := .ref (a 3)) (C := RX10) (T := TX10) (N := 13) hx hb htA in_X10 hown hK hP 0 rfl rfl 5 (by decide) (htA _ wd_313) (fun _ h => h) rfl dX10_needPlace_1 ?_
  refine va_get (ci := 6) (v := .ref (a 10)) (C := RX6) (T := TX6) (N := 8) hx hb htA in_X6 hown hK hP 1 rfl rfl 0 (by decide) (htA _ wd_168) (fun _ h => h) rfl dX10_needPlace_4 ?_
  refine lv_iload_n hx hb dX10_needPlace_7 rfl (lv_at hl 1 rfl) ?_
  refine lv_iload_n hx hb dX10_needPlace_8 rfl (lv_at hl 2 rfl) ?_
  refine kVi (As := [.int v1_, .int v2_]) (rest := []) (wr := [((a 0), .inr (10, [.ref (a 1), .int 0, .int 0, .int (-1), .ref (a 2), .ref (a 3), .ref (a 4), .ref (a 5), .ref (a 6), .ref (a 7), .ref (a 8), .ref (a 9), .int 0])), ((a 3), .inr (6, [.ref (a 10), .int 0, .ref (a 21), .ref (a 22), .ref (a 23), .ref (a 24), .ref (a 25), .int 0]))]) hX hE (au_X0_hasPlace_5 l D cy a v1_ v2_) (cwVA 2 htA wd_371 wd_923 wd_3 wd_369 wd_370 (by decide +kernel) ⟨by decide, by decide⟩) hP hD hS [2] [0, 1] rfl rfl (by decide) 0 rfl rfl rfl rfl hl.1 rfl (Nat.le_of_ble_eq_true rfl) dX10_needPlace_9 (by decide) (fun r_ W1 H locs hw hP hD hS => ?_)
  refine W.widen (k := 0) (n := 0) (by decide) (by decide) ?_
  rcases hw with ⟨g1, rfl, rfl⟩ | ⟨g2, g3, rfl, rfl⟩ | ⟨g4, g5, g6, g7, rfl, rfl⟩ | ⟨g8, g9, g10, g11, g12, rfl, rfl⟩ | ⟨g13, g14, g15, g16, g17, g18, rfl, rfl⟩
  · have hP : va_P D vwCl [((a 0), .inr (10, [.ref (a 1), .int 0, .int 0, .int (-1), .ref (a 2), .ref (a 3), .ref (a 4), .ref (a 5), .ref (a 6), .ref (a 7), .ref (a 8), .ref (a 9), .int 0])), ((a 3), .inr (6, [.ref (a 10), .int 0, .ref (a 21), .ref (a 22), .ref (a 23), .ref (a 24), .ref (a 25), .int 0])), ((a 10), .inr (0, [.int 0, .int 1, .int 1, .int 0, .int 0, .ref (a 11), .ref (a 12), .ref (a 13), .null, .null]))] H := hP
    have hD : va_D A [((a 0), .inr (10, [.ref (a 1), .int 0, .int 0, .int (-1), .ref (a 2), .ref (a 3), .ref (a 4), .ref (a 5), .ref (a 6), .ref (a 7), .ref (a 8), .ref (a 9), .int 0])), ((a 3), .inr (6, [.ref (a 10), .int 0, .ref (a 21), .ref (a 22), .ref (a 23), .ref (a 24), .ref (a 25), .int 0])), ((a 10), .inr (0, [.int 0, .int 1, .int 1, .int 0, .int 0, .ref (a 11), .ref (a 12), .ref (a 13), .null, .null]))] := hD
    refine lv_if_ne (tgt := 25) hx hb dX10_needPlace_12 (by decide) (fun q => absurd rfl q) (fun _ => ?_)
    exact k_throwN rx_0 rx_1 rx_2 rx_5 hlt hX hE hxt hP hD hS hl.1 (by decide) (htA _ wd_869) (htA _ wd_23) (xSW_in hE.2.2.2 "LateFalls" 200 "no such place" (by decide)) (at_X10_185 htA hE.2.2.2) ot_X10_181_185 (htA _ wd_881) (htA _ wd_880) dX10_needPlace_15 dX10_needPlace_18 dX10_needPlace_19 dX10_needPlace_21 dX10_needPlace_24 (by decide) (by decide) (by decide) (by decide) (by decide) (by decide) (Or.inl (⟨g1, rfl⟩))
  · have hP : va_P D vwCl [((a 0), .inr (10, [.ref (a 1), .int 0, .int 0, .int (-1), .ref (a 2), .ref (a 3), .ref (a 4), .ref (a 5), .ref (a 6), .ref (a 7), .ref (a 8), .ref (a 9), .int 0])), ((a 3), .inr (6, [.ref (a 10), .int 0, .ref (a 21), .ref (a 22), .ref (a 23), .ref (a 24), .ref (a 25), .int 0])), ((a 10), .inr (0, [.int 0, .int 1, .int 1, .int 0, .int 0, .ref (a 11), .ref (a 12), .ref (a 13), .null, .null]))] H := hP
    have hD : va_D A [((a 0), .inr (10, [.ref (a 1), .int 0, .int 0, .int (-1), .ref (a 2), .ref (a 3), .ref (a 4), .ref (a 5), .ref (a 6), .ref (a 7), .ref (a 8), .ref (a 9), .int 0])), ((a 3), .inr (6, [.ref (a 10), .int 0, .ref (a 21), .ref (a 22), .ref (a 23), .ref (a 24), .ref (a 25), .int 0])), ((a 10), .inr (0, [.int 0, .int 1, .int 1, .int 0, .int 0, .ref (a 11), .ref (a 12), .ref (a 13), .null, .null]))] := hD
    refine lv_if_ne (tgt := 25) hx hb dX10_needPlace_12 (by decide) (fun q => absurd rfl q) (fun _ => ?_)
    exact k_throwN rx_0 rx_1 rx_2 rx_5 hlt hX hE hxt hP hD hS hl.1 (by decide) (htA _ wd_869) (htA _ wd_23) (xSW_in hE.2.2.2 "LateFalls" 200 "no such place" (by decide)) (at_X10_185 htA hE.2.2.2) ot_X10_181_185 (htA _ wd_881) (htA _ wd_880) dX10_needPlace_15 dX10_needPlace_18 dX10_needPlace_19 dX10_needPlace_21 dX10_needPlace_24 (by decide) (by decide) (by decide) (by decide) (by decide) (by decide) (Or.inr (Or.inl (⟨g2, g3, rfl⟩)))
  · have hP : va_P D vwCl [((a 0), .inr (10, [.ref (a 1), .int 0, .int 0, .int (-1), .ref (a 2), .ref (a 3), .ref (a 4), .ref (a 5), .ref (a 6), .ref (a 7), .ref (a 8), .ref (a 9), .int 0])), ((a 3), .inr (6, [.ref (a 10), .int 0, .ref (a 21), .ref (a 22), .ref (a 23), .ref (a 24), .ref (a 25), .int 0])), ((a 10), .inr (0, [.int 0, .int 1, .int 1, .int 0, .int 0, .ref (a 11), .ref (a 12), .ref (a 13), .null, .null]))] H := hP
    have hD : va_D A [((a 0), .inr (10, [.ref (a 1), .int 0, .int 0, .int (-1), .ref (a 2), .ref (a 3), .ref (a 4), .ref (a 5), .ref (a 6), .ref (a 7), .ref (a 8), .ref (a 9), .int 0])), ((a 3), .inr (6, [.ref (a 10), .int 0, .ref (a 21), .ref (a 22), .ref (a 23), .ref (a 24), .ref (a 25), .int 0])), ((a 10), .inr (0, [.int 0, .int 1, .int 1, .int 0, .int 0, .ref (a 11), .ref (a 12), .ref (a 13), .null, .null]))] := hD
    refine lv_if_ne (tgt := 25) hx hb dX10_needPlace_12 (by decide) (fun q => absurd rfl q) (fun _ => ?_)
    exact k_throwN rx_0 rx_1 rx_2 rx_5 hlt hX hE hxt hP hD hS hl.1 (by decide) (htA _ wd_869) (htA _ wd_23) (xSW_in hE.2.2.2 "LateFalls" 200 "no such place" (by decide)) (at_X10_185 htA hE.2.2.2) ot_X10_181_185 (htA _ wd_881) (htA _ wd_880) dX10_needPlace_15 dX10_needPlace_18 dX10_needPlace_19 dX10_needPlace_21 dX10_needPlace_24 (by decide) (by decide) (by decide) (by decide) (by decide) (by decide) (Or.inr (Or.inr (Or.inl (⟨g4, g5, g6, g7, rfl⟩))))
  · have hP : va_P D vwCl [((a 0), .inr (10, [.ref (a 1), .int 0, .int 0, .int (-1), .ref (a 2), .ref (a 3), .ref (a 4), .ref (a 5), .ref (a 6), .ref (a 7), .ref (a 8), .ref (a 9), .int 0])), ((a 3), .inr (6, [.ref (a 10), .int 0, .ref (a 21), .ref (a 22), .ref (a 23), .ref (a 24), .ref (a 25), .int 0])), ((a 10), .inr (0, [.int 0, .int 1, .int 1, .int 0, .int 0, .ref (a 11), .ref (a 12), .ref (a 13), .null, .null]))] H := hP
    have hD : va_D A [((a 0), .inr (10, [.ref (a 1), .int 0, .int 0, .int (-1), .ref (a 2), .ref (a 3), .ref (a 4), .ref (a 5), .ref (a 6), .ref (a 7), .ref (a 8), .ref (a 9), .int 0])), ((a 3), .inr (6, [.ref (a 10), .int 0, .ref (a 21), .ref (a 22), .ref (a 23), .ref (a 24), .ref (a 25), .int 0])), ((a 10), .inr (0, [.int 0, .int 1, .int 1, .int 0, .int 0, .ref (a 11), .ref (a 12), .ref (a 13), .null, .null]))] := hD
    refine lv_if_ne (tgt := 25) hx hb dX10_needPlace_12 (by decide) (fun q => absurd rfl q) (fun _ => ?_)
    exact k_throwN rx_0 rx_1 rx_2 rx_5 hlt hX hE hxt hP hD hS hl.1 (by decide) (htA _ wd_869) (htA _ wd_23) (xSW_in hE.2.2.2 "LateFalls" 200 "no such place" (by decide)) (at_X10_185 htA hE.2.2.2) ot_X10_181_185 (htA _ wd_881) (htA _ wd_880) dX10_needPlace_15 dX10_needPlace_18 dX10_needPlace_19 dX10_needPlace_21 dX10_needPlace_24 (by decide) (by decide) (by decide) (by decide) (by decide) (by decide) (Or.inr (Or.inr (Or.inr (⟨g8, g9, g10, g11, g12, rfl⟩))))
  · have hP : va_P D vwCl [((a 0), .inr (10, [.ref (a 1), .int 0, .int 0, .int (-1), .ref (a 2), .ref (a 3), .ref (a 4), .ref (a 5), .ref (a 6), .ref (a 7), .ref (a 8), .ref (a 9), .int 0])), ((a 3), .inr (6, [.ref (a 10), .int 0, .ref (a 21), .ref (a 22), .ref (a 23), .ref (a 24), .ref (a 25), .int 0])), ((a 10), .inr (0, [.int 0, .int 1, .int 1, .int 0, .int 0, .ref (a 11), .ref (a 12), .ref (a 13), .null, .null]))] H := hP
    have hD : va_D A [((a 0), .inr (10, [.ref (a 1), .int 0, .int 0, .int (-1), .ref (a 2), .ref (a 3), .ref (a 4), .ref (a 5), .ref (a 6), .ref (a 7), .ref (a 8), .ref (a 9), .int 0])), ((a 3), .inr (6, [.ref (a 10), .int 0, .ref (a 21), .ref (a 22), .ref (a 23), .ref (a 24), .ref (a 25), .int 0])), ((a 10), .inr (0, [.int 0, .int 1, .int 1, .int 0, .int 0, .ref (a 11), .ref (a 12), .ref (a 13), .null, .null]))] := hD
    refine lv_if_ne (tgt := 25) hx hb dX10_needPlace_12 (by decide) (fun _ => ?_) (fun q => absurd q (by decide))
    exact vx_ret (rV hX hE hP hD hS dX10_needPlace_25 (by decide) (by decide) (⟨g13, g14, g15, g16, g17, g18, rfl⟩))
set_option maxHeartbeats 4000000 in
set_option maxRecDepth 100000 in
theorem au_X6_thingAt_7 (l : Launch) (D : va_G) (cy : Nat → ClassId) (a : Nat → Nat) : Ci l yX6_thingAt cX6_thingAt 4 (some .int) { frames := 0, cells := 0, slots := 0, locals := 0 } D cy [.ref (a 3), .int 0, .int 0] [((a 3), .inr (6, [.ref (a 10), .int 0, .ref (a 21), .ref (a 22), .ref (a 23), .ref (a 24), .ref (a 25), .int 0])), ((a 10), .inr (0, [.int 0, .int 1, .int 1, .int 0, .int 0, .ref (a 11), .ref (a 12), .ref (a 13), .null, .null]))] (fun r W1 => (W1 = [((a 3), .inr (6, [.ref (a 10), .int 0, .ref (a 21), .ref (a 22), .ref (a 23), .ref (a 24), .ref (a 25), .int 0])), ((a 10), .inr (0, [.int 0, .int 1, .int 1, .int 0, .int 0, .ref (a 11), .ref (a 12), .ref (a 13), .null, .null]))] ∧ r = (-1))) := by
  refine Ci.of (by decide) (Nat.le_of_ble_eq_true rfl) ?_
  intro p e s m below meth c A ls hX hE hP hD hl
  obtain ⟨hx, hb, hr, hml, hown, htA, hlk⟩ := id hX
  have hK := hE.1
  have hS : va_S A s.heap s.heap [] := va_S.rf
  have hl : lv_has ls 4 [(0, .ref (a 3)), (1, .int 0), (2, .int 0)] := hl
  refine lv_iconst (v := 0) hx hb dX6_thingAt_0 (by decide) ?_
  refine lv_istore_n (lv' := [(3, .int 0), (0, .ref (a 3)), (1, .int 0), (2, .int 0)]) hx hb dX6_thingAt_1 rfl hl (by decide) rfl (fun ls hl => ?_)
  refine lv_iload_n hx hb dX6_thingAt_2 rfl (lv_at hl 0 rfl) ?_
  refine lv_aload_n hx hb dX6_thingAt_3 rfl (lv_at hl 1 rfl) ?_
  refine va_get (ci := 6) (v := .ref (a 10)) (C := RX6) (T := TX6) (N := 8) hx hb htA in_X6 hown hK hP 0 rfl rfl 0 (by decide) (htA _ wd_166) (fun _ h => h) rfl dX6_thingAt_4 ?_
  refine va_get (ci := 0) (v := .int 0) (C := RX0) (T := TX0) (N := 10) hx hb htA in_X0 hown hK hP 1 rfl rfl 3 (by decide) (htA _ wd_86) (fun _ h => h) rfl dX6_thingAt_7 ?_
  refine lv_icmp_ge (tgt := 50) hx hb dX6_thingAt_10 (by decide) (fun _ => ?_) (fun q => absurd (by decide) q)
  refine lv_iconst (v := (-1)) hx hb dX6_thingAt_50 (by decide) ?_
  exact rI hX hE hP hD hS dX6_thingAt_51 (by decide) (by decide) (⟨rfl, rfl⟩)
set_option maxHeartbeats 4000000 in
set_option maxRecDepth 100000 in
theorem m_at (l : Launch) (hlt : l.stackTraces = false) (D : va_G) (cy : Nat → ClassId) (a : Nat → Nat) (p1 : Int32) (p2 : Int32) : Xi l yX10_at cX10_at 3 (some .int) { frames := 7, cells := 1, slots := 6, locals := 112 } D cy [.ref (a 0), .int p1, .int p2] [((a 0), .inr (10, [.ref (a 1), .int 0, .int 0, .int (-1), .ref (a 2), .ref (a 3), .ref (a 4), .ref (a 5), .ref (a 6), .ref (a 7), .ref (a 8), .ref (a 9), .int 0])), ((a 3), .inr (6, [.ref (a 10), .int 0, .ref (a 21), .ref (a 22), .ref (a 23), .ref (a 24), .ref (a 25), .int 0])), ((a 10), .inr (0, [.int 0, .int 1, .int 1, .int 0, .int 0, .ref (a 11), .ref (a 12), .ref (a 13), .null, .null]))] (fun r _ => kf_at p1 p2 = 0 ∧ r.toInt64 = vf_at p1 p2) (fun E _ => (E = "java/util/NoSuchElementException" ∧ kf_at p1 p2 = 1)) := by
  refine Xi.of (by decide) (Nat.le_of_ble_eq_true rfl) ?_
  intro p e s m below meth c A ls hX hE hP hD hl hxt
  obtain ⟨hx, hb, hr, hml, hown, htA, hlk⟩ := id hX
  have hK := hE.1
  have hS : va_S A s.heap s.heap [] := va_S.rf
  have hl : lv_has ls 3 [(0, .ref (a 0)), (1, .int p1), (2, .int p2)] := hl
  refine lv_aload_n hx hb dX10_at_0 rfl (lv_at hl 0 rfl) ?_
  refine lv_iload_n hx hb dX10_at_1 rfl (lv_at hl 1 rfl) ?_
  refine lv_iload_n hx hb dX10_at_2 rfl (lv_at hl 2 rfl) ?_
  refine xVv (As := [.int p1, .int p2]) (rest := []) (wr := []) hX hE (au_X10_needPlace_6 l hlt D cy a p1 p2) (cwVA 2 htA wd_922 wd_919 wd_1 wd_921 wp_29 (by decide +kernel) ⟨by decide, by decide⟩) hP hD hS [0, 1, 2] [] rfl rfl (by decide) 0 rfl rfl rfl rfl hl.1 rfl (Nat.le_of_ble_eq_true rfl) dX10_at_3 (by decide) (fun E ce q9 W1 H locs hw hP hD hS hce hcv hcl => ?_) (fun W1 H locs hw hP hD hS => ?_)
  · rcases hw with ⟨g7, rfl⟩ | ⟨g8, g9, rfl⟩ | ⟨g10, g11, g12, g13, rfl⟩ | ⟨g14, g15, g16, g17, g18, rfl⟩
    · exact xO hX hE hxt hP hD hS hce hcv hcl (by decide) (by decide) (⟨rfl, (by have kg7 := g7; (try simp only [lg_cmp_lt, lg_cmp_le, lg_cmp_ge, lg_cmp_gt, lg_cmp_eq, fa_lt, fa_le, fa_eq, fa_lt64, fa_le64, fa_eq64, Int32.toInt_toInt64, li_0, lj_0] at kg7); first | rfl | (unfold kf_at; (repeat' split) <;> first | rfl | (exfalso; omega)))⟩)
    · exact xO hX hE hxt hP hD hS hce hcv hcl (by decide) (by decide) (⟨rfl, (by have kg8 := g8; have kg9 := g9; (try simp only [lg_cmp_lt, lg_cmp_le, lg_cmp_ge, lg_cmp_gt, lg_cmp_eq, fa_lt, fa_le, fa_eq, fa_lt64, fa_le64, fa_eq64, Int32.toInt_toInt64, li_0, lj_0, li_1, lj_1] at kg8); (try simp only [lg_cmp_lt, lg_cmp_le, lg_cmp_ge, lg_cmp_gt, lg_cmp_eq, fa_lt, fa_le, fa_eq, fa_lt64, fa_le64, fa_eq64, Int32.toInt_toInt64, li_0, lj_0, li_1, lj_1] at kg9); first | rfl | (unfold kf_at; (repeat' split) <;> first | rfl | (exfalso; omega)))⟩)
    · exact xO hX hE hxt hP hD hS hce hcv hcl (by decide) (by decide) (⟨rfl, (by have kg10 := g10; have kg11 := g11; have kg12 := g12; have kg13 := g13; (try simp only [lg_cmp_lt, lg_cmp_le, lg_cmp_ge, lg_cmp_gt, lg_cmp_eq, fa_lt, fa_le, fa_eq, fa_lt64, fa_le64, fa_eq64, Int32.toInt_toInt64, li_0, lj_0, li_1, lj_1] at kg10); (try simp only [lg_cmp_lt, lg_cmp_le, lg_cmp_ge, lg_cmp_gt, lg_cmp_eq, fa_lt, fa_le, fa_eq, fa_lt64, fa_le64, fa_eq64, Int32.toInt_toInt64, li_0, lj_0, li_1, lj_1] at kg11); (try simp only [lg_cmp_lt, lg_cmp_le, lg_cmp_ge, lg_cmp_gt, lg_cmp_eq, fa_lt, fa_le, fa_eq, fa_lt64, fa_le64, fa_eq64, Int32.toInt_toInt64, li_0, lj_0, li_1, lj_1] at kg12); (try simp only [lg_cmp_lt, lg_cmp_le, lg_cmp_ge, lg_cmp_gt, lg_cmp_eq, fa_lt, fa_le, fa_eq, fa_lt64, fa_le64, fa_eq64, Int32.toInt_toInt64, li_0, lj_0, li_1, lj_1] at kg13); first | rfl | (unfold kf_at; (repeat' split) <;> first | rfl | (exfalso; omega)))⟩)
    · exact xO hX hE hxt hP hD hS hce hcv hcl (by decide) (by decide) (⟨rfl, (by have kg14 := g14; have kg15 := g15; have kg16 := g16; have kg17 := g17; have kg18 := g18; (try simp only [lg_cmp_lt, lg_cmp_le, lg_cmp_ge, lg_cmp_gt, lg_cmp_eq, fa_lt, fa_le, fa_eq, fa_lt64, fa_le64, fa_eq64, Int32.toInt_toInt64, li_0, lj_0, li_1, lj_1] at kg14); (try simp only [lg_cmp_lt, lg_cmp_le, lg_cmp_ge, lg_cmp_gt, lg_cmp_eq, fa_lt, fa_le, fa_eq, fa_lt64, fa_le64, fa_eq64, Int32.toInt_toInt64, li_0, lj_0, li_1, lj_1] at kg15); (try simp only [lg_cmp_lt, lg_cmp_le, lg_cmp_ge, lg_cmp_gt, lg_cmp_eq, fa_lt, fa_le, fa_eq, fa_lt64, fa_le64, fa_eq64, Int32.toInt_toInt64, li_0, lj_0, li_1, lj_1] at kg16); (try simp only [lg_cmp_lt, lg_cmp_le, lg_cmp_ge, lg_cmp_gt, lg_cmp_eq, fa_lt, fa_le, fa_eq, fa_lt64, fa_le64, fa_eq64, Int32.toInt_toInt64, li_0, lj_0, li_1, lj_1] at kg17); (try simp only [lg_cmp_lt, lg_cmp_le, lg_cmp_ge, lg_cmp_gt, lg_cmp_eq, fa_lt, fa_le, fa_eq, fa_lt64, fa_le64, fa_eq64, Int32.toInt_toInt64, li_0, lj_0, li_1, lj_1] at kg18); first | rfl | (unfold kf_at; (repeat' split) <;> first | rfl | (exfalso; omega)))⟩)
  · refine W.widen (k := 1) (n := 6) (by decide) (by decide) ?_
    obtain ⟨g1, g2, g3, g4, g5, g6, rfl⟩ := hw
    have hP : va_P D vwCl [((a 0), .inr (10, [.ref (a 1), .int 0, .int 0, .int (-1), .ref (a 2), .ref (a 3), .ref (a 4), .ref (a 5), .ref (a 6), .ref (a 7), .ref (a 8), .ref (a 9), .int 0])), ((a 3), .inr (6, [.ref (a 10), .int 0, .ref (a 21), .ref (a 22), .ref (a 23), .ref (a 24), .ref (a 25), .int 0])), ((a 10), .inr (0, [.int 0, .int 1, .int 1, .int 0, .int 0, .ref (a 11), .ref (a 12), .ref (a 13), .null, .null]))] H := hP
    have hD : va_D A [((a 0), .inr (10, [.ref (a 1), .int 0, .int 0, .int (-1), .ref (a 2), .ref (a 3), .ref (a 4), .ref (a 5), .ref (a 6), .ref (a 7), .ref (a 8), .ref (a 9), .int 0])), ((a 3), .inr (6, [.ref (a 10), .int 0, .ref (a 21), .ref (a 22), .ref (a 23), .ref (a 24), .ref (a 25), .int 0])), ((a 10), .inr (0, [.int 0, .int 1, .int 1, .int 0, .int 0, .ref (a 11), .ref (a 12), .ref (a 13), .null, .null]))] := hD
    obtain rfl : p1 = 0 := (by have kg1 := g1; have kg2 := g2; have kg3 := g3; have kg4 := g4; have kg5 := g5; have kg6 := g6; (try simp only [lg_cmp_lt, lg_cmp_le, lg_cmp_ge, lg_cmp_gt, lg_cmp_eq, fa_lt, fa_le, fa_eq, fa_lt64, fa_le64, fa_eq64, Int32.toInt_toInt64, li_0, lj_0, li_1, lj_1] at kg1); (try simp only [lg_cmp_lt, lg_cmp_le, lg_cmp_ge, lg_cmp_gt, lg_cmp_eq, fa_lt, fa_le, fa_eq, fa_lt64, fa_le64, fa_eq64, Int32.toInt_toInt64, li_0, lj_0, li_1, lj_1] at kg2); (try simp only [lg_cmp_lt, lg_cmp_le, lg_cmp_ge, lg_cmp_gt, lg_cmp_eq, fa_lt, fa_le, fa_eq, fa_lt64, fa_le64, fa_eq64, Int32.toInt_toInt64, li_0, lj_0, li_1, lj_1] at kg3); (try simp only [lg_cmp_lt, lg_cmp_le, lg_cmp_ge, lg_cmp_gt, lg_cmp_eq, fa_lt, fa_le, fa_eq, fa_lt64, fa_le64, fa_eq64, Int32.toInt_toInt64, li_0, lj_0, li_1, lj_1] at kg4); (try simp only [lg_cmp_lt, lg_cmp_le, lg_cmp_ge, lg_cmp_gt, lg_cmp_eq, fa_lt, fa_le, fa_eq, fa_lt64, fa_le64, fa_eq64, Int32.toInt_toInt64, li_0, lj_0, li_1, lj_1] at kg5); (try simp only [lg_cmp_lt, lg_cmp_le, lg_cmp_ge, lg_cmp_gt, lg_cmp_eq, fa_lt, fa_le, fa_eq, fa_lt64, fa_le64, fa_eq64, Int32.toInt_toInt64, li_0, lj_0, li_1, lj_1] at kg6); rw [fa_eq, li_0]; omega)
    obtain rfl : p2 = 0 := (by have kg1 := g1; have kg2 := g2; have kg3 := g3; have kg4 := g4; have kg5 := g5; have kg6 := g6; (try simp only [lg_cmp_lt, lg_cmp_le, lg_cmp_ge, lg_cmp_gt, lg_cmp_eq, fa_lt, fa_le, fa_eq, fa_lt64, fa_le64, fa_eq64, Int32.toInt_toInt64, li_0, lj_0, li_1, lj_1] at kg1); (try simp only [lg_cmp_lt, lg_cmp_le, lg_cmp_ge, lg_cmp_gt, lg_cmp_eq, fa_lt, fa_le, fa_eq, fa_lt64, fa_le64, fa_eq64, Int32.toInt_toInt64, li_0, lj_0, li_1, lj_1] at kg2); (try simp only [lg_cmp_lt, lg_cmp_le, lg_cmp_ge, lg_cmp_gt, lg_cmp_eq, fa_lt, fa_le, fa_eq, fa_lt64, fa_le64, fa_eq64, Int32.toInt_toInt64, li_0, lj_0, li_1, lj_1] at kg3); (try simp only [lg_cmp_lt, lg_cmp_le, lg_cmp_ge, lg_cmp_gt, lg_cmp_eq, fa_lt, fa_le, fa_eq, fa_lt64, fa_le64, fa_eq64, Int32.toInt_toInt64, li_0, lj_0, li_1, lj_1] at kg4); (try simp only [lg_cmp_lt, lg_cmp_le, lg_cmp_ge, lg_cmp_gt, lg_cmp_eq, fa_lt, fa_le, fa_eq, fa_lt64, fa_le64, fa_eq64, Int32.toInt_toInt64, li_0, lj_0, li_1, lj_1] at kg5); (try simp only [lg_cmp_lt, lg_cmp_le, lg_cmp_ge, lg_cmp_gt, lg_cmp_eq, fa_lt, fa_le, fa_eq, fa_lt64, fa_le64, fa_eq64, Int32.toInt_toInt64, li_0, lj_0, li_1, lj_1] at kg6); rw [fa_eq, li_0]; omega)
    refine lv_aload_n hx hb dX10_at_6 rfl (lv_at hl 0 rfl) ?_
    refine va_get (ci := 10) (v := .ref (a 3)) (C := RX10) (T := TX10) (N := 13) hx hb htA in_X10 hown hK hP 0 rfl rfl 5 (by decide) (htA _ wd_313) (fun _ h => h) rfl dX10_at_7 ?_
    refine lv_iload_n hx hb dX10_at_10 rfl (lv_at hl 1 rfl) ?_
    refine lv_iload_n hx hb dX10_at_11 rfl (lv_at hl 2 rfl) ?_
    refine kVi (As := [.int 0, .int 0]) (rest := []) (wr := [((a 0), .inr (10, [.ref (a 1), .int 0, .int 0, .int (-1), .ref (a 2), .ref (a 3), .ref (a 4), .ref (a 5), .ref (a 6), .ref (a 7), .ref (a 8), .ref (a 9), .int 0]))]) hX hE (au_X6_thingAt_7 l D cy a) (cwVA 2 htA wd_383 wd_925 wd_6 wd_381 wd_382 (by decide +kernel) ⟨by decide, by decide⟩) hP hD hS [1, 2] [0] rfl rfl (by decide) 0 rfl rfl rfl rfl hl.1 rfl (Nat.le_of_ble_eq_true rfl) dX10_at_12 (by decide) (fun r_ W1 H locs hw hP hD hS => ?_)
    refine W.widen (k := 1) (n := 6) (by decide) (by decide) ?_
    obtain ⟨rfl, rfl⟩ := hw
    have hP : va_P D vwCl [((a 0), .inr (10, [.ref (a 1), .int 0, .int 0, .int (-1), .ref (a 2), .ref (a 3), .ref (a 4), .ref (a 5), .ref (a 6), .ref (a 7), .ref (a 8), .ref (a 9), .int 0])), ((a 3), .inr (6, [.ref (a 10), .int 0, .ref (a 21), .ref (a 22), .ref (a 23), .ref (a 24), .ref (a 25), .int 0])), ((a 10), .inr (0, [.int 0, .int 1, .int 1, .int 0, .int 0, .ref (a 11), .ref (a 12), .ref (a 13), .null, .null]))] H := hP
    have hD : va_D A [((a 0), .inr (10, [.ref (a 1), .int 0, .int 0, .int (-1), .ref (a 2), .ref (a 3), .ref (a 4), .ref (a 5), .ref (a 6), .ref (a 7), .ref (a 8), .ref (a 9), .int 0])), ((a 3), .inr (6, [.ref (a 10), .int 0, .ref (a 21), .ref (a 22), .ref (a 23), .ref (a 24), .ref (a 25), .int 0])), ((a 10), .inr (0, [.int 0, .int 1, .int 1, .int 0, .int 0, .ref (a 11), .ref (a 12), .ref (a 13), .null, .null]))] := hD
    exact vx_ret (rI hX hE hP hD hS dX10_at_15 (by decide) (by decide) (⟨(by have kg1 := g1; have kg2 := g2; have kg3 := g3; have kg4 := g4; have kg5 := g5; have kg6 := g6; (try simp only [lg_cmp_lt, lg_cmp_le, lg_cmp_ge, lg_cmp_gt, lg_cmp_eq, fa_lt, fa_le, fa_eq, fa_lt64, fa_le64, fa_eq64, Int32.toInt_toInt64, li_0, lj_0, li_1, lj_1] at kg1); (try simp only [lg_cmp_lt, lg_cmp_le, lg_cmp_ge, lg_cmp_gt, lg_cmp_eq, fa_lt, fa_le, fa_eq, fa_lt64, fa_le64, fa_eq64, Int32.toInt_toInt64, li_0, lj_0, li_1, lj_1] at kg2); (try simp only [lg_cmp_lt, lg_cmp_le, lg_cmp_ge, lg_cmp_gt, lg_cmp_eq, fa_lt, fa_le, fa_eq, fa_lt64, fa_le64, fa_eq64, Int32.toInt_toInt64, li_0, lj_0, li_1, lj_1] at kg3); (try simp only [lg_cmp_lt, lg_cmp_le, lg_cmp_ge, lg_cmp_gt, lg_cmp_eq, fa_lt, fa_le, fa_eq, fa_lt64, fa_le64, fa_eq64, Int32.toInt_toInt64, li_0, lj_0, li_1, lj_1] at kg4); (try simp only [lg_cmp_lt, lg_cmp_le, lg_cmp_ge, lg_cmp_gt, lg_cmp_eq, fa_lt, fa_le, fa_eq, fa_lt64, fa_le64, fa_eq64, Int32.toInt_toInt64, li_0, lj_0, li_1, lj_1] at kg5); (try simp only [lg_cmp_lt, lg_cmp_le, lg_cmp_ge, lg_cmp_gt, lg_cmp_eq, fa_lt, fa_le, fa_eq, fa_lt64, fa_le64, fa_eq64, Int32.toInt_toInt64, li_0, lj_0, li_1, lj_1] at kg6); first | rfl | (unfold kf_at; (try simp only [li_0, and_self, and_true, true_and, if_true]); (repeat' split) <;> first | rfl | (exfalso; omega))), (by have kg1 := g1; have kg2 := g2; have kg3 := g3; have kg4 := g4; have kg5 := g5; have kg6 := g6; (try simp only [lg_cmp_lt, lg_cmp_le, lg_cmp_ge, lg_cmp_gt, lg_cmp_eq, fa_lt, fa_le, fa_eq, fa_lt64, fa_le64, fa_eq64, Int32.toInt_toInt64, li_0, lj_0, li_1, lj_1] at kg1); (try simp only [lg_cmp_lt, lg_cmp_le, lg_cmp_ge, lg_cmp_gt, lg_cmp_eq, fa_lt, fa_le, fa_eq, fa_lt64, fa_le64, fa_eq64, Int32.toInt_toInt64, li_0, lj_0, li_1, lj_1] at kg2); (try simp only [lg_cmp_lt, lg_cmp_le, lg_cmp_ge, lg_cmp_gt, lg_cmp_eq, fa_lt, fa_le, fa_eq, fa_lt64, fa_le64, fa_eq64, Int32.toInt_toInt64, li_0, lj_0, li_1, lj_1] at kg3); (try simp only [lg_cmp_lt, lg_cmp_le, lg_cmp_ge, lg_cmp_gt, lg_cmp_eq, fa_lt, fa_le, fa_eq, fa_lt64, fa_le64, fa_eq64, Int32.toInt_toInt64, li_0, lj_0, li_1, lj_1] at kg4); (try simp only [lg_cmp_lt, lg_cmp_le, lg_cmp_ge, lg_cmp_gt, lg_cmp_eq, fa_lt, fa_le, fa_eq, fa_lt64, fa_le64, fa_eq64, Int32.toInt_toInt64, li_0, lj_0, li_1, lj_1] at kg5); (try simp only [lg_cmp_lt, lg_cmp_le, lg_cmp_ge, lg_cmp_gt, lg_cmp_eq, fa_lt, fa_le, fa_eq, fa_lt64, fa_le64, fa_eq64, Int32.toInt_toInt64, li_0, lj_0, li_1, lj_1] at kg6); first | rfl | decide | (unfold vf_at; (try simp only [li_0, and_self, and_true, true_and, if_true]); (repeat' split) <;> first | rfl | decide | (exfalso; omega)))⟩))
def kf_undo (p1 : Int32) : Int32 := 1
def vf_undo (p1 : Int32) : Int64 := 0
set_option maxHeartbeats 4000000 in
set_option maxRecDepth 100000 in
theorem m_undo (l : Launch) (hlt : l.stackTraces = false) (D : va_G) (cy : Nat → ClassId) (a : Nat → Nat) (p1 : Int32) : Xi l yX10_undo cX10_undo 2 (some .int) { frames := 6, cells := 1, slots := 6, locals := 90 } D cy [.ref (a 0), .int p1] [((a 0), .inr (10, [.ref (a 1), .int 0, .int 0, .int (-1), .ref (a 2), .ref (a 3), .ref (a 4), .ref (a 5), .ref (a 6), .ref (a 7), .ref (a 8), .ref (a 9), .int 0])), ((a 4), .inr (2, [.ref (a 70), .int 0, .int 0]))] (fun r _ => kf_undo p1 = 0 ∧ r.toInt64 = vf_undo p1) (fun E _ => (E = "java/lang/IllegalArgumentException" ∧ kf_undo p1 = 1)) := by
  refine Xi.of (by decide) (Nat.le_of_ble_eq_true rfl) ?_
  intro p e s m below meth c A ls hX hE hP hD hl hxt
  obtain ⟨hx, hb, hr, hml, hown, htA, hlk⟩ := id hX
  have hK := hE.1
  have hS : va_S A s.heap s.heap [] := va_S.rf
  have hl : lv_has ls 2 [(0, .ref (a 0)), (1, .int p1)] := hl
  refine lv_iload_n hx hb dX10_undo_0 rfl (lv_at hl 1 rfl) ?_
  refine lv_iconst (v := 1) hx hb dX10_undo_1 (by decide) ?_
  refine lv_icmp_lt (tgt := 16) hx hb dX10_undo_2 (by decide) (fun c1 => ?_) (fun c1 => ?_)
  · exact k_throwS hlt hX hE hxt hP hD hS hl.1 (by decide) (htA _ wd_531) (htA _ wd_14) (xSW_in hE.2.2.2 "LateFalls" 230 "not so many deeds" (by decide)) (at_X10_87 htA hE.2.2.2) ot_X10_83_87 dX10_undo_16 dX10_undo_19 dX10_undo_20 dX10_undo_22 dX10_undo_25 (by decide) (by decide) (by decide) (by decide) (by decide) (by decide) (⟨rfl, (by have kc1 := c1; (try simp only [lg_cmp_lt, lg_cmp_le, lg_cmp_ge, lg_cmp_gt, lg_cmp_eq, fa_lt, fa_le, fa_eq, fa_lt64, fa_le64, fa_eq64, Int32.toInt_toInt64, li_1, lj_1] at kc1); first | rfl | (unfold kf_undo; (repeat' split) <;> first | rfl | (exfalso; omega)))⟩)
  · refine lv_iload_n hx hb dX10_undo_5 rfl (lv_at hl 1 rfl) ?_
    refine lv_aload_n hx hb dX10_undo_6 rfl (lv_at hl 0 rfl) ?_
    refine va_get (ci := 10) (v := .ref (a 4)) (C := RX10) (T := TX10) (N := 13) hx hb htA in_X10 hown hK hP 0 rfl rfl 6 (by decide) (htA _ wd_314) (fun _ h => h) rfl dX10_undo_7 ?_
    refine va_get (ci := 2) (v := .int 0) (C := RX2) (T := TX2) (N := 3) hx hb htA in_X2 hown hK hP 1 rfl rfl 2 (by decide) (htA _ wd_251) (fun _ h => h) rfl dX10_undo_10 ?_
    refine lv_icmp_le (tgt := 26) hx hb dX10_undo_13 (by decide) (fun c2 => (by have kc1 := c1; have kc2 := c2; (try simp only [lg_cmp_lt, lg_cmp_le, lg_cmp_ge, lg_cmp_gt, lg_cmp_eq, fa_lt, fa_le, fa_eq, fa_lt64, fa_le64, fa_eq64, Int32.toInt_toInt64, li_0, lj_0, li_1, lj_1] at kc1); (try simp only [lg_cmp_lt, lg_cmp_le, lg_cmp_ge, lg_cmp_gt, lg_cmp_eq, fa_lt, fa_le, fa_eq, fa_lt64, fa_le64, fa_eq64, Int32.toInt_toInt64, li_0, lj_0, li_1, lj_1] at kc2); exfalso; omega)) (fun c2 => ?_)
    exact k_throwS hlt hX hE hxt hP hD hS hl.1 (by decide) (htA _ wd_531) (htA _ wd_14) (xSW_in hE.2.2.2 "LateFalls" 230 "not so many deeds" (by decide)) (at_X10_87 htA hE.2.2.2) ot_X10_83_87 dX10_undo_16 dX10_undo_19 dX10_undo_20 dX10_undo_22 dX10_undo_25 (by decide) (by decide) (by decide) (by decide) (by decide) (by decide) (⟨rfl, (by have kc1 := c1; have kc2 := c2; (try simp only [lg_cmp_lt, lg_cmp_le, lg_cmp_ge, lg_cmp_gt, lg_cmp_eq, fa_lt, fa_le, fa_eq, fa_lt64, fa_le64, fa_eq64, Int32.toInt_toInt64, li_0, lj_0, li_1, lj_1] at kc1); (try simp only [lg_cmp_lt, lg_cmp_le, lg_cmp_ge, lg_cmp_gt, lg_cmp_eq, fa_lt, fa_le, fa_eq, fa_lt64, fa_le64, fa_eq64, Int32.toInt_toInt64, li_0, lj_0, li_1, lj_1] at kc2); first | rfl | (unfold kf_undo; (repeat' split) <;> first | rfl | (exfalso; omega)))⟩)
def kf_judge (p1 : Int32) (p2 : Int32) : Int32 := if 0 ≤ p1.toInt ∧ p1.toInt ≤ 3 then 2 else 1
def vf_judge (p1 : Int32) (p2 : Int32) : Int64 := 0
set_option maxHeartbeats 4000000 in
set_option maxRecDepth 100000 in
theorem au_X10_anyTray_8 (l : Launch) (hlt : l.stackTraces = false) (D : va_G) (cy : Nat → ClassId) (a : Nat → Nat) (v1_ : Int32) : Xr l yX10_anyTray cX10_anyTray 2 (some (.object "LateFalls$Tray")) { frames := 6, cells := 1, slots := 6, locals := 90 } D cy [.ref (a 0), .int v1_] [((a 0), .inr (10, [.ref (a 1), .int 0, .int 0, .int (-1), .ref (a 2), .ref (a 3), .ref (a 4), .ref (a 5), .ref (a 6), .ref (a 7), .ref (a 8), .ref (a 9), .int 0])), ((a 8), .inl (cy 5, 4, .inr (.inr (.inr (.inr (va_up (va_up (va_up (va_up (fun _ => none) (0 : Int32).toNatClampNeg (some (a 60))) (1 : Int32).toNatClampNeg (some (a 61))) (2 : Int32).toNatClampNeg (some (a 62))) (3 : Int32).toNatClampNeg (some (a 63))))))))] (fun r W1 => ((¬ v1_ < 0) ∧ (v1_ < 4) ∧ (v1_ = 0) ∧ W1 = [((a 0), .inr (10, [.ref (a 1), .int 0, .int 0, .int (-1), .ref (a 2), .ref (a 3), .ref (a 4), .ref (a 5), .ref (a 6), .ref (a 7), .ref (a 8), .ref (a 9), .int 0])), ((a 8), .inl (cy 5, 4, .inr (.inr (.inr (.inr (va_up (va_up (va_up (va_up (fun _ => none) (0 : Int32).toNatClampNeg (some (a 60))) (1 : Int32).toNatClampNeg (some (a 61))) (2 : Int32).toNatClampNeg (some (a 62))) (3 : Int32).toNatClampNeg (some (a 63))))))))] ∧ r = (a 60)) ∨ ((¬ v1_ < 0) ∧ (v1_ < 4) ∧ (v1_ = 1) ∧ W1 = [((a 0), .inr (10, [.ref (a 1), .int 0, .int 0, .int (-1), .ref (a 2), .ref (a 3), .ref (a 4), .ref (a 5), .ref (a 6), .ref (a 7), .ref (a 8), .ref (a 9), .int 0])), ((a 8), .inl (cy 5, 4, .inr (.inr (.inr (.inr (va_up (va_up (va_up (va_up (fun _ => none) (0 : Int32).toNatClampNeg (some (a 60))) (1 : Int32).toNatClampNeg (some (a 61))) (2 : Int32).toNatClampNeg (some (a 62))) (3 : Int32).toNatClampNeg (some (a 63))))))))] ∧ r = (a 61)) ∨ ((¬ v1_ < 0) ∧ (v1_ < 4) ∧ (v1_ = 2) ∧ W1 = [((a 0), .inr (10, [.ref (a 1), .int 0, .int 0, .int (-1), .ref (a 2), .ref (a 3), .ref (a 4), .ref (a 5), .ref (a 6), .ref (a 7), .ref (a 8), .ref (a 9), .int 0])), ((a 8), .inl (cy 5, 4, .inr (.inr (.inr (.inr (va_up (va_up (va_up (va_up (fun _ => none) (0 : Int32).toNatClampNeg (some (a 60))) (1 : Int32).toNatClampNeg (some (a 61))) (2 : Int32).toNatClampNeg (some (a 62))) (3 : Int32).toNatClampNeg (some (a 63))))))))] ∧ r = (a 62)) ∨ ((¬ v1_ < 0) ∧ (v1_ < 4) ∧ (v1_ = 3) ∧ W1 = [((a 0), .inr (10, [.ref (a 1), .int 0, .int 0, .int (-1), .ref (a 2), .ref (a 3), .ref (a 4), .ref (a 5), .ref (a 6), .ref (a 7), .ref (a 8), .ref (a 9), .int 0])), ((a 8), .inl (cy 5, 4, .inr (.inr (.inr (.inr (va_up (va_up (va_up (va_up (fun _ => none) (0 : Int32).toNatClampNeg (some (a 60))) (1 : Int32).toNatClampNeg (some (a 61))) (2 : Int32).toNatClampNeg (some (a 62))) (3 : Int32).toNatClampNeg (some (a 63))))))))] ∧ r = (a 63))) (fun E _ => ((v1_ < 0) ∧ E = "java/util/NoSuchElementException") ∨ ((¬ v1_ < 0) ∧ (¬ v1_ < 4) ∧ E = "java/util/NoSuchElementException")) := by
  refine Xr.of (by decide) (Nat.le_of_ble_eq_true rfl) ?_
  intro p e s m below meth c A ls hX hE hP hD hl hxt
  obtain ⟨hx, hb, hr, hml, hown, htA, hlk⟩ := id hX
  have hK := hE.1
  have hS : va_S A s.heap s.heap [] := va_S.rf
  have hl : lv_has ls 2 [(0, .ref (a 0)), (1, .int v1_)] := hl
  refine lv_iload_n hx hb dX10_anyTray_0 rfl (lv_at hl 1 rfl) ?_
  refine lv_if_lt (tgt := 9) hx hb dX10_anyTray_1 (by decide) (fun c1 => ?_) (fun c1 => ?_)
  · exact k_throwNW rx_0 rx_1 rx_2 rx_5 hlt hX hE hxt hP hD hS hl.1 (by decide) (htA _ wd_869) (htA _ wd_23) (xSW_in hE.2.2.2 "LateFalls" 399 "no such tray" (by decide)) (at_X10_185 htA hE.2.2.2) ot_X10_181_185 (htA _ wd_881) (htA _ wd_880) dX10_anyTray_9 dX10_anyTray_12 dX10_anyTray_13 dX10_anyTray_16 dX10_anyTray_19 (by decide) (by decide) (by decide) (by decide) (by decide) (by decide) (Or.inl (⟨c1, rfl⟩))
  · refine lv_iload_n hx hb dX10_anyTray_4 rfl (lv_at hl 1 rfl) ?_
    refine lv_iconst (v := 4) hx hb dX10_anyTray_5 (by decide) ?_
    refine lv_icmp_lt (tgt := 20) hx hb dX10_anyTray_6 (by decide) (fun c2 => ?_) (fun c2 => ?_)
    · refine lv_aload_n hx hb dX10_anyTray_20 rfl (lv_at hl 0 rfl) ?_
      refine va_get (ci := 10) (v := .ref (a 8)) (C := RX10) (T := TX10) (N := 13) hx hb htA in_X10 hown hK hP 0 rfl rfl 10 (by decide) (htA _ wd_318) (fun _ h => h) rfl dX10_anyTray_21 ?_
      refine lv_iload_n hx hb dX10_anyTray_24 rfl (lv_at hl 1 rfl) ?_
      rcases ix_4 v1_ (vp_in_iff.mpr (by have kc1 := c1; have kc2 := c2; (try simp only [lg_cmp_lt, lg_cmp_le, lg_cmp_ge, lg_cmp_gt, lg_cmp_eq, fa_lt, fa_le, fa_eq, fa_lt64, fa_le64, fa_eq64, Int32.toInt_toInt64, li_0, lj_0, li_4, lj_4] at kc1); (try simp only [lg_cmp_lt, lg_cmp_le, lg_cmp_ge, lg_cmp_gt, lg_cmp_eq, fa_lt, fa_le, fa_eq, fa_lt64, fa_le64, fa_eq64, Int32.toInt_toInt64, li_0, lj_0, li_4, lj_4] at kc2); constructor <;> omega)) with rfl | rfl | rfl | rfl
      · refine va_aldq hx hb hK hP 1 5 rfl rfl (in_lit (by decide)) dX10_anyTray_25 ?_
        refine W.eq (g2 := F0 m 26 ls [.ref (a 60)]) rfl ?_
        exact vx_ret (rR hX hE hP hD hS dX10_anyTray_26 (by decide) (by decide) (Or.inl (⟨c1, c2, rfl, rfl, rfl⟩)))
      · refine va_aldq hx hb hK hP 1 5 rfl rfl (in_lit (by decide)) dX10_anyTray_25 ?_
        refine W.eq (g2 := F0 m 26 ls [.ref (a 61)]) rfl ?_
        exact vx_ret (rR hX hE hP hD hS dX10_anyTray_26 (by decide) (by decide) (Or.inr (Or.inl (⟨c1, c2, rfl, rfl, rfl⟩))))
      · refine va_aldq hx hb hK hP 1 5 rfl rfl (in_lit (by decide)) dX10_anyTray_25 ?_
        refine W.eq (g2 := F0 m 26 ls [.ref (a 62)]) rfl ?_
        exact vx_ret (rR hX hE hP hD hS dX10_anyTray_26 (by decide) (by decide) (Or.inr (Or.inr (Or.inl (⟨c1, c2, rfl, rfl, rfl⟩)))))
      · refine va_aldq hx hb hK hP 1 5 rfl rfl (in_lit (by decide)) dX10_anyTray_25 ?_
        refine W.eq (g2 := F0 m 26 ls [.ref (a 63)]) rfl ?_
        exact vx_ret (rR hX hE hP hD hS dX10_anyTray_26 (by decide) (by decide) (Or.inr (Or.inr (Or.inr (⟨c1, c2, rfl, rfl, rfl⟩)))))
    · exact k_throwNW rx_0 rx_1 rx_2 rx_5 hlt hX hE hxt hP hD hS hl.1 (by decide) (htA _ wd_869) (htA _ wd_23) (xSW_in hE.2.2.2 "LateFalls" 399 "no such tray" (by decide)) (at_X10_185 htA hE.2.2.2) ot_X10_181_185 (htA _ wd_881) (htA _ wd_880) dX10_anyTray_9 dX10_anyTray_12 dX10_anyTray_13 dX10_anyTray_16 dX10_anyTray_19 (by decide) (by decide) (by decide) (by decide) (by decide) (by decide) (Or.inr (⟨c1, c2, rfl⟩))
set_option maxHeartbeats 4000000 in
set_option maxRecDepth 100000 in
theorem au_X10_filledTray_9 (l : Launch) (hlt : l.stackTraces = false) (D : va_G) (cy : Nat → ClassId) (a : Nat → Nat) (v1_ : Int32) : Xr l yX10_filledTray cX10_filledTray 3 (some (.object "LateFalls$Tray")) { frames := 7, cells := 2, slots := 12, locals := 111 } D cy [.ref (a 0), .int v1_] [((a 0), .inr (10, [.ref (a 1), .int 0, .int 0, .int (-1), .ref (a 2), .ref (a 3), .ref (a 4), .ref (a 5), .ref (a 6), .ref (a 7), .ref (a 8), .ref (a 9), .int 0])), ((a 8), .inl (cy 5, 4, .inr (.inr (.inr (.inr (va_up (va_up (va_up (va_up (fun _ => none) (0 : Int32).toNatClampNeg (some (a 60))) (1 : Int32).toNatClampNeg (some (a 61))) (2 : Int32).toNatClampNeg (some (a 62))) (3 : Int32).toNatClampNeg (some (a 63)))))))), ((a 60), .inr (8, [.int (-1), .int 0, .ref (a 64)])), ((a 61), .inr (8, [.int (-1), .int 0, .ref (a 65)])), ((a 62), .inr (8, [.int (-1), .int 0, .ref (a 66)])), ((a 63), .inr (8, [.int (-1), .int 0, .ref (a 67)]))] (fun r _ => False) (fun E _ => ((v1_ < 0) ∧ E = "java/util/NoSuchElementException") ∨ ((¬ v1_ < 0) ∧ (¬ v1_ < 4) ∧ E = "java/util/NoSuchElementException") ∨ ((¬ v1_ < 0) ∧ (v1_ < 4) ∧ (v1_ = 0) ∧ E = "java/lang/IllegalStateException") ∨ ((¬ v1_ < 0) ∧ (v1_ < 4) ∧ (v1_ = 1) ∧ E = "java/lang/IllegalStateException") ∨ ((¬ v1_ < 0) ∧ (v1_ < 4) ∧ (v1_ = 2) ∧ E = "java/lang/IllegalStateException") ∨ ((¬ v1_ < 0) ∧ (v1_ < 4) ∧ (v1_ = 3) ∧ E = "java/lang/IllegalStateException")) := by
  refine Xr.of (by decide) (Nat.le_of_ble_eq_true rfl) ?_
  intro p e s m below meth c A ls hX hE hP hD hl hxt
  obtain ⟨hx, hb, hr, hml, hown, htA, hlk⟩ := id hX
  have hK := hE.1
  have hS : va_S A s.heap s.heap [] := va_S.rf
  have hl : lv_has ls 3 [(0, .ref (a 0)), (1, .int v1_)] := hl
  refine lv_aload_n hx hb dX10_filledTray_0 rfl (lv_at hl 0 rfl) ?_
  refine lv_iload_n hx hb dX10_filledTray_1 rfl (lv_at hl 1 rfl) ?_
  refine xVr (As := [.int v1_]) (rest := []) (wr := [((a 60), .inr (8, [.int (-1), .int 0, .ref (a 64)])), ((a 61), .inr (8, [.int (-1), .int 0, .ref (a 65)])), ((a 62), .inr (8, [.int (-1), .int 0, .ref (a 66)])), ((a 63), .inr (8, [.int (-1), .int 0, .ref (a 67)]))]) hX hE (au_X10_anyTray_8 l hlt D cy a v1_) (cwVA 1 htA wd_977 wd_974 wd_1 wd_976 wp_31 (by decide +kernel) ⟨by decide, by decide⟩) hP hD hS [0, 1] [2, 3, 4, 5] rfl rfl (by decide) 0 rfl rfl rfl rfl hl.1 rfl (Nat.le_of_ble_eq_true rfl) dX10_filledTray_2 (by decide) (fun E ce q9 W1 H locs hw hP hD hS hce hcv hcl => ?_) (fun r_ W1 H locs hw hP hD hS => ?_)
  · rcases hw with ⟨g13, rfl⟩ | ⟨g14, g15, rfl⟩
    · exact xO hX hE hxt hP hD hS hce hcv hcl (by decide) (by decide) (Or.inl (⟨g13, rfl⟩))
    · exact xO hX hE hxt hP hD hS hce hcv hcl (by decide) (by decide) (Or.inr (Or.inl (⟨g14, g15, rfl⟩)))
  · refine W.widen (k := 1) (n := 6) (by decide) (by decide) ?_
    rcases hw with ⟨g1, g2, g3, rfl, rfl⟩ | ⟨g4, g5, g6, rfl, rfl⟩ | ⟨g7, g8, g9, rfl, rfl⟩ | ⟨g10, g11, g12, rfl, rfl⟩
    · have hP : va_P D vwCl [((a 60), .inr (8, [.int (-1), .int 0, .ref (a 64)])), ((a 61), .inr (8, [.int (-1), .int 0, .ref (a 65)])), ((a 62), .inr (8, [.int (-1), .int 0, .ref (a 66)])), ((a 63), .inr (8, [.int (-1), .int 0, .ref (a 67)])), ((a 0), .inr (10, [.ref (a 1), .int 0, .int 0, .int (-1), .ref (a 2), .ref (a 3), .ref (a 4), .ref (a 5), .ref (a 6), .ref (a 7), .ref (a 8), .ref (a 9), .int 0])), ((a 8), .inl (cy 5, 4, .inr (.inr (.inr (.inr (va_up (va_up (va_up (va_up (fun _ => none) (0 : Int32).toNatClampNeg (some (a 60))) (1 : Int32).toNatClampNeg (some (a 61))) (2 : Int32).toNatClampNeg (some (a 62))) (3 : Int32).toNatClampNeg (some (a 63))))))))] H := hP
      have hD : va_D A [((a 60), .inr (8, [.int (-1), .int 0, .ref (a 64)])), ((a 61), .inr (8, [.int (-1), .int 0, .ref (a 65)])), ((a 62), .inr (8, [.int (-1), .int 0, .ref (a 66)])), ((a 63), .inr (8, [.int (-1), .int 0, .ref (a 67)])), ((a 0), .inr (10, [.ref (a 1), .int 0, .int 0, .int (-1), .ref (a 2), .ref (a 3), .ref (a 4), .ref (a 5), .ref (a 6), .ref (a 7), .ref (a 8), .ref (a 9), .int 0])), ((a 8), .inl (cy 5, 4, .inr (.inr (.inr (.inr (va_up (va_up (va_up (va_up (fun _ => none) (0 : Int32).toNatClampNeg (some (a 60))) (1 : Int32).toNatClampNeg (some (a 61))) (2 : Int32).toNatClampNeg (some (a 62))) (3 : Int32).toNatClampNeg (some (a 63))))))))] := hD
      refine lv_astore_n (lv' := [(2, .ref (a 60)), (0, .ref (a 0)), (1, .int v1_)]) hx hb dX10_filledTray_5 rfl hl (by decide) rfl (fun ls hl => ?_)
      refine lv_aload_n hx hb dX10_filledTray_6 rfl (lv_at hl 0 rfl) ?_
      refine va_get (ci := 8) (v := .int (-1)) (C := RX8) (T := TX8) (N := 3) hx hb htA in_X8 hown hK hP 0 rfl rfl 0 (by decide) (htA _ wd_296) (fun _ h => h) rfl dX10_filledTray_7 ?_
      refine lv_iconst (v := (-1)) hx hb dX10_filledTray_10 (by decide) ?_
      refine lv_icmp_ne (tgt := 25) hx hb dX10_filledTray_11 (by decide) (fun q => absurd rfl q) (fun _ => ?_)
      exact k_throwSW hlt hX hE hxt hP hD hS hl.1 (by decide) (htA _ wd_979) (htA _ wd_25) (xSW_in hE.2.2.2 "LateFalls" 404 "the tray is missing" (by decide)) (at_X10_311 htA hE.2.2.2) ot_X10_307_311 dX10_filledTray_14 dX10_filledTray_17 dX10_filledTray_18 dX10_filledTray_21 dX10_filledTray_24 (by decide) (by decide) (by decide) (by decide) (by decide) (by decide) (Or.inr (Or.inr (Or.inl (⟨g1, g2, g3, rfl⟩))))
    · have hP : va_P D vwCl [((a 60), .inr (8, [.int (-1), .int 0, .ref (a 64)])), ((a 61), .inr (8, [.int (-1), .int 0, .ref (a 65)])), ((a 62), .inr (8, [.int (-1), .int 0, .ref (a 66)])), ((a 63), .inr (8, [.int (-1), .int 0, .ref (a 67)])), ((a 0), .inr (10, [.ref (a 1), .int 0, .int 0, .int (-1), .ref (a 2), .ref (a 3), .ref (a 4), .ref (a 5), .ref (a 6), .ref (a 7), .ref (a 8), .ref (a 9), .int 0])), ((a 8), .inl (cy 5, 4, .inr (.inr (.inr (.inr (va_up (va_up (va_up (va_up (fun _ => none) (0 : Int32).toNatClampNeg (some (a 60))) (1 : Int32).toNatClampNeg (some (a 61))) (2 : Int32).toNatClampNeg (some (a 62))) (3 : Int32).toNatClampNeg (some (a 63))))))))] H := hP
      have hD : va_D A [((a 60), .inr (8, [.int (-1), .int 0, .ref (a 64)])), ((a 61), .inr (8, [.int (-1), .int 0, .ref (a 65)])), ((a 62), .inr (8, [.int (-1), .int 0, .ref (a 66)])), ((a 63), .inr (8, [.int (-1), .int 0, .ref (a 67)])), ((a 0), .inr (10, [.ref (a 1), .int 0, .int 0, .int (-1), .ref (a 2), .ref (a 3), .ref (a 4), .ref (a 5), .ref (a 6), .ref (a 7), .ref (a 8), .ref (a 9), .int 0])), ((a 8), .inl (cy 5, 4, .inr (.inr (.inr (.inr (va_up (va_up (va_up (va_up (fun _ => none) (0 : Int32).toNatClampNeg (some (a 60))) (1 : Int32).toNatClampNeg (some (a 61))) (2 : Int32).toNatClampNeg (some (a 62))) (3 : Int32).toNatClampNeg (some (a 63))))))))] := hD
      refine lv_astore_n (lv' := [(2, .ref (a 61)), (0, .ref (a 0)), (1, .int v1_)]) hx hb dX10_filledTray_5 rfl hl (by decide) rfl (fun ls hl => ?_)
      refine lv_aload_n hx hb dX10_filledTray_6 rfl (lv_at hl 0 rfl) ?_
      refine va_get (ci := 8) (v := .int (-1)) (C := RX8) (T := TX8) (N := 3) hx hb htA in_X8 hown hK hP 1 rfl rfl 0 (by decide) (htA _ wd_296) (fun _ h => h) rfl dX10_filledTray_7 ?_
      refine lv_iconst (v := (-1)) hx hb dX10_filledTray_10 (by decide) ?_
      refine lv_icmp_ne (tgt := 25) hx hb dX10_filledTray_11 (by decide) (fun q => absurd rfl q) (fun _ => ?_)
      exact k_throwSW hlt hX hE hxt hP hD hS hl.1 (by decide) (htA _ wd_979) (htA _ wd_25) (xSW_in hE.2.2.2 "LateFalls" 404 "the tray is missing" (by decide)) (at_X10_311 htA hE.2.2.2) ot_X10_307_311 dX10_filledTray_14 dX10_filledTray_17 dX10_filledTray_18 dX10_filledTray_21 dX10_filledTray_24 (by decide) (by decide) (by decide) (by decide) (by decide) (by decide) (Or.inr (Or.inr (Or.inr (Or.inl (⟨g4, g5, g6, rfl⟩)))))
    · have hP : va_P D vwCl [((a 60), .inr (8, [.int (-1), .int 0, .ref (a 64)])), ((a 61), .inr (8, [.int (-1), .int 0, .ref (a 65)])), ((a 62), .inr (8, [.int (-1), .int 0, .ref (a 66)])), ((a 63), .inr (8, [.int (-1), .int 0, .ref (a 67)])), ((a 0), .inr (10, [.ref (a 1), .int 0, .int 0, .int (-1), .ref (a 2), .ref (a 3), .ref (a 4), .ref (a 5), .ref (a 6), .ref (a 7), .ref (a 8), .ref (a 9), .int 0])), ((a 8), .inl (cy 5, 4, .inr (.inr (.inr (.inr (va_up (va_up (va_up (va_up (fun _ => none) (0 : Int32).toNatClampNeg (some (a 60))) (1 : Int32).toNatClampNeg (some (a 61))) (2 : Int32).toNatClampNeg (some (a 62))) (3 : Int32).toNatClampNeg (some (a 63))))))))] H := hP
      have hD : va_D A [((a 60), .inr (8, [.int (-1), .int 0, .ref (a 64)])), ((a 61), .inr (8, [.int (-1), .int 0, .ref (a 65)])), ((a 62), .inr (8, [.int (-1), .int 0, .ref (a 66)])), ((a 63), .inr (8, [.int (-1), .int 0, .ref (a 67)])), ((a 0), .inr (10, [.ref (a 1), .int 0, .int 0, .int (-1), .ref (a 2), .ref (a 3), .ref (a 4), .ref (a 5), .ref (a 6), .ref (a 7), .ref (a 8), .ref (a 9), .int 0])), ((a 8), .inl (cy 5, 4, .inr (.inr (.inr (.inr (va_up (va_up (va_up (va_up (fun _ => none) (0 : Int32).toNatClampNeg (some (a 60))) (1 : Int32).toNatClampNeg (some (a 61))) (2 : Int32).toNatClampNeg (some (a 62))) (3 : Int32).toNatClampNeg (some (a 63))))))))] := hD
      refine lv_astore_n (lv' := [(2, .ref (a 62)), (0, .ref (a 0)), (1, .int v1_)]) hx hb dX10_filledTray_5 rfl hl (by decide) rfl (fun ls hl => ?_)
      refine lv_aload_n hx hb dX10_filledTray_6 rfl (lv_at hl 0 rfl) ?_
      refine va_get (ci := 8) (v := .int (-1)) (C := RX8) (T := TX8) (N := 3) hx hb htA in_X8 hown hK hP 2 rfl rfl 0 (by decide) (htA _ wd_296) (fun _ h => h) rfl dX10_filledTray_7 ?_
      refine lv_iconst (v := (-1)) hx hb dX10_filledTray_10 (by decide) ?_
      refine lv_icmp_ne (tgt := 25) hx hb dX10_filledTray_11 (by decide) (fun q => absurd rfl q) (fun _ => ?_)
      exact k_throwSW hlt hX hE hxt hP hD hS hl.1 (by decide) (htA _ wd_979) (htA _ wd_25) (xSW_in hE.2.2.2 "LateFalls" 404 "the tray is missing" (by decide)) (at_X10_311 htA hE.2.2.2) ot_X10_307_311 dX10_filledTray_14 dX10_filledTray_17 dX10_filledTray_18 dX10_filledTray_21 dX10_filledTray_24 (by decide) (by decide) (by decide) (by decide) (by decide) (by decide) (Or.inr (Or.inr (Or.inr (Or.inr (Or.inl (⟨g7, g8, g9, rfl⟩))))))
    · have hP : va_P D vwCl [((a 60), .inr (8, [.int (-1), .int 0, .ref (a 64)])), ((a 61), .inr (8, [.int (-1), .int 0, .ref (a 65)])), ((a 62), .inr (8, [.int (-1), .int 0, .ref (a 66)])), ((a 63), .inr (8, [.int (-1), .int 0, .ref (a 67)])), ((a 0), .inr (10, [.ref (a 1), .int 0, .int 0, .int (-1), .ref (a 2), .ref (a 3), .ref (a 4), .ref (a 5), .ref (a 6), .ref (a 7), .ref (a 8), .ref (a 9), .int 0])), ((a 8), .inl (cy 5, 4, .inr (.inr (.inr (.inr (va_up (va_up (va_up (va_up (fun _ => none) (0 : Int32).toNatClampNeg (some (a 60))) (1 : Int32).toNatClampNeg (some (a 61))) (2 : Int32).toNatClampNeg (some (a 62))) (3 : Int32).toNatClampNeg (some (a 63))))))))] H := hP
      have hD : va_D A [((a 60), .inr (8, [.int (-1), .int 0, .ref (a 64)])), ((a 61), .inr (8, [.int (-1), .int 0, .ref (a 65)])), ((a 62), .inr (8, [.int (-1), .int 0, .ref (a 66)])), ((a 63), .inr (8, [.int (-1), .int 0, .ref (a 67)])), ((a 0), .inr (10, [.ref (a 1), .int 0, .int 0, .int (-1), .ref (a 2), .ref (a 3), .ref (a 4), .ref (a 5), .ref (a 6), .ref (a 7), .ref (a 8), .ref (a 9), .int 0])), ((a 8), .inl (cy 5, 4, .inr (.inr (.inr (.inr (va_up (va_up (va_up (va_up (fun _ => none) (0 : Int32).toNatClampNeg (some (a 60))) (1 : Int32).toNatClampNeg (some (a 61))) (2 : Int32).toNatClampNeg (some (a 62))) (3 : Int32).toNatClampNeg (some (a 63))))))))] := hD
      refine lv_astore_n (lv' := [(2, .ref (a 63)), (0, .ref (a 0)), (1, .int v1_)]) hx hb dX10_filledTray_5 rfl hl (by decide) rfl (fun ls hl => ?_)
      refine lv_aload_n hx hb dX10_filledTray_6 rfl (lv_at hl 0 rfl) ?_
      refine va_get (ci := 8) (v := .int (-1)) (C := RX8) (T := TX8) (N := 3) hx hb htA in_X8 hown hK hP 3 rfl rfl 0 (by decide) (htA _ wd_296) (fun _ h => h) rfl dX10_filledTray_7 ?_
      refine lv_iconst (v := (-1)) hx hb dX10_filledTray_10 (by decide) ?_
      refine lv_icmp_ne (tgt := 25) hx hb dX10_filledTray_11 (by decide) (fun q => absurd rfl q) (fun _ => ?_)
      exact k_throwSW hlt hX hE hxt hP hD hS hl.1 (by decide) (htA _ wd_979) (htA _ wd_25) (xSW_in hE.2.2.2 "LateFalls" 404 "the tray is missing" (by decide)) (at_X10_311 htA hE.2.2.2) ot_X10_307_311 dX10_filledTray_14 dX10_filledTray_17 dX10_filledTray_18 dX10_filledTray_21 dX10_filledTray_24 (by decide) (by decide) (by decide) (by decide) (by decide) (by decide) (Or.inr (Or.inr (Or.inr (Or.inr (Or.inr (⟨g10, g11, g12, rfl⟩))))))
set_option maxHeartbeats 4000000 in
set_option maxRecDepth 100000 in
theorem m_judge (l : Launch) (hlt : l.stackTraces = false) (D : va_G) (cy : Nat → ClassId) (a : Nat → Nat) (p1 : Int32) (p2 : Int32) : Xi l yX10_judge cX10_judge 8 (some .int) { frames := 8, cells := 2, slots := 12, locals := 133 } D cy [.ref (a 0), .int p1, .int p2] [((a 0), .inr (10, [.ref (a 1), .int 0, .int 0, .int (-1), .ref (a 2), .ref (a 3), .ref (a 4), .ref (a 5), .ref (a 6), .ref (a 7), .ref (a 8), .ref (a 9), .int 0])), ((a 8), .inl (cy 5, 4, .inr (.inr (.inr (.inr (va_up (va_up (va_up (va_up (fun _ => none) (0 : Int32).toNatClampNeg (some (a 60))) (1 : Int32).toNatClampNeg (some (a 61))) (2 : Int32).toNatClampNeg (some (a 62))) (3 : Int32).toNatClampNeg (some (a 63)))))))), ((a 60), .inr (8, [.int (-1), .int 0, .ref (a 64)])), ((a 61), .inr (8, [.int (-1), .int 0, .ref (a 65)])), ((a 62), .inr (8, [.int (-1), .int 0, .ref (a 66)])), ((a 63), .inr (8, [.int (-1), .int 0, .ref (a 67)]))] (fun r _ => kf_judge p1 p2 = 0 ∧ r.toInt64 = vf_judge p1 p2) (fun E _ => (E = "java/util/NoSuchElementException" ∧ kf_judge p1 p2 = 1) ∨ (E = "java/lang/IllegalStateException" ∧ kf_judge p1 p2 = 2)) := by
  refine Xi.of (by decide) (Nat.le_of_ble_eq_true rfl) ?_
  intro p e s m below meth c A ls hX hE hP hD hl hxt
  obtain ⟨hx, hb, hr, hml, hown, htA, hlk⟩ := id hX
  have hK := hE.1
  have hS : va_S A s.heap s.heap [] := va_S.rf
  have hl : lv_has ls 8 [(0, .ref (a 0)), (1, .int p1), (2, .int p2)] := hl
  refine lv_aload_n hx hb dX10_judge_0 rfl (lv_at hl 0 rfl) ?_
  refine lv_iload_n hx hb dX10_judge_1 rfl (lv_at hl 1 rfl) ?_
  refine xVr (As := [.int p1]) (rest := []) (wr := []) hX hE (au_X10_filledTray_9 l hlt D cy a p1) (cwVA 1 htA wd_973 wd_970 wd_1 wd_972 wp_30 (by decide +kernel) ⟨by decide, by decide⟩) hP hD hS [0, 1, 2, 3, 4, 5] [] rfl rfl (by decide) 0 rfl rfl rfl rfl hl.1 rfl (Nat.le_of_ble_eq_true rfl) dX10_judge_2 (by decide) (fun E ce q9 W1 H locs hw hP hD hS hce hcv hcl => ?_) (fun r_ W1 H locs hw hP hD hS => ?_)
  · rcases hw with ⟨g1, rfl⟩ | ⟨g2, g3, rfl⟩ | ⟨g4, g5, g6, rfl⟩ | ⟨g7, g8, g9, rfl⟩ | ⟨g10, g11, g12, rfl⟩ | ⟨g13, g14, g15, rfl⟩
    · exact xO hX hE hxt hP hD hS hce hcv hcl (by decide) (by decide) (Or.inl (⟨rfl, (by have kg1 := g1; (try simp only [lg_cmp_lt, lg_cmp_le, lg_cmp_ge, lg_cmp_gt, lg_cmp_eq, fa_lt, fa_le, fa_eq, fa_lt64, fa_le64, fa_eq64, Int32.toInt_toInt64, li_0, lj_0] at kg1); first | rfl | (unfold kf_judge; (repeat' split) <;> first | rfl | (exfalso; omega)))⟩))
    · exact xO hX hE hxt hP hD hS hce hcv hcl (by decide) (by decide) (Or.inl (⟨rfl, (by have kg2 := g2; have kg3 := g3; (try simp only [lg_cmp_lt, lg_cmp_le, lg_cmp_ge, lg_cmp_gt, lg_cmp_eq, fa_lt, fa_le, fa_eq, fa_lt64, fa_le64, fa_eq64, Int32.toInt_toInt64, li_0, lj_0, li_4, lj_4] at kg2); (try simp only [lg_cmp_lt, lg_cmp_le, lg_cmp_ge, lg_cmp_gt, lg_cmp_eq, fa_lt, fa_le, fa_eq, fa_lt64, fa_le64, fa_eq64, Int32.toInt_toInt64, li_0, lj_0, li_4, lj_4] at kg3); first | rfl | (unfold kf_judge; (repeat' split) <;> first | rfl | (exfalso; omega)))⟩))
    · exact xO hX hE hxt hP hD hS hce hcv hcl (by decide) (by decide) (Or.inr (⟨rfl, (by have kg4 := g4; have kg5 := g5; have kg6 := g6; (try simp only [lg_cmp_lt, lg_cmp_le, lg_cmp_ge, lg_cmp_gt, lg_cmp_eq, fa_lt, fa_le, fa_eq, fa_lt64, fa_le64, fa_eq64, Int32.toInt_toInt64, li_0, lj_0, li_4, lj_4] at kg4); (try simp only [lg_cmp_lt, lg_cmp_le, lg_cmp_ge, lg_cmp_gt, lg_cmp_eq, fa_lt, fa_le, fa_eq, fa_lt64, fa_le64, fa_eq64, Int32.toInt_toInt64, li_0, lj_0, li_4, lj_4] at kg5); (try simp only [lg_cmp_lt, lg_cmp_le, lg_cmp_ge, lg_cmp_gt, lg_cmp_eq, fa_lt, fa_le, fa_eq, fa_lt64, fa_le64, fa_eq64, Int32.toInt_toInt64, li_0, lj_0, li_4, lj_4] at kg6); first | rfl | (unfold kf_judge; (repeat' split) <;> first | rfl | (exfalso; omega)))⟩))
    · exact xO hX hE hxt hP hD hS hce hcv hcl (by decide) (by decide) (Or.inr (⟨rfl, (by have kg7 := g7; have kg8 := g8; have kg9 := g9; (try simp only [lg_cmp_lt, lg_cmp_le, lg_cmp_ge, lg_cmp_gt, lg_cmp_eq, fa_lt, fa_le, fa_eq, fa_lt64, fa_le64, fa_eq64, Int32.toInt_toInt64, li_0, lj_0, li_1, lj_1, li_4, lj_4] at kg7); (try simp only [lg_cmp_lt, lg_cmp_le, lg_cmp_ge, lg_cmp_gt, lg_cmp_eq, fa_lt, fa_le, fa_eq, fa_lt64, fa_le64, fa_eq64, Int32.toInt_toInt64, li_0, lj_0, li_1, lj_1, li_4, lj_4] at kg8); (try simp only [lg_cmp_lt, lg_cmp_le, lg_cmp_ge, lg_cmp_gt, lg_cmp_eq, fa_lt, fa_le, fa_eq, fa_lt64, fa_le64, fa_eq64, Int32.toInt_toInt64, li_0, lj_0, li_1, lj_1, li_4, lj_4] at kg9); first | rfl | (unfold kf_judge; (repeat' split) <;> first | rfl | (exfalso; omega)))⟩))
    · exact xO hX hE hxt hP hD hS hce hcv hcl (by decide) (by decide) (Or.inr (⟨rfl, (by have kg10 := g10; have kg11 := g11; have kg12 := g12; (try simp only [lg_cmp_lt, lg_cmp_le, lg_cmp_ge, lg_cmp_gt, lg_cmp_eq, fa_lt, fa_le, fa_eq, fa_lt64, fa_le64, fa_eq64, Int32.toInt_toInt64, li_0, lj_0, li_2, lj_2, li_4, lj_4] at kg10); (try simp only [lg_cmp_lt, lg_cmp_le, lg_cmp_ge, lg_cmp_gt, lg_cmp_eq, fa_lt, fa_le, fa_eq, fa_lt64, fa_le64, fa_eq64, Int32.toInt_toInt64, li_0, lj_0, li_2, lj_2, li_4, lj_4] at kg11); (try simp only [lg_cmp_lt, lg_cmp_le, lg_cmp_ge, lg_cmp_gt, lg_cmp_eq, fa_lt, fa_le, fa_eq, fa_lt64, fa_le64, fa_eq64, Int32.toInt_toInt64, li_0, lj_0, li_2, lj_2, li_4, lj_4] at kg12); first | rfl | (unfold kf_judge; (repeat' split) <;> first | rfl | (exfalso; omega)))⟩))
    · exact xO hX hE hxt hP hD hS hce hcv hcl (by decide) (by decide) (Or.inr (⟨rfl, (by have kg13 := g13; have kg14 := g14; have kg15 := g15; (try simp only [lg_cmp_lt, lg_cmp_le, lg_cmp_ge, lg_cmp_gt, lg_cmp_eq, fa_lt, fa_le, fa_eq, fa_lt64, fa_le64, fa_eq64, Int32.toInt_toInt64, li_0, lj_0, li_3, lj_3, li_4, lj_4] at kg13); (try simp only [lg_cmp_lt, lg_cmp_le, lg_cmp_ge, lg_cmp_gt, lg_cmp_eq, fa_lt, fa_le, fa_eq, fa_lt64, fa_le64, fa_eq64, Int32.toInt_toInt64, li_0, lj_0, li_3, lj_3, li_4, lj_4] at kg14); (try simp only [lg_cmp_lt, lg_cmp_le, lg_cmp_ge, lg_cmp_gt, lg_cmp_eq, fa_lt, fa_le, fa_eq, fa_lt64, fa_le64, fa_eq64, Int32.toInt_toInt64, li_0, lj_0, li_3, lj_3, li_4, lj_4] at kg15); first | rfl | (unfold kf_judge; (repeat' split) <;> first | rfl | (exfalso; omega)))⟩))
  · exact hw.elim
def kf_perform (p1 : Int32) : Int32 := if 0 ≤ p1.toInt ∧ p1.toInt ≤ 3 then 2 else 1
def vf_perform (p1 : Int32) : Int64 := 0
set_option maxHeartbeats 4000000 in
set_option maxRecDepth 100000 in
theorem m_perform (l : Launch) (hlt : l.stackTraces = false) (D : va_G) (cy : Nat → ClassId) (a : Nat → Nat) (p1 : Int32) : Xi l yX10_perform cX10_perform 5 (some .int) { frames := 8, cells := 2, slots := 12, locals := 133 } D cy [.ref (a 0), .int p1] [((a 0), .inr (10, [.ref (a 1), .int 0, .int 0, .int (-1), .ref (a 2), .ref (a 3), .ref (a 4), .ref (a 5), .ref (a 6), .ref (a 7), .ref (a 8), .ref (a 9), .int 0])), ((a 8), .inl (cy 5, 4, .inr (.inr (.inr (.inr (va_up (va_up (va_up (va_up (fun _ => none) (0 : Int32).toNatClampNeg (some (a 60))) (1 : Int32).toNatClampNeg (some (a 61))) (2 : Int32).toNatClampNeg (some (a 62))) (3 : Int32).toNatClampNeg (some (a 63)))))))), ((a 60), .inr (8, [.int (-1), .int 0, .ref (a 64)])), ((a 61), .inr (8, [.int (-1), .int 0, .ref (a 65)])), ((a 62), .inr (8, [.int (-1), .int 0, .ref (a 66)])), ((a 63), .inr (8, [.int (-1), .int 0, .ref (a 67)]))] (fun r _ => kf_perform p1 = 0 ∧ r.toInt64 = vf_perform p1) (fun E _ => (E = "java/util/NoSuchElementException" ∧ kf_perform p1 = 1) ∨ (E = "java/lang/IllegalStateException" ∧ kf_perform p1 = 2)) := by
  refine Xi.of (by decide) (Nat.le_of_ble_eq_true rfl) ?_
  intro p e s m below meth c A ls hX hE hP hD hl hxt
  obtain ⟨hx, hb, hr, hml, hown, htA, hlk⟩ := id hX
  have hK := hE.1
  have hS : va_S A s.heap s.heap [] := va_S.rf
  have hl : lv_has ls 5 [(0, .ref (a 0)), (1, .int p1)] := hl
  refine lv_aload_n hx hb dX10_perform_0 rfl (lv_at hl 0 rfl) ?_
  refine lv_iload_n hx hb dX10_perform_1 rfl (lv_at hl 1 rfl) ?_
  refine xVr (As := [.int p1]) (rest := []) (wr := []) hX hE (au_X10_filledTray_9 l hlt D cy a p1) (cwVA 1 htA wd_973 wd_970 wd_1 wd_972 wp_30 (by decide +kernel) ⟨by decide, by decide⟩) hP hD hS [0, 1, 2, 3, 4, 5] [] rfl rfl (by decide) 0 rfl rfl rfl rfl hl.1 rfl (Nat.le_of_ble_eq_true rfl) dX10_perform_2 (by decide) (fun E ce q9 W1 H locs hw hP hD hS hce hcv hcl => ?_) (fun r_ W1 H locs hw hP hD hS => ?_)
  · rcases hw with ⟨g1, rfl⟩ | ⟨g2, g3, rfl⟩ | ⟨g4, g5, g6, rfl⟩ | ⟨g7, g8, g9, rfl⟩ | ⟨g10, g11, g12, rfl⟩ | ⟨g13, g14, g15, rfl⟩
    · exact xO hX hE hxt hP hD hS hce hcv hcl (by decide) (by decide) (Or.inl (⟨rfl, (by have kg1 := g1; (try simp only [lg_cmp_lt, lg_cmp_le, lg_cmp_ge, lg_cmp_gt, lg_cmp_eq, fa_lt, fa_le, fa_eq, fa_lt64, fa_le64, fa_eq64, Int32.toInt_toInt64, li_0, lj_0] at kg1); first | rfl | (unfold kf_perform; (repeat' split) <;> first | rfl | (exfalso; omega)))⟩))
    · exact xO hX hE hxt hP hD hS hce hcv hcl (by decide) (by decide) (Or.inl (⟨rfl, (by have kg2 := g2; have kg3 := g3; (try simp only [lg_cmp_lt, lg_cmp_le, lg_cmp_ge, lg_cmp_gt, lg_cmp_eq, fa_lt, fa_le, fa_eq, fa_lt64, fa_le64, fa_eq64, Int32.toInt_toInt64, li_0, lj_0, li_4, lj_4] at kg2); (try simp only [lg_cmp_lt, lg_cmp_le, lg_cmp_ge, lg_cmp_gt, lg_cmp_eq, fa_lt, fa_le, fa_eq, fa_lt64, fa_le64, fa_eq64, Int32.toInt_toInt64, li_0, lj_0, li_4, lj_4] at kg3); first | rfl | (unfold kf_perform; (repeat' split) <;> first | rfl | (exfalso; omega)))⟩))
    · exact xO hX hE hxt hP hD hS hce hcv hcl (by decide) (by decide) (Or.inr (⟨rfl, (by have kg4 := g4; have kg5 := g5; have kg6 := g6; (try simp only [lg_cmp_lt, lg_cmp_le, lg_cmp_ge, lg_cmp_gt, lg_cmp_eq, fa_lt, fa_le, fa_eq, fa_lt64, fa_le64, fa_eq64, Int32.toInt_toInt64, li_0, lj_0, li_4, lj_4] at kg4); (try simp only [lg_cmp_lt, lg_cmp_le, lg_cmp_ge, lg_cmp_gt, lg_cmp_eq, fa_lt, fa_le, fa_eq, fa_lt64, fa_le64, fa_eq64, Int32.toInt_toInt64, li_0, lj_0, li_4, lj_4] at kg5); (try simp only [lg_cmp_lt, lg_cmp_le, lg_cmp_ge, lg_cmp_gt, lg_cmp_eq, fa_lt, fa_le, fa_eq, fa_lt64, fa_le64, fa_eq64, Int32.toInt_toInt64, li_0, lj_0, li_4, lj_4] at kg6); first | rfl | (unfold kf_perform; (repeat' split) <;> first | rfl | (exfalso; omega)))⟩))
    · exact xO hX hE hxt hP hD hS hce hcv hcl (by decide) (by decide) (Or.inr (⟨rfl, (by have kg7 := g7; have kg8 := g8; have kg9 := g9; (try simp only [lg_cmp_lt, lg_cmp_le, lg_cmp_ge, lg_cmp_gt, lg_cmp_eq, fa_lt, fa_le, fa_eq, fa_lt64, fa_le64, fa_eq64, Int32.toInt_toInt64, li_0, lj_0, li_1, lj_1, li_4, lj_4] at kg7); (try simp only [lg_cmp_lt, lg_cmp_le, lg_cmp_ge, lg_cmp_gt, lg_cmp_eq, fa_lt, fa_le, fa_eq, fa_lt64, fa_le64, fa_eq64, Int32.toInt_toInt64, li_0, lj_0, li_1, lj_1, li_4, lj_4] at kg8); (try simp only [lg_cmp_lt, lg_cmp_le, lg_cmp_ge, lg_cmp_gt, lg_cmp_eq, fa_lt, fa_le, fa_eq, fa_lt64, fa_le64, fa_eq64, Int32.toInt_toInt64, li_0, lj_0, li_1, lj_1, li_4, lj_4] at kg9); first | rfl | (unfold kf_perform; (repeat' split) <;> first | rfl | (exfalso; omega)))⟩))
    · exact xO hX hE hxt hP hD hS hce hcv hcl (by decide) (by decide) (Or.inr (⟨rfl, (by have kg10 := g10; have kg11 := g11; have kg12 := g12; (try simp only [lg_cmp_lt, lg_cmp_le, lg_cmp_ge, lg_cmp_gt, lg_cmp_eq, fa_lt, fa_le, fa_eq, fa_lt64, fa_le64, fa_eq64, Int32.toInt_toInt64, li_0, lj_0, li_2, lj_2, li_4, lj_4] at kg10); (try simp only [lg_cmp_lt, lg_cmp_le, lg_cmp_ge, lg_cmp_gt, lg_cmp_eq, fa_lt, fa_le, fa_eq, fa_lt64, fa_le64, fa_eq64, Int32.toInt_toInt64, li_0, lj_0, li_2, lj_2, li_4, lj_4] at kg11); (try simp only [lg_cmp_lt, lg_cmp_le, lg_cmp_ge, lg_cmp_gt, lg_cmp_eq, fa_lt, fa_le, fa_eq, fa_lt64, fa_le64, fa_eq64, Int32.toInt_toInt64, li_0, lj_0, li_2, lj_2, li_4, lj_4] at kg12); first | rfl | (unfold kf_perform; (repeat' split) <;> first | rfl | (exfalso; omega)))⟩))
    · exact xO hX hE hxt hP hD hS hce hcv hcl (by decide) (by decide) (Or.inr (⟨rfl, (by have kg13 := g13; have kg14 := g14; have kg15 := g15; (try simp only [lg_cmp_lt, lg_cmp_le, lg_cmp_ge, lg_cmp_gt, lg_cmp_eq, fa_lt, fa_le, fa_eq, fa_lt64, fa_le64, fa_eq64, Int32.toInt_toInt64, li_0, lj_0, li_3, lj_3, li_4, lj_4] at kg13); (try simp only [lg_cmp_lt, lg_cmp_le, lg_cmp_ge, lg_cmp_gt, lg_cmp_eq, fa_lt, fa_le, fa_eq, fa_lt64, fa_le64, fa_eq64, Int32.toInt_toInt64, li_0, lj_0, li_3, lj_3, li_4, lj_4] at kg14); (try simp only [lg_cmp_lt, lg_cmp_le, lg_cmp_ge, lg_cmp_gt, lg_cmp_eq, fa_lt, fa_le, fa_eq, fa_lt64, fa_le64, fa_eq64, Int32.toInt_toInt64, li_0, lj_0, li_3, lj_3, li_4, lj_4] at kg15); first | rfl | (unfold kf_perform; (repeat' split) <;> first | rfl | (exfalso; omega)))⟩))
  · exact hw.elim
def kf_copy (p1 : Int32) : Int32 := if 0 ≤ p1.toInt ∧ p1.toInt ≤ 3 then 2 else 1
def vf_copy (p1 : Int32) : Int64 := 0
set_option maxHeartbeats 4000000 in
set_option maxRecDepth 100000 in
theorem m_copy (l : Launch) (hlt : l.stackTraces = false) (D : va_G) (cy : Nat → ClassId) (a : Nat → Nat) (p1 : Int32) : Xi l yX10_copy cX10_copy 5 (some .int) { frames := 8, cells := 2, slots := 12, locals := 133 } D cy [.ref (a 0), .int p1] [((a 0), .inr (10, [.ref (a 1), .int 0, .int 0, .int (-1), .ref (a 2), .ref (a 3), .ref (a 4), .ref (a 5), .ref (a 6), .ref (a 7), .ref (a 8), .ref (a 9), .int 0])), ((a 8), .inl (cy 5, 4, .inr (.inr (.inr (.inr (va_up (va_up (va_up (va_up (fun _ => none) (0 : Int32).toNatClampNeg (some (a 60))) (1 : Int32).toNatClampNeg (some (a 61))) (2 : Int32).toNatClampNeg (some (a 62))) (3 : Int32).toNatClampNeg (some (a 63)))))))), ((a 60), .inr (8, [.int (-1), .int 0, .ref (a 64)])), ((a 61), .inr (8, [.int (-1), .int 0, .ref (a 65)])), ((a 62), .inr (8, [.int (-1), .int 0, .ref (a 66)])), ((a 63), .inr (8, [.int (-1), .int 0, .ref (a 67)]))] (fun r _ => kf_copy p1 = 0 ∧ r.toInt64 = vf_copy p1) (fun E _ => (E = "java/util/NoSuchElementException" ∧ kf_copy p1 = 1) ∨ (E = "java/lang/IllegalStateException" ∧ kf_copy p1 = 2)) := by
  refine Xi.of (by decide) (Nat.le_of_ble_eq_true rfl) ?_
  intro p e s m below meth c A ls hX hE hP hD hl hxt
  obtain ⟨hx, hb, hr, hml, hown, htA, hlk⟩ := id hX
  have hK := hE.1
  have hS : va_S A s.heap s.heap [] := va_S.rf
  have hl : lv_has ls 5 [(0, .ref (a 0)), (1, .int p1)] := hl
  refine lv_aload_n hx hb dX10_copy_0 rfl (lv_at hl 0 rfl) ?_
  refine lv_iload_n hx hb dX10_copy_1 rfl (lv_at hl 1 rfl) ?_
  refine xVr (As := [.int p1]) (rest := []) (wr := []) hX hE (au_X10_filledTray_9 l hlt D cy a p1) (cwVA 1 htA wd_973 wd_970 wd_1 wd_972 wp_30 (by decide +kernel) ⟨by decide, by decide⟩) hP hD hS [0, 1, 2, 3, 4, 5] [] rfl rfl (by decide) 0 rfl rfl rfl rfl hl.1 rfl (Nat.le_of_ble_eq_true rfl) dX10_copy_2 (by decide) (fun E ce q9 W1 H locs hw hP hD hS hce hcv hcl => ?_) (fun r_ W1 H locs hw hP hD hS => ?_)
  · rcases hw with ⟨g1, rfl⟩ | ⟨g2, g3, rfl⟩ | ⟨g4, g5, g6, rfl⟩ | ⟨g7, g8, g9, rfl⟩ | ⟨g10, g11, g12, rfl⟩ | ⟨g13, g14, g15, rfl⟩
    · exact xO hX hE hxt hP hD hS hce hcv hcl (by decide) (by decide) (Or.inl (⟨rfl, (by have kg1 := g1; (try simp only [lg_cmp_lt, lg_cmp_le, lg_cmp_ge, lg_cmp_gt, lg_cmp_eq, fa_lt, fa_le, fa_eq, fa_lt64, fa_le64, fa_eq64, Int32.toInt_toInt64, li_0, lj_0] at kg1); first | rfl | (unfold kf_copy; (repeat' split) <;> first | rfl | (exfalso; omega)))⟩))
    · exact xO hX hE hxt hP hD hS hce hcv hcl (by decide) (by decide) (Or.inl (⟨rfl, (by have kg2 := g2; have kg3 := g3; (try simp only [lg_cmp_lt, lg_cmp_le, lg_cmp_ge, lg_cmp_gt, lg_cmp_eq, fa_lt, fa_le, fa_eq, fa_lt64, fa_le64, fa_eq64, Int32.toInt_toInt64, li_0, lj_0, li_4, lj_4] at kg2); (try simp only [lg_cmp_lt, lg_cmp_le, lg_cmp_ge, lg_cmp_gt, lg_cmp_eq, fa_lt, fa_le, fa_eq, fa_lt64, fa_le64, fa_eq64, Int32.toInt_toInt64, li_0, lj_0, li_4, lj_4] at kg3); first | rfl | (unfold kf_copy; (repeat' split) <;> first | rfl | (exfalso; omega)))⟩))
    · exact xO hX hE hxt hP hD hS hce hcv hcl (by decide) (by decide) (Or.inr (⟨rfl, (by have kg4 := g4; have kg5 := g5; have kg6 := g6; (try simp only [lg_cmp_lt, lg_cmp_le, lg_cmp_ge, lg_cmp_gt, lg_cmp_eq, fa_lt, fa_le, fa_eq, fa_lt64, fa_le64, fa_eq64, Int32.toInt_toInt64, li_0, lj_0, li_4, lj_4] at kg4); (try simp only [lg_cmp_lt, lg_cmp_le, lg_cmp_ge, lg_cmp_gt, lg_cmp_eq, fa_lt, fa_le, fa_eq, fa_lt64, fa_le64, fa_eq64, Int32.toInt_toInt64, li_0, lj_0, li_4, lj_4] at kg5); (try simp only [lg_cmp_lt, lg_cmp_le, lg_cmp_ge, lg_cmp_gt, lg_cmp_eq, fa_lt, fa_le, fa_eq, fa_lt64, fa_le64, fa_eq64, Int32.toInt_toInt64, li_0, lj_0, li_4, lj_4] at kg6); first | rfl | (unfold kf_copy; (repeat' split) <;> first | rfl | (exfalso; omega)))⟩))
    · exact xO hX hE hxt hP hD hS hce hcv hcl (by decide) (by decide) (Or.inr (⟨rfl, (by have kg7 := g7; have kg8 := g8; have kg9 := g9; (try simp only [lg_cmp_lt, lg_cmp_le, lg_cmp_ge, lg_cmp_gt, lg_cmp_eq, fa_lt, fa_le, fa_eq, fa_lt64, fa_le64, fa_eq64, Int32.toInt_toInt64, li_0, lj_0, li_1, lj_1, li_4, lj_4] at kg7); (try simp only [lg_cmp_lt, lg_cmp_le, lg_cmp_ge, lg_cmp_gt, lg_cmp_eq, fa_lt, fa_le, fa_eq, fa_lt64, fa_le64, fa_eq64, Int32.toInt_toInt64, li_0, lj_0, li_1, lj_1, li_4, lj_4] at kg8); (try simp only [lg_cmp_lt, lg_cmp_le, lg_cmp_ge, lg_cmp_gt, lg_cmp_eq, fa_lt, fa_le, fa_eq, fa_lt64, fa_le64, fa_eq64, Int32.toInt_toInt64, li_0, lj_0, li_1, lj_1, li_4, lj_4] at kg9); first | rfl | (unfold kf_copy; (repeat' split) <;> first | rfl | (exfalso; omega)))⟩))
    · exact xO hX hE hxt hP hD hS hce hcv hcl (by decide) (by decide) (Or.inr (⟨rfl, (by have kg10 := g10; have kg11 := g11; have kg12 := g12; (try simp only [lg_cmp_lt, lg_cmp_le, lg_cmp_ge, lg_cmp_gt, lg_cmp_eq, fa_lt, fa_le, fa_eq, fa_lt64, fa_le64, fa_eq64, Int32.toInt_toInt64, li_0, lj_0, li_2, lj_2, li_4, lj_4] at kg10); (try simp only [lg_cmp_lt, lg_cmp_le, lg_cmp_ge, lg_cmp_gt, lg_cmp_eq, fa_lt, fa_le, fa_eq, fa_lt64, fa_le64, fa_eq64, Int32.toInt_toInt64, li_0, lj_0, li_2, lj_2, li_4, lj_4] at kg11); (try simp only [lg_cmp_lt, lg_cmp_le, lg_cmp_ge, lg_cmp_gt, lg_cmp_eq, fa_lt, fa_le, fa_eq, fa_lt64, fa_le64, fa_eq64, Int32.toInt_toInt64, li_0, lj_0, li_2, lj_2, li_4, lj_4] at kg12); first | rfl | (unfold kf_copy; (repeat' split) <;> first | rfl | (exfalso; omega)))⟩))
    · exact xO hX hE hxt hP hD hS hce hcv hcl (by decide) (by decide) (Or.inr (⟨rfl, (by have kg13 := g13; have kg14 := g14; have kg15 := g15; (try simp only [lg_cmp_lt, lg_cmp_le, lg_cmp_ge, lg_cmp_gt, lg_cmp_eq, fa_lt, fa_le, fa_eq, fa_lt64, fa_le64, fa_eq64, Int32.toInt_toInt64, li_0, lj_0, li_3, lj_3, li_4, lj_4] at kg13); (try simp only [lg_cmp_lt, lg_cmp_le, lg_cmp_ge, lg_cmp_gt, lg_cmp_eq, fa_lt, fa_le, fa_eq, fa_lt64, fa_le64, fa_eq64, Int32.toInt_toInt64, li_0, lj_0, li_3, lj_3, li_4, lj_4] at kg14); (try simp only [lg_cmp_lt, lg_cmp_le, lg_cmp_ge, lg_cmp_gt, lg_cmp_eq, fa_lt, fa_le, fa_eq, fa_lt64, fa_le64, fa_eq64, Int32.toInt_toInt64, li_0, lj_0, li_3, lj_3, li_4, lj_4] at kg15); first | rfl | (unfold kf_copy; (repeat' split) <;> first | rfl | (exfalso; omega)))⟩))
  · exact hw.elim
def kf_restore (p1 : Int32) : Int32 := if 0 ≤ p1.toInt ∧ p1.toInt ≤ 2 then 2 else 1
def vf_restore (p1 : Int32) : Int64 := 0
set_option maxHeartbeats 4000000 in
set_option maxRecDepth 100000 in
theorem au_X10_needImage_10 (l : Launch) (hlt : l.stackTraces = false) (D : va_G) (cy : Nat → ClassId) (a : Nat → Nat) (v1_ : Int32) : Xv l yX10_needImage cX10_needImage 1 none { frames := 6, cells := 1, slots := 6, locals := 90 } D cy [.int v1_] [] (fun W1 => ((¬ v1_ < 0) ∧ (v1_ < 3) ∧ W1 = [])) (fun E _ => ((v1_ < 0) ∧ E = "java/util/NoSuchElementException") ∨ ((¬ v1_ < 0) ∧ (¬ v1_ < 3) ∧ E = "java/util/NoSuchElementException")) := by
  refine Xv.of (by decide) (Nat.le_of_ble_eq_true rfl) ?_
  intro p e s m below meth c A ls hX hE hP hD hl hxt
  obtain ⟨hx, hb, hr, hml, hown, htA, hlk⟩ := id hX
  have hK := hE.1
  have hS : va_S A s.heap s.heap [] := va_S.rf
  have hl : lv_has ls 1 [(0, .int v1_)] := hl
  refine lv_iload_n hx hb dX10_needImage_0 rfl (lv_at hl 0 rfl) ?_
  refine lv_if_lt (tgt := 9) hx hb dX10_needImage_1 (by decide) (fun c1 => ?_) (fun c1 => ?_)
  · exact k_throwNW rx_0 rx_1 rx_2 rx_5 hlt hX hE hxt hP hD hS hl.1 (by decide) (htA _ wd_869) (htA _ wd_23) (xSW_in hE.2.2.2 "LateFalls" 406 "no such image" (by decide)) (at_X10_185 htA hE.2.2.2) ot_X10_181_185 (htA _ wd_881) (htA _ wd_880) dX10_needImage_9 dX10_needImage_12 dX10_needImage_13 dX10_needImage_16 dX10_needImage_19 (by decide) (by decide) (by decide) (by decide) (by decide) (by decide) (Or.inl (⟨c1, rfl⟩))
  · refine lv_iload_n hx hb dX10_needImage_4 rfl (lv_at hl 0 rfl) ?_
    refine lv_iconst (v := 3) hx hb dX10_needImage_5 (by decide) ?_
    refine lv_icmp_lt (tgt := 20) hx hb dX10_needImage_6 (by decide) (fun c2 => ?_) (fun c2 => ?_)
    · exact vx_ret (rV hX hE hP hD hS dX10_needImage_20 (by decide) (by decide) (⟨c1, c2, rfl⟩))
    · exact k_throwNW rx_0 rx_1 rx_2 rx_5 hlt hX hE hxt hP hD hS hl.1 (by decide) (htA _ wd_869) (htA _ wd_23) (xSW_in hE.2.2.2 "LateFalls" 406 "no such image" (by decide)) (at_X10_185 htA hE.2.2.2) ot_X10_181_185 (htA _ wd_881) (htA _ wd_880) dX10_needImage_9 dX10_needImage_12 dX10_needImage_13 dX10_needImage_16 dX10_needImage_19 (by decide) (by decide) (by decide) (by decide) (by decide) (by decide) (Or.inr (⟨c1, c2, rfl⟩))
set_option maxHeartbeats 4000000 in
set_option maxRecDepth 100000 in
theorem m_restore (l : Launch) (hlt : l.stackTraces = false) (D : va_G) (cy : Nat → ClassId) (a : Nat → Nat) (p1 : Int32) : Xv l yX10_restore cX10_restore 3 none { frames := 7, cells := 2, slots := 12, locals := 110 } D cy [.ref (a 0), .int p1] [((a 0), .inr (10, [.ref (a 1), .int 0, .int 0, .int (-1), .ref (a 2), .ref (a 3), .ref (a 4), .ref (a 5), .ref (a 6), .ref (a 7), .ref (a 8), .ref (a 9), .int 0])), ((a 9), .inl (cy 6, 3, .inr (.inr (.inr (.inr (fun _ => none))))))] (fun _ => kf_restore p1 = 0) (fun E _ => (E = "java/util/NoSuchElementException" ∧ kf_restore p1 = 1) ∨ (E = "java/lang/IllegalStateException" ∧ kf_restore p1 = 2)) := by
  refine Xv.of (by decide) (Nat.le_of_ble_eq_true rfl) ?_
  intro p e s m below meth c A ls hX hE hP hD hl hxt
  obtain ⟨hx, hb, hr, hml, hown, htA, hlk⟩ := id hX
  have hK := hE.1
  have hS : va_S A s.heap s.heap [] := va_S.rf
  have hl : lv_has ls 3 [(0, .ref (a 0)), (1, .int p1)] := hl
  refine lv_iload_n hx hb dX10_restore_0 rfl (lv_at hl 1 rfl) ?_
  refine xSv (As := [.int p1]) (rest := []) (wr := [((a 0), .inr (10, [.ref (a 1), .int 0, .int 0, .int (-1), .ref (a 2), .ref (a 3), .ref (a 4), .ref (a 5), .ref (a 6), .ref (a 7), .ref (a 8), .ref (a 9), .int 0])), ((a 9), .inl (cy 6, 3, .inr (.inr (.inr (.inr (fun _ => none))))))]) hX hE (au_X10_needImage_10 l hlt D cy a p1) (cwSA 1 htA wd_1316 wd_1314 wd_1 wd_1315 (by decide +kernel) ⟨by decide, by decide⟩) hP hD hS [] [0, 1] rfl rfl (by decide) rfl hl.1 rfl (Nat.le_of_ble_eq_true rfl) dX10_restore_1 (by decide) (fun E ce q9 W1 H locs hw hP hD hS hce hcv hcl => ?_) (fun W1 H locs hw hP hD hS => ?_)
  · rcases hw with ⟨g3, rfl⟩ | ⟨g4, g5, rfl⟩
    · exact xO hX hE hxt hP hD hS hce hcv hcl (by decide) (by decide) (Or.inl (⟨rfl, (by have kg3 := g3; (try simp only [lg_cmp_lt, lg_cmp_le, lg_cmp_ge, lg_cmp_gt, lg_cmp_eq, fa_lt, fa_le, fa_eq, fa_lt64, fa_le64, fa_eq64, Int32.toInt_toInt64, li_0, lj_0] at kg3); first | rfl | (unfold kf_restore; (repeat' split) <;> first | rfl | (exfalso; omega)))⟩))
    · exact xO hX hE hxt hP hD hS hce hcv hcl (by decide) (by decide) (Or.inl (⟨rfl, (by have kg4 := g4; have kg5 := g5; (try simp only [lg_cmp_lt, lg_cmp_le, lg_cmp_ge, lg_cmp_gt, lg_cmp_eq, fa_lt, fa_le, fa_eq, fa_lt64, fa_le64, fa_eq64, Int32.toInt_toInt64, li_0, lj_0, li_3, lj_3] at kg4); (try simp only [lg_cmp_lt, lg_cmp_le, lg_cmp_ge, lg_cmp_gt, lg_cmp_eq, fa_lt, fa_le, fa_eq, fa_lt64, fa_le64, fa_eq64, Int32.toInt_toInt64, li_0, lj_0, li_3, lj_3] at kg5); first | rfl | (unfold kf_restore; (repeat' split) <;> first | rfl | (exfalso; omega)))⟩))
  · refine W.widen (k := 1) (n := 6) (by decide) (by decide) ?_
    obtain ⟨g1, g2, rfl⟩ := hw
    have hP : va_P D vwCl [((a 0), .inr (10, [.ref (a 1), .int 0, .int 0, .int (-1), .ref (a 2), .ref (a 3), .ref (a 4), .ref (a 5), .ref (a 6), .ref (a 7), .ref (a 8), .ref (a 9), .int 0])), ((a 9), .inl (cy 6, 3, .inr (.inr (.inr (.inr (fun _ => none))))))] H := hP
    have hD : va_D A [((a 0), .inr (10, [.ref (a 1), .int 0, .int 0, .int (-1), .ref (a 2), .ref (a 3), .ref (a 4), .ref (a 5), .ref (a 6), .ref (a 7), .ref (a 8), .ref (a 9), .int 0])), ((a 9), .inl (cy 6, 3, .inr (.inr (.inr (.inr (fun _ => none))))))] := hD
    refine lv_aload_n hx hb dX10_restore_4 rfl (lv_at hl 0 rfl) ?_
    refine va_get (ci := 10) (v := .ref (a 9)) (C := RX10) (T := TX10) (N := 13) hx hb htA in_X10 hown hK hP 0 rfl rfl 11 (by decide) (htA _ wd_319) (fun _ h => h) rfl dX10_restore_5 ?_
    refine lv_iload_n hx hb dX10_restore_8 rfl (lv_at hl 1 rfl) ?_
    refine va_aldq hx hb hK hP 1 6 rfl rfl (vp_in_iff.mpr (by have kg1 := g1; have kg2 := g2; (try simp only [lg_cmp_lt, lg_cmp_le, lg_cmp_ge, lg_cmp_gt, lg_cmp_eq, fa_lt, fa_le, fa_eq, fa_lt64, fa_le64, fa_eq64, Int32.toInt_toInt64, li_0, lj_0, li_3, lj_3] at kg1); (try simp only [lg_cmp_lt, lg_cmp_le, lg_cmp_ge, lg_cmp_gt, lg_cmp_eq, fa_lt, fa_le, fa_eq, fa_lt64, fa_le64, fa_eq64, Int32.toInt_toInt64, li_0, lj_0, li_3, lj_3] at kg2); constructor <;> omega)) dX10_restore_9 ?_
    refine W.eq (g2 := F0 m 10 ls [.null]) rfl ?_
    refine lv_astore_nN (lv' := [(2, .null), (0, .ref (a 0)), (1, .int p1)]) hx hb dX10_restore_10 rfl hl (by decide) rfl (fun ls hl => ?_)
    refine lv_aload_nN hx hb dX10_restore_11 rfl (lv_at hl 0 rfl) ?_
    refine lv_ifnonnullN hx hb dX10_restore_12 ?_
    exact k_throwSW hlt hX hE hxt hP hD hS hl.1 (by decide) (htA _ wd_979) (htA _ wd_25) (xSW_in hE.2.2.2 "LateFalls" 397 "no image was made" (by decide)) (at_X10_311 htA hE.2.2.2) ot_X10_307_311 dX10_restore_15 dX10_restore_18 dX10_restore_19 dX10_restore_22 dX10_restore_25 (by decide) (by decide) (by decide) (by decide) (by decide) (by decide) (Or.inr (⟨rfl, (by have kg1 := g1; have kg2 := g2; (try simp only [lg_cmp_lt, lg_cmp_le, lg_cmp_ge, lg_cmp_gt, lg_cmp_eq, fa_lt, fa_le, fa_eq, fa_lt64, fa_le64, fa_eq64, Int32.toInt_toInt64, li_0, lj_0, li_3, lj_3] at kg1); (try simp only [lg_cmp_lt, lg_cmp_le, lg_cmp_ge, lg_cmp_gt, lg_cmp_eq, fa_lt, fa_le, fa_eq, fa_lt64, fa_le64, fa_eq64, Int32.toInt_toInt64, li_0, lj_0, li_3, lj_3] at kg2); first | rfl | (unfold kf_restore; (repeat' split) <;> first | rfl | (exfalso; omega)))⟩))
def vi_fault (p1 : Int32) : Int32 := if p1.toInt = 0 then 0 else -1
set_option maxHeartbeats 4000000 in
set_option maxRecDepth 100000 in
theorem m_fault (l : Launch) (D : va_G) (cy : Nat → ClassId) (a : Nat → Nat) (p1 : Int32) : Ci l yX10_fault cX10_fault 2 (some .int) { frames := 0, cells := 0, slots := 0, locals := 0 } D cy [.ref (a 0), .int p1] [((a 0), .inr (10, [.ref (a 1), .int 0, .int 0, .int (-1), .ref (a 2), .ref (a 3), .ref (a 4), .ref (a 5), .ref (a 6), .ref (a 7), .ref (a 8), .ref (a 9), .int 0]))] (fun r _ => r = vi_fault p1) := by
  refine Ci.of (by decide) (Nat.le_of_ble_eq_true rfl) ?_
  intro p e s m below meth c A ls hX hE hP hD hl
  obtain ⟨hx, hb, hr, hml, hown, htA, hlk⟩ := id hX
  have hK := hE.1
  have hS : va_S A s.heap s.heap [] := va_S.rf
  have hl : lv_has ls 2 [(0, .ref (a 0)), (1, .int p1)] := hl
  refine lv_iload_n hx hb dX10_fault_0 rfl (lv_at hl 1 rfl) ?_
  refine lv_if_ne (tgt := 9) hx hb dX10_fault_1 (by decide) (fun c1 => ?_) (fun c1 => ?_)
  · refine lv_iload_n hx hb dX10_fault_9 rfl (lv_at hl 1 rfl) ?_
    refine lv_iconst (v := 1) hx hb dX10_fault_10 (by decide) ?_
    refine lv_icmp_ne (tgt := 21) hx hb dX10_fault_11 (by decide) (fun c2 => ?_) (fun c2 => ?_)
    · refine lv_iconst (v := (-1)) hx hb dX10_fault_21 (by decide) ?_
      exact rI hX hE hP hD hS dX10_fault_22 (by decide) (by decide) ((by have kc1 := c1; have kc2 := c2; (try simp only [lg_cmp_lt, lg_cmp_le, lg_cmp_ge, lg_cmp_gt, lg_cmp_eq, fa_lt, fa_le, fa_eq, fa_lt64, fa_le64, fa_eq64, Int32.toInt_toInt64, li_0, lj_0, li_1, lj_1] at kc1); (try simp only [lg_cmp_lt, lg_cmp_le, lg_cmp_ge, lg_cmp_gt, lg_cmp_eq, fa_lt, fa_le, fa_eq, fa_lt64, fa_le64, fa_eq64, Int32.toInt_toInt64, li_0, lj_0, li_1, lj_1] at kc2); first | rfl | decide | (unfold vi_fault; (repeat' split) <;> first | rfl | decide | (exfalso; omega))))
    · obtain rfl : p1 = 1 := (by have kc1 := c1; have kc2 := c2; (try simp only [lg_cmp_lt, lg_cmp_le, lg_cmp_ge, lg_cmp_gt, lg_cmp_eq, fa_lt, fa_le, fa_eq, fa_lt64, fa_le64, fa_eq64, Int32.toInt_toInt64, li_0, lj_0, li_1, lj_1] at kc1); (try simp only [lg_cmp_lt, lg_cmp_le, lg_cmp_ge, lg_cmp_gt, lg_cmp_eq, fa_lt, fa_le, fa_eq, fa_lt64, fa_le64, fa_eq64, Int32.toInt_toInt64, li_0, lj_0, li_1, lj_1] at kc2); rw [fa_eq, li_1]; omega)
      refine lv_aload_n hx hb dX10_fault_14 rfl (lv_at hl 0 rfl) ?_
      refine va_get (ci := 10) (v := .int (-1)) (C := RX10) (T := TX10) (N := 13) hx hb htA in_X10 hown hK hP 0 rfl rfl 3 (by decide) (htA _ wd_311) (fun _ h => h) rfl dX10_fault_15 ?_
      refine lv_goto (tgt := 22) hx hb dX10_fault_18 (by decide) ?_
      exact rI hX hE hP hD hS dX10_fault_22 (by decide) (by decide) ((by have kc1 := c1; have kc2 := c2; (try simp only [lg_cmp_lt, lg_cmp_le, lg_cmp_ge, lg_cmp_gt, lg_cmp_eq, fa_lt, fa_le, fa_eq, fa_lt64, fa_le64, fa_eq64, Int32.toInt_toInt64, li_0, lj_0, li_1, lj_1] at kc1); (try simp only [lg_cmp_lt, lg_cmp_le, lg_cmp_ge, lg_cmp_gt, lg_cmp_eq, fa_lt, fa_le, fa_eq, fa_lt64, fa_le64, fa_eq64, Int32.toInt_toInt64, li_0, lj_0, li_1, lj_1] at kc2); first | rfl | decide | (unfold vi_fault; (repeat' split) <;> first | rfl | decide | (exfalso; omega))))
  · obtain rfl : p1 = 0 := (by have kc1 := c1; (try simp only [lg_cmp_lt, lg_cmp_le, lg_cmp_ge, lg_cmp_gt, lg_cmp_eq, fa_lt, fa_le, fa_eq, fa_lt64, fa_le64, fa_eq64, Int32.toInt_toInt64, li_0, lj_0] at kc1); rw [fa_eq, li_0]; omega)
    refine lv_aload_n hx hb dX10_fault_4 rfl (lv_at hl 0 rfl) ?_
    refine va_get (ci := 10) (v := .int 0) (C := RX10) (T := TX10) (N := 13) hx hb htA in_X10 hown hK hP 0 rfl rfl 2 (by decide) (htA _ wd_310) (fun _ h => h) rfl dX10_fault_5 ?_
    exact rI hX hE hP hD hS dX10_fault_8 (by decide) (by decide) ((by have kc1 := c1; (try simp only [lg_cmp_lt, lg_cmp_le, lg_cmp_ge, lg_cmp_gt, lg_cmp_eq, fa_lt, fa_le, fa_eq, fa_lt64, fa_le64, fa_eq64, Int32.toInt_toInt64, li_0, lj_0] at kc1); first | rfl | decide | (unfold vi_fault; (repeat' split) <;> first | rfl | decide | (exfalso; omega))))
def vi_letGo (p1 : Int32) (p2 : Int32) (p3 : Int32) : Int32 := -1
set_option maxHeartbeats 4000000 in
set_option maxRecDepth 100000 in
theorem au_X6_whyNotLetGo_11 (l : Launch) (D : va_G) (cy : Nat → ClassId) (a : Nat → Nat) (v1_ : Int32) (v2_ : Int32) (v3_ : Int32) : Ci l yX6_whyNotLetGo cX6_whyNotLetGo 4 (some .int) { frames := 0, cells := 0, slots := 0, locals := 0 } D cy [.ref (a 3), .int v1_, .int v2_, .int v3_] [((a 3), .inr (6, [.ref (a 10), .int 0, .ref (a 21), .ref (a 22), .ref (a 23), .ref (a 24), .ref (a 25), .int 0])), ((a 10), .inr (0, [.int 0, .int 1, .int 1, .int 0, .int 0, .ref (a 11), .ref (a 12), .ref (a 13), .null, .null]))] (fun r W1 => ((v1_ < 0) ∧ W1 = [((a 3), .inr (6, [.ref (a 10), .int 0, .ref (a 21), .ref (a 22), .ref (a 23), .ref (a 24), .ref (a 25), .int 0])), ((a 10), .inr (0, [.int 0, .int 1, .int 1, .int 0, .int 0, .ref (a 11), .ref (a 12), .ref (a 13), .null, .null]))] ∧ r = 1) ∨ ((¬ v1_ < 0) ∧ (0 ≤ v1_) ∧ W1 = [((a 3), .inr (6, [.ref (a 10), .int 0, .ref (a 21), .ref (a 22), .ref (a 23), .ref (a 24), .ref (a 25), .int 0])), ((a 10), .inr (0, [.int 0, .int 1, .int 1, .int 0, .int 0, .ref (a 11), .ref (a 12), .ref (a 13), .null, .null]))] ∧ r = 1)) := by
  refine Ci.of (by decide) (Nat.le_of_ble_eq_true rfl) ?_
  intro p e s m below meth c A ls hX hE hP hD hl
  obtain ⟨hx, hb, hr, hml, hown, htA, hlk⟩ := id hX
  have hK := hE.1
  have hS : va_S A s.heap s.heap [] := va_S.rf
  have hl : lv_has ls 4 [(0, .ref (a 3)), (1, .int v1_), (2, .int v2_), (3, .int v3_)] := hl
  refine lv_iload_n hx hb dX6_whyNotLetGo_0 rfl (lv_at hl 1 rfl) ?_
  refine lv_if_lt (tgt := 27) hx hb dX6_whyNotLetGo_1 (by decide) (fun c1 => ?_) (fun c1 => ?_)
  · refine lv_iconst (v := 1) hx hb dX6_whyNotLetGo_27 (by decide) ?_
    exact rI hX hE hP hD hS dX6_whyNotLetGo_28 (by decide) (by decide) (Or.inl (⟨c1, rfl, rfl⟩))
  · refine lv_iload_n hx hb dX6_whyNotLetGo_4 rfl (lv_at hl 1 rfl) ?_
    refine lv_aload_n hx hb dX6_whyNotLetGo_5 rfl (lv_at hl 0 rfl) ?_
    refine va_get (ci := 6) (v := .ref (a 10)) (C := RX6) (T := TX6) (N := 8) hx hb htA in_X6 hown hK hP 0 rfl rfl 0 (by decide) (htA _ wd_166) (fun _ h => h) rfl dX6_whyNotLetGo_6 ?_
    refine va_get (ci := 0) (v := .int 0) (C := RX0) (T := TX0) (N := 10) hx hb htA in_X0 hown hK hP 1 rfl rfl 3 (by decide) (htA _ wd_86) (fun _ h => h) rfl dX6_whyNotLetGo_9 ?_
    refine lv_icmp_ge (tgt := 27) hx hb dX6_whyNotLetGo_12 (by decide) (fun c2 => ?_) (fun c2 => (by have kc1 := c1; have kc2 := c2; (try simp only [lg_cmp_lt, lg_cmp_le, lg_cmp_ge, lg_cmp_gt, lg_cmp_eq, fa_lt, fa_le, fa_eq, fa_lt64, fa_le64, fa_eq64, Int32.toInt_toInt64, li_0, lj_0] at kc1); (try simp only [lg_cmp_lt, lg_cmp_le, lg_cmp_ge, lg_cmp_gt, lg_cmp_eq, fa_lt, fa_le, fa_eq, fa_lt64, fa_le64, fa_eq64, Int32.toInt_toInt64, li_0, lj_0] at kc2); exfalso; omega))
    refine lv_iconst (v := 1) hx hb dX6_whyNotLetGo_27 (by decide) ?_
    exact rI hX hE hP hD hS dX6_whyNotLetGo_28 (by decide) (by decide) (Or.inr (⟨c1, c2, rfl, rfl⟩))
set_option maxHeartbeats 4000000 in
set_option maxRecDepth 100000 in
theorem m_letGo (l : Launch) (D : va_G) (cy : Nat → ClassId) (a : Nat → Nat) (p1 : Int32) (p2 : Int32) (p3 : Int32) : Ci l yX10_letGo cX10_letGo 5 (some .int) { frames := 1, cells := 0, slots := 0, locals := 23 } D cy [.ref (a 0), .int p1, .int p2, .int p3] [((a 0), .inr (10, [.ref (a 1), .int 0, .int 0, .int (-1), .ref (a 2), .ref (a 3), .ref (a 4), .ref (a 5), .ref (a 6), .ref (a 7), .ref (a 8), .ref (a 9), .int 0])), ((a 3), .inr (6, [.ref (a 10), .int 0, .ref (a 21), .ref (a 22), .ref (a 23), .ref (a 24), .ref (a 25), .int 0])), ((a 10), .inr (0, [.int 0, .int 1, .int 1, .int 0, .int 0, .ref (a 11), .ref (a 12), .ref (a 13), .null, .null]))] (fun r _ => r = vi_letGo p1 p2 p3) := by
  refine Ci.of (by decide) (Nat.le_of_ble_eq_true rfl) ?_
  intro p e s m below meth c A ls hX hE hP hD hl
  obtain ⟨hx, hb, hr, hml, hown, htA, hlk⟩ := id hX
  have hK := hE.1
  have hS : va_S A s.heap s.heap [] := va_S.rf
  have hl : lv_has ls 5 [(0, .ref (a 0)), (1, .int p1), (2, .int p2), (3, .int p3)] := hl
  refine lv_aload_n hx hb dX10_letGo_0 rfl (lv_at hl 0 rfl) ?_
  refine va_get (ci := 10) (v := .ref (a 3)) (C := RX10) (T := TX10) (N := 13) hx hb htA in_X10 hown hK hP 0 rfl rfl 5 (by decide) (htA _ wd_313) (fun _ h => h) rfl dX10_letGo_1 ?_
  refine lv_iload_n hx hb dX10_letGo_4 rfl (lv_at hl 1 rfl) ?_
  refine lv_iload_n hx hb dX10_letGo_5 rfl (lv_at hl 2 rfl) ?_
  refine lv_iload_n hx hb dX10_letGo_6 rfl (lv_at hl 3 rfl) ?_
  refine kVi (As := [.int p1, .int p2, .int p3]) (rest := []) (wr := [((a 0), .inr (10, [.ref (a 1), .int 0, .int 0, .int (-1), .ref (a 2), .ref (a 3), .ref (a 4), .ref (a 5), .ref (a 6), .ref (a 7), .ref (a 8), .ref (a 9), .int 0]))]) hX hE (au_X6_whyNotLetGo_11 l D cy a p1 p2 p3) (cwVA 3 htA wd_367 wd_364 wd_6 wd_365 wd_366 (by decide +kernel) ⟨by decide, by decide⟩) hP hD hS [1, 2] [0] rfl rfl (by decide) 0 rfl rfl rfl rfl hl.1 rfl (Nat.le_of_ble_eq_true rfl) dX10_letGo_7 (by decide) (fun r_ W1 H locs hw hP hD hS => ?_)
  refine W.widen (k := 0) (n := 0) (by decide) (by decide) ?_
  rcases hw with ⟨g1, rfl, rfl⟩ | ⟨g2, g3, rfl, rfl⟩
  · have hP : va_P D vwCl [((a 0), .inr (10, [.ref (a 1), .int 0, .int 0, .int (-1), .ref (a 2), .ref (a 3), .ref (a 4), .ref (a 5), .ref (a 6), .ref (a 7), .ref (a 8), .ref (a 9), .int 0])), ((a 3), .inr (6, [.ref (a 10), .int 0, .ref (a 21), .ref (a 22), .ref (a 23), .ref (a 24), .ref (a 25), .int 0])), ((a 10), .inr (0, [.int 0, .int 1, .int 1, .int 0, .int 0, .ref (a 11), .ref (a 12), .ref (a 13), .null, .null]))] H := hP
    have hD : va_D A [((a 0), .inr (10, [.ref (a 1), .int 0, .int 0, .int (-1), .ref (a 2), .ref (a 3), .ref (a 4), .ref (a 5), .ref (a 6), .ref (a 7), .ref (a 8), .ref (a 9), .int 0])), ((a 3), .inr (6, [.ref (a 10), .int 0, .ref (a 21), .ref (a 22), .ref (a 23), .ref (a 24), .ref (a 25), .int 0])), ((a 10), .inr (0, [.int 0, .int 1, .int 1, .int 0, .int 0, .ref (a 11), .ref (a 12), .ref (a 13), .null, .null]))] := hD
    refine lv_istore (lv' := [(4, .int 1), (0, .ref (a 0)), (1, .int p1), (2, .int p2), (3, .int p3)]) hx hb dX10_letGo_10 hl (by decide) rfl (fun ls hl => ?_)
    refine lv_iload hx hb dX10_letGo_12 (lv_at hl 0 rfl) ?_
    refine lv_if_eq (tgt := 21) hx hb dX10_letGo_14 (by decide) (fun q => absurd q (by decide)) (fun _ => ?_)
    refine lv_iload hx hb dX10_letGo_17 (lv_at hl 0 rfl) ?_
    refine lv_ineg hx hb dX10_letGo_19 ?_
    refine lv_topi (fun x4 ex4 => ?_)
    obtain rfl : x4 = (-1) := ex4.trans (by decide)
    exact rI hX hE hP hD hS dX10_letGo_20 (by decide) (by decide) ((by have kg1 := g1; (try simp only [lg_cmp_lt, lg_cmp_le, lg_cmp_ge, lg_cmp_gt, lg_cmp_eq, fa_lt, fa_le, fa_eq, fa_lt64, fa_le64, fa_eq64, Int32.toInt_toInt64, li_0, lj_0] at kg1); first | rfl | decide | (unfold vi_letGo; (repeat' split) <;> first | rfl | decide | (exfalso; omega))))
  · have hP : va_P D vwCl [((a 0), .inr (10, [.ref (a 1), .int 0, .int 0, .int (-1), .ref (a 2), .ref (a 3), .ref (a 4), .ref (a 5), .ref (a 6), .ref (a 7), .ref (a 8), .ref (a 9), .int 0])), ((a 3), .inr (6, [.ref (a 10), .int 0, .ref (a 21), .ref (a 22), .ref (a 23), .ref (a 24), .ref (a 25), .int 0])), ((a 10), .inr (0, [.int 0, .int 1, .int 1, .int 0, .int 0, .ref (a 11), .ref (a 12), .ref (a 13), .null, .null]))] H := hP
    have hD : va_D A [((a 0), .inr (10, [.ref (a 1), .int 0, .int 0, .int (-1), .ref (a 2), .ref (a 3), .ref (a 4), .ref (a 5), .ref (a 6), .ref (a 7), .ref (a 8), .ref (a 9), .int 0])), ((a 3), .inr (6, [.ref (a 10), .int 0, .ref (a 21), .ref (a 22), .ref (a 23), .ref (a 24), .ref (a 25), .int 0])), ((a 10), .inr (0, [.int 0, .int 1, .int 1, .int 0, .int 0, .ref (a 11), .ref (a 12), .ref (a 13), .null, .null]))] := hD
    refine lv_istore (lv' := [(4, .int 1), (0, .ref (a 0)), (1, .int p1), (2, .int p2), (3, .int p3)]) hx hb dX10_letGo_10 hl (by decide) rfl (fun ls hl => ?_)
    refine lv_iload hx hb dX10_letGo_12 (lv_at hl 0 rfl) ?_
    refine lv_if_eq (tgt := 21) hx hb dX10_letGo_14 (by decide) (fun q => absurd q (by decide)) (fun _ => ?_)
    refine lv_iload hx hb dX10_letGo_17 (lv_at hl 0 rfl) ?_
    refine lv_ineg hx hb dX10_letGo_19 ?_
    refine lv_topi (fun x5 ex5 => ?_)
    obtain rfl : x5 = (-1) := ex5.trans (by decide)
    exact rI hX hE hP hD hS dX10_letGo_20 (by decide) (by decide) ((by have kg2 := g2; have kg3 := g3; (try simp only [lg_cmp_lt, lg_cmp_le, lg_cmp_ge, lg_cmp_gt, lg_cmp_eq, fa_lt, fa_le, fa_eq, fa_lt64, fa_le64, fa_eq64, Int32.toInt_toInt64, li_0, lj_0] at kg2); (try simp only [lg_cmp_lt, lg_cmp_le, lg_cmp_ge, lg_cmp_gt, lg_cmp_eq, fa_lt, fa_le, fa_eq, fa_lt64, fa_le64, fa_eq64, Int32.toInt_toInt64, li_0, lj_0] at kg3); first | rfl | decide | (unfold vi_letGo; (repeat' split) <;> first | rfl | decide | (exfalso; omega))))
def vi_take (p1 : Int32) : Int32 := -1
set_option maxHeartbeats 4000000 in
set_option maxRecDepth 100000 in
theorem au_X6_whyNotTake_12 (l : Launch) (D : va_G) (cy : Nat → ClassId) (a : Nat → Nat) (v1_ : Int32) : Ci l yX6_whyNotTake cX6_whyNotTake 3 (some .int) { frames := 0, cells := 0, slots := 0, locals := 0 } D cy [.ref (a 3), .int v1_] [((a 3), .inr (6, [.ref (a 10), .int 0, .ref (a 21), .ref (a 22), .ref (a 23), .ref (a 24), .ref (a 25), .int 0])), ((a 10), .inr (0, [.int 0, .int 1, .int 1, .int 0, .int 0, .ref (a 11), .ref (a 12), .ref (a 13), .null, .null]))] (fun r W1 => ((v1_ < 0) ∧ W1 = [((a 3), .inr (6, [.ref (a 10), .int 0, .ref (a 21), .ref (a 22), .ref (a 23), .ref (a 24), .ref (a 25), .int 0])), ((a 10), .inr (0, [.int 0, .int 1, .int 1, .int 0, .int 0, .ref (a 11), .ref (a 12), .ref (a 13), .null, .null]))] ∧ r = 1) ∨ ((¬ v1_ < 0) ∧ (¬ v1_ < 0) ∧ W1 = [((a 3), .inr (6, [.ref (a 10), .int 0, .ref (a 21), .ref (a 22), .ref (a 23), .ref (a 24), .ref (a 25), .int 0])), ((a 10), .inr (0, [.int 0, .int 1, .int 1, .int 0, .int 0, .ref (a 11), .ref (a 12), .ref (a 13), .null, .null]))] ∧ r = 1)) := by
  refine Ci.of (by decide) (Nat.le_of_ble_eq_true rfl) ?_
  intro p e s m below meth c A ls hX hE hP hD hl
  obtain ⟨hx, hb, hr, hml, hown, htA, hlk⟩ := id hX
  have hK := hE.1
  have hS : va_S A s.heap s.heap [] := va_S.rf
  have hl : lv_has ls 3 [(0, .ref (a 3)), (1, .int v1_)] := hl
  refine lv_iload_n hx hb dX6_whyNotTake_0 rfl (lv_at hl 1 rfl) ?_
  refine lv_if_lt (tgt := 15) hx hb dX6_whyNotTake_1 (by decide) (fun c1 => ?_) (fun c1 => ?_)
  · refine lv_iconst (v := 1) hx hb dX6_whyNotTake_15 (by decide) ?_
    exact rI hX hE hP hD hS dX6_whyNotTake_16 (by decide) (by decide) (Or.inl (⟨c1, rfl, rfl⟩))
  · refine lv_iload_n hx hb dX6_whyNotTake_4 rfl (lv_at hl 1 rfl) ?_
    refine lv_aload_n hx hb dX6_whyNotTake_5 rfl (lv_at hl 0 rfl) ?_
    refine va_get (ci := 6) (v := .ref (a 10)) (C := RX6) (T := TX6) (N := 8) hx hb htA in_X6 hown hK hP 0 rfl rfl 0 (by decide) (htA _ wd_166) (fun _ h => h) rfl dX6_whyNotTake_6 ?_
    refine va_get (ci := 0) (v := .int 0) (C := RX0) (T := TX0) (N := 10) hx hb htA in_X0 hown hK hP 1 rfl rfl 3 (by decide) (htA _ wd_86) (fun _ h => h) rfl dX6_whyNotTake_9 ?_
    refine lv_icmp_lt (tgt := 17) hx hb dX6_whyNotTake_12 (by decide) (fun c2 => absurd c2 c1) (fun c2 => ?_)
    refine lv_iconst (v := 1) hx hb dX6_whyNotTake_15 (by decide) ?_
    exact rI hX hE hP hD hS dX6_whyNotTake_16 (by decide) (by decide) (Or.inr (⟨c1, c2, rfl, rfl⟩))
set_option maxHeartbeats 4000000 in
set_option maxRecDepth 100000 in
theorem m_take (l : Launch) (D : va_G) (cy : Nat → ClassId) (a : Nat → Nat) (p1 : Int32) : Ci l yX10_take cX10_take 3 (some .int) { frames := 1, cells := 0, slots := 0, locals := 22 } D cy [.ref (a 0), .int p1] [((a 0), .inr (10, [.ref (a 1), .int 0, .int 0, .int (-1), .ref (a 2), .ref (a 3), .ref (a 4), .ref (a 5), .ref (a 6), .ref (a 7), .ref (a 8), .ref (a 9), .int 0])), ((a 3), .inr (6, [.ref (a 10), .int 0, .ref (a 21), .ref (a 22), .ref (a 23), .ref (a 24), .ref (a 25), .int 0])), ((a 10), .inr (0, [.int 0, .int 1, .int 1, .int 0, .int 0, .ref (a 11), .ref (a 12), .ref (a 13), .null, .null]))] (fun r _ => r = vi_take p1) := by
  refine Ci.of (by decide) (Nat.le_of_ble_eq_true rfl) ?_
  intro p e s m below meth c A ls hX hE hP hD hl
  obtain ⟨hx, hb, hr, hml, hown, htA, hlk⟩ := id hX
  have hK := hE.1
  have hS : va_S A s.heap s.heap [] := va_S.rf
  have hl : lv_has ls 3 [(0, .ref (a 0)), (1, .int p1)] := hl
  refine lv_aload_n hx hb dX10_take_0 rfl (lv_at hl 0 rfl) ?_
  refine va_get (ci := 10) (v := .ref (a 3)) (C := RX10) (T := TX10) (N := 13) hx hb htA in_X10 hown hK hP 0 rfl rfl 5 (by decide) (htA _ wd_313) (fun _ h => h) rfl dX10_take_1 ?_
  refine lv_iload_n hx hb dX10_take_4 rfl (lv_at hl 1 rfl) ?_
  refine kVi (As := [.int p1]) (rest := []) (wr := [((a 0), .inr (10, [.ref (a 1), .int 0, .int 0, .int (-1), .ref (a 2), .ref (a 3), .ref (a 4), .ref (a 5), .ref (a 6), .ref (a 7), .ref (a 8), .ref (a 9), .int 0]))]) hX hE (au_X6_whyNotTake_12 l D cy a p1) (cwVA 1 htA wd_463 wd_460 wd_6 wd_461 wd_462 (by decide +kernel) ⟨by decide, by decide⟩) hP hD hS [1, 2] [0] rfl rfl (by decide) 0 rfl rfl rfl rfl hl.1 rfl (Nat.le_of_ble_eq_true rfl) dX10_take_5 (by decide) (fun r_ W1 H locs hw hP hD hS => ?_)
  refine W.widen (k := 0) (n := 0) (by decide) (by decide) ?_
  rcases hw with ⟨g1, rfl, rfl⟩ | ⟨g2, g3, rfl, rfl⟩
  · have hP : va_P D vwCl [((a 0), .inr (10, [.ref (a 1), .int 0, .int 0, .int (-1), .ref (a 2), .ref (a 3), .ref (a 4), .ref (a 5), .ref (a 6), .ref (a 7), .ref (a 8), .ref (a 9), .int 0])), ((a 3), .inr (6, [.ref (a 10), .int 0, .ref (a 21), .ref (a 22), .ref (a 23), .ref (a 24), .ref (a 25), .int 0])), ((a 10), .inr (0, [.int 0, .int 1, .int 1, .int 0, .int 0, .ref (a 11), .ref (a 12), .ref (a 13), .null, .null]))] H := hP
    have hD : va_D A [((a 0), .inr (10, [.ref (a 1), .int 0, .int 0, .int (-1), .ref (a 2), .ref (a 3), .ref (a 4), .ref (a 5), .ref (a 6), .ref (a 7), .ref (a 8), .ref (a 9), .int 0])), ((a 3), .inr (6, [.ref (a 10), .int 0, .ref (a 21), .ref (a 22), .ref (a 23), .ref (a 24), .ref (a 25), .int 0])), ((a 10), .inr (0, [.int 0, .int 1, .int 1, .int 0, .int 0, .ref (a 11), .ref (a 12), .ref (a 13), .null, .null]))] := hD
    refine lv_istore_n (lv' := [(2, .int 1), (0, .ref (a 0)), (1, .int p1)]) hx hb dX10_take_8 rfl hl (by decide) rfl (fun ls hl => ?_)
    refine lv_iload_n hx hb dX10_take_9 rfl (lv_at hl 0 rfl) ?_
    refine lv_if_eq (tgt := 16) hx hb dX10_take_10 (by decide) (fun q => absurd q (by decide)) (fun _ => ?_)
    refine lv_iload_n hx hb dX10_take_13 rfl (lv_at hl 0 rfl) ?_
    refine lv_ineg hx hb dX10_take_14 ?_
    refine lv_topi (fun x4 ex4 => ?_)
    obtain rfl : x4 = (-1) := ex4.trans (by decide)
    exact rI hX hE hP hD hS dX10_take_15 (by decide) (by decide) ((by have kg1 := g1; (try simp only [lg_cmp_lt, lg_cmp_le, lg_cmp_ge, lg_cmp_gt, lg_cmp_eq, fa_lt, fa_le, fa_eq, fa_lt64, fa_le64, fa_eq64, Int32.toInt_toInt64, li_0, lj_0] at kg1); first | rfl | decide | (unfold vi_take; (repeat' split) <;> first | rfl | decide | (exfalso; omega))))
  · have hP : va_P D vwCl [((a 0), .inr (10, [.ref (a 1), .int 0, .int 0, .int (-1), .ref (a 2), .ref (a 3), .ref (a 4), .ref (a 5), .ref (a 6), .ref (a 7), .ref (a 8), .ref (a 9), .int 0])), ((a 3), .inr (6, [.ref (a 10), .int 0, .ref (a 21), .ref (a 22), .ref (a 23), .ref (a 24), .ref (a 25), .int 0])), ((a 10), .inr (0, [.int 0, .int 1, .int 1, .int 0, .int 0, .ref (a 11), .ref (a 12), .ref (a 13), .null, .null]))] H := hP
    have hD : va_D A [((a 0), .inr (10, [.ref (a 1), .int 0, .int 0, .int (-1), .ref (a 2), .ref (a 3), .ref (a 4), .ref (a 5), .ref (a 6), .ref (a 7), .ref (a 8), .ref (a 9), .int 0])), ((a 3), .inr (6, [.ref (a 10), .int 0, .ref (a 21), .ref (a 22), .ref (a 23), .ref (a 24), .ref (a 25), .int 0])), ((a 10), .inr (0, [.int 0, .int 1, .int 1, .int 0, .int 0, .ref (a 11), .ref (a 12), .ref (a 13), .null, .null]))] := hD
    refine lv_istore_n (lv' := [(2, .int 1), (0, .ref (a 0)), (1, .int p1)]) hx hb dX10_take_8 rfl hl (by decide) rfl (fun ls hl => ?_)
    refine lv_iload_n hx hb dX10_take_9 rfl (lv_at hl 0 rfl) ?_
    refine lv_if_eq (tgt := 16) hx hb dX10_take_10 (by decide) (fun q => absurd q (by decide)) (fun _ => ?_)
    refine lv_iload_n hx hb dX10_take_13 rfl (lv_at hl 0 rfl) ?_
    refine lv_ineg hx hb dX10_take_14 ?_
    refine lv_topi (fun x5 ex5 => ?_)
    obtain rfl : x5 = (-1) := ex5.trans (by decide)
    exact rI hX hE hP hD hS dX10_take_15 (by decide) (by decide) ((by have kg2 := g2; have kg3 := g3; (try simp only [lg_cmp_lt, lg_cmp_le, lg_cmp_ge, lg_cmp_gt, lg_cmp_eq, fa_lt, fa_le, fa_eq, fa_lt64, fa_le64, fa_eq64, Int32.toInt_toInt64, li_0, lj_0] at kg2); (try simp only [lg_cmp_lt, lg_cmp_le, lg_cmp_ge, lg_cmp_gt, lg_cmp_eq, fa_lt, fa_le, fa_eq, fa_lt64, fa_le64, fa_eq64, Int32.toInt_toInt64, li_0, lj_0] at kg3); first | rfl | decide | (unfold vi_take; (repeat' split) <;> first | rfl | decide | (exfalso; omega))))
def vi_quake : Int32 := 0
set_option maxHeartbeats 4000000 in
set_option maxRecDepth 100000 in
theorem au_X6_copyFrom_13 (l : Launch) (D : va_G) (cy : Nat → ClassId) (a : Nat → Nat) : Cv l yX6_copyFrom cX6_copyFrom 2 none { frames := 1, cells := 0, slots := 0, locals := 60 } D cy [.ref (a 100), .ref (a 3)] [((a 100), .inr (6, [.ref (a 10), .int 0, .ref (a 101), .ref (a 102), .ref (a 103), .ref (a 104), .ref (a 105), .int 0])), ((a 101), .inl (cy 0, 8, .inl (fun _ => 0))), ((a 102), .inl (cy 0, 8, .inl (fun _ => 0))), ((a 103), .inl (cy 0, 8, .inl (fun _ => 0))), ((a 104), .inl (cy 0, 8, .inl (fun _ => 0))), ((a 105), .inl (cy 0, 4, .inl (fun _ => 0))), ((a 3), .inr (6, [.ref (a 10), .int 0, .ref (a 21), .ref (a 22), .ref (a 23), .ref (a 24), .ref (a 25), .int 0])), ((a 21), .inl (cy 0, 8, .inl (fun _ => 0))), ((a 22), .inl (cy 0, 8, .inl (fun _ => 0))), ((a 23), .inl (cy 0, 8, .inl (fun _ => 0))), ((a 24), .inl (cy 0, 8, .inl (fun _ => 0))), ((a 25), .inl (cy 0, 4, .inl (fun _ => 0)))] (fun W1 => (W1 = [((a 100), .inr (6, [.ref (a 10), .int 0, .ref (a 101), .ref (a 102), .ref (a 103), .ref (a 104), .ref (a 105), .int 0])), ((a 101), .inl (cy 0, 8, .inl (fun _ => 0))), ((a 102), .inl (cy 0, 8, .inl (fun _ => 0))), ((a 103), .inl (cy 0, 8, .inl (fun _ => 0))), ((a 104), .inl (cy 0, 8, .inl (fun _ => 0))), ((a 105), .inl (cy 0, 4, .inl (fun _ => 0))), ((a 3), .inr (6, [.ref (a 10), .int 0, .ref (a 21), .ref (a 22), .ref (a 23), .ref (a 24), .ref (a 25), .int 0])), ((a 21), .inl (cy 0, 8, .inl (fun _ => 0))), ((a 22), .inl (cy 0, 8, .inl (fun _ => 0))), ((a 23), .inl (cy 0, 8, .inl (fun _ => 0))), ((a 24), .inl (cy 0, 8, .inl (fun _ => 0))), ((a 25), .inl (cy 0, 4, .inl (fun _ => 0)))])) := by
  refine Cv.of (by decide) (Nat.le_of_ble_eq_true rfl) ?_
  intro p e s m below meth c A ls hX hE hP hD hl hin
  obtain ⟨hx, hb, hr, hml, hown, htA, hlk⟩ := id hX
  have hK := hE.1
  have hS : va_S A s.heap s.heap [] := va_S.rf
  have hl : lv_has ls 2 [(0, .ref (a 100)), (1, .ref (a 3))] := hl
  refine lv_aload_n hx hb dX6_copyFrom_0 rfl (lv_at hl 0 rfl) ?_
  refine lv_aload_n hx hb dX6_copyFrom_1 rfl (lv_at hl 1 rfl) ?_
  refine va_get (ci := 6) (v := .ref (a 10)) (C := RX6) (T := TX6) (N := 8) hx hb htA in_X6 hown hK hP 6 rfl rfl 0 (by decide) (htA _ wd_166) (fun _ h => h) rfl dX6_copyFrom_2 ?_
  refine va_put (ci := 6) (v := .ref (a 10)) (ty := tyX6 0) (C := RX6) (T := TX6) (N := 8) hx hb htA in_X6 tyX6 tyX6_ok nmX6 hown hK hP hD hS 0 rfl rfl 0 (by decide) (htA _ wd_166) (fun _ h => h) rfl (by decide +kernel) rfl rfl (Nat.le_of_ble_eq_true rfl) dX6_copyFrom_5 (fun H locs hP hD hS => ?_)
  have hP : va_P D vwCl [((a 100), .inr (6, [.ref (a 10), .int 0, .ref (a 101), .ref (a 102), .ref (a 103), .ref (a 104), .ref (a 105), .int 0])), ((a 101), .inl (cy 0, 8, .inl (fun _ => 0))), ((a 102), .inl (cy 0, 8, .inl (fun _ => 0))), ((a 103), .inl (cy 0, 8, .inl (fun _ => 0))), ((a 104), .inl (cy 0, 8, .inl (fun _ => 0))), ((a 105), .inl (cy 0, 4, .inl (fun _ => 0))), ((a 3), .inr (6, [.ref (a 10), .int 0, .ref (a 21), .ref (a 22), .ref (a 23), .ref (a 24), .ref (a 25), .int 0])), ((a 21), .inl (cy 0, 8, .inl (fun _ => 0))), ((a 22), .inl (cy 0, 8, .inl (fun _ => 0))), ((a 23), .inl (cy 0, 8, .inl (fun _ => 0))), ((a 24), .inl (cy 0, 8, .inl (fun _ => 0))), ((a 25), .inl (cy 0, 4, .inl (fun _ => 0)))] H := hP
  have hD : va_D A [((a 100), .inr (6, [.ref (a 10), .int 0, .ref (a 101), .ref (a 102), .ref (a 103), .ref (a 104), .ref (a 105), .int 0])), ((a 101), .inl (cy 0, 8, .inl (fun _ => 0))), ((a 102), .inl (cy 0, 8, .inl (fun _ => 0))), ((a 103), .inl (cy 0, 8, .inl (fun _ => 0))), ((a 104), .inl (cy 0, 8, .inl (fun _ => 0))), ((a 105), .inl (cy 0, 4, .inl (fun _ => 0))), ((a 3), .inr (6, [.ref (a 10), .int 0, .ref (a 21), .ref (a 22), .ref (a 23), .ref (a 24), .ref (a 25), .int 0])), ((a 21), .inl (cy 0, 8, .inl (fun _ => 0))), ((a 22), .inl (cy 0, 8, .inl (fun _ => 0))), ((a 23), .inl (cy 0, 8, .inl (fun _ => 0))), ((a 24), .inl (cy 0, 8, .inl (fun _ => 0))), ((a 25), .inl (cy 0, 4, .inl (fun _ => 0)))] := hD
  refine lv_aload_n hx hb dX6_copyFrom_8 rfl (lv_at hl 0 rfl) ?_
  refine lv_aload_n hx hb dX6_copyFrom_9 rfl (lv_at hl 1 rfl) ?_
  refine va_get (ci := 6) (v := .int 0) (C := RX6) (T := TX6) (N := 8) hx hb htA in_X6 hown hK hP 6 rfl rfl 1 (by decide) (htA _ wd_170) (fun _ h => h) rfl dX6_copyFrom_10 ?_
  refine va_put (ci := 6) (v := .int 0) (ty := .int) (C := RX6) (T := TX6) (N := 8) hx hb htA in_X6 tyX6 tyX6_ok nmX6 hown hK hP hD hS 0 rfl rfl 1 (by decide) (htA _ wd_170) (fun _ h => h) rfl (by decide +kernel) rfl rfl (Nat.le_of_ble_eq_true rfl) dX6_copyFrom_13 (fun H locs hP hD hS => ?_)
  have hP : va_P D vwCl [((a 100), .inr (6, [.ref (a 10), .int 0, .ref (a 101), .ref (a 102), .ref (a 103), .ref (a 104), .ref (a 105), .int 0])), ((a 101), .inl (cy 0, 8, .inl (fun _ => 0))), ((a 102), .inl (cy 0, 8, .inl (fun _ => 0))), ((a 103), .inl (cy 0, 8, .inl (fun _ => 0))), ((a 104), .inl (cy 0, 8, .inl (fun _ => 0))), ((a 105), .inl (cy 0, 4, .inl (fun _ => 0))), ((a 3), .inr (6, [.ref (a 10), .int 0, .ref (a 21), .ref (a 22), .ref (a 23), .ref (a 24), .ref (a 25), .int 0])), ((a 21), .inl (cy 0, 8, .inl (fun _ => 0))), ((a 22), .inl (cy 0, 8, .inl (fun _ => 0))), ((a 23), .inl (cy 0, 8, .inl (fun _ => 0))), ((a 24), .inl (cy 0, 8, .inl (fun _ => 0))), ((a 25), .inl (cy 0, 4, .inl (fun _ => 0)))] H := hP
  have hD : va_D A [((a 100), .inr (6, [.ref (a 10), .int 0, .ref (a 101), .ref (a 102), .ref (a 103), .ref (a 104), .ref (a 105), .int 0])), ((a 101), .inl (cy 0, 8, .inl (fun _ => 0))), ((a 102), .inl (cy 0, 8, .inl (fun _ => 0))), ((a 103), .inl (cy 0, 8, .inl (fun _ => 0))), ((a 104), .inl (cy 0, 8, .inl (fun _ => 0))), ((a 105), .inl (cy 0, 4, .inl (fun _ => 0))), ((a 3), .inr (6, [.ref (a 10), .int 0, .ref (a 21), .ref (a 22), .ref (a 23), .ref (a 24), .ref (a 25), .int 0])), ((a 21), .inl (cy 0, 8, .inl (fun _ => 0))), ((a 22), .inl (cy 0, 8, .inl (fun _ => 0))), ((a 23), .inl (cy 0, 8, .inl (fun _ => 0))), ((a 24), .inl (cy 0, 8, .inl (fun _ => 0))), ((a 25), .inl (cy 0, 4, .inl (fun _ => 0)))] := hD
  refine lv_aload_n hx hb dX6_copyFrom_16 rfl (lv_at hl 0 rfl) ?_
  refine lv_aload_n hx hb dX6_copyFrom_17 rfl (lv_at hl 1 rfl) ?_
  refine va_get (ci := 6) (v := .int 0) (C := RX6) (T := TX6) (N := 8) hx hb htA in_X6 hown hK hP 6 rfl rfl 7 (by decide) (htA _ wd_189) (fun _ h => h) rfl dX6_copyFrom_18 ?_
  refine va_put (ci := 6) (v := .int 0) (ty := .int) (C := RX6) (T := TX6) (N := 8) hx hb htA in_X6 tyX6 tyX6_ok nmX6 hown hK hP hD hS 0 rfl rfl 7 (by decide) (htA _ wd_189) (fun _ h => h) rfl (by decide +kernel) rfl rfl (Nat.le_of_ble_eq_true rfl) dX6_copyFrom_21 (fun H locs hP hD hS => ?_)
  have hP : va_P D vwCl [((a 100), .inr (6, [.ref (a 10), .int 0, .ref (a 101), .ref (a 102), .ref (a 103), .ref (a 104), .ref (a 105), .int 0])), ((a 101), .inl (cy 0, 8, .inl (fun _ => 0))), ((a 102), .inl (cy 0, 8, .inl (fun _ => 0))), ((a 103), .inl (cy 0, 8, .inl (fun _ => 0))), ((a 104), .inl (cy 0, 8, .inl (fun _ => 0))), ((a 105), .inl (cy 0, 4, .inl (fun _ => 0))), ((a 3), .inr (6, [.ref (a 10), .int 0, .ref (a 21), .ref (a 22), .ref (a 23), .ref (a 24), .ref (a 25), .int 0])), ((a 21), .inl (cy 0, 8, .inl (fun _ => 0))), ((a 22), .inl (cy 0, 8, .inl (fun _ => 0))), ((a 23), .inl (cy 0, 8, .inl (fun _ => 0))), ((a 24), .inl (cy 0, 8, .inl (fun _ => 0))), ((a 25), .inl (cy 0, 4, .inl (fun _ => 0)))] H := hP
  have hD : va_D A [((a 100), .inr (6, [.ref (a 10), .int 0, .ref (a 101), .ref (a 102), .ref (a 103), .ref (a 104), .ref (a 105), .int 0])), ((a 101), .inl (cy 0, 8, .inl (fun _ => 0))), ((a 102), .inl (cy 0, 8, .inl (fun _ => 0))), ((a 103), .inl (cy 0, 8, .inl (fun _ => 0))), ((a 104), .inl (cy 0, 8, .inl (fun _ => 0))), ((a 105), .inl (cy 0, 4, .inl (fun _ => 0))), ((a 3), .inr (6, [.ref (a 10), .int 0, .ref (a 21), .ref (a 22), .ref (a 23), .ref (a 24), .ref (a 25), .int 0])), ((a 21), .inl (cy 0, 8, .inl (fun _ => 0))), ((a 22), .inl (cy 0, 8, .inl (fun _ => 0))), ((a 23), .inl (cy 0, 8, .inl (fun _ => 0))), ((a 24), .inl (cy 0, 8, .inl (fun _ => 0))), ((a 25), .inl (cy 0, 4, .inl (fun _ => 0)))] := hD
  refine lv_aload_n hx hb dX6_copyFrom_24 rfl (lv_at hl 1 rfl) ?_
  refine va_get (ci := 6) (v := .ref (a 21)) (C := RX6) (T := TX6) (N := 8) hx hb htA in_X6 hown hK hP 6 rfl rfl 2 (by decide) (htA _ wd_174) (fun _ h => h) rfl dX6_copyFrom_25 ?_
  refine lv_iconst (v := 0) hx hb dX6_copyFrom_28 (by decide) ?_
  refine lv_aload_n hx hb dX6_copyFrom_29 rfl (lv_at hl 0 rfl) ?_
  refine va_get (ci := 6) (v := .ref (a 101)) (C := RX6) (T := TX6) (N := 8) hx hb htA in_X6 hown hK hP 0 rfl rfl 2 (by decide) (htA _ wd_174) (fun _ h => h) rfl dX6_copyFrom_30 ?_
  refine lv_iconst (v := 0) hx hb dX6_copyFrom_33 (by decide) ?_
  refine lv_bipush (v := 8) hx hb dX6_copyFrom_34 (by decide) ?_
  refine va_copyi hx hb (hml.trans hl.1.symm) hown (htA _ wd_392) (htA _ wd_394) (htA _ wd_393) (htA _ wd_22) hK hP hD hS 7 1 0 0 rfl rfl rfl rfl rfl (by decide) (by decide) (by decide) (by decide) (by decide) (fun _ _ => rfl) (by decide) (by decide) dX6_copyFrom_36 (fun H locs hP hD hS => ?_)
  rw [va_cpy_same] at hP hD
  have hP : va_P D vwCl [((a 100), .inr (6, [.ref (a 10), .int 0, .ref (a 101), .ref (a 102), .ref (a 103), .ref (a 104), .ref (a 105), .int 0])), ((a 101), .inl (cy 0, 8, .inl (fun _ => 0))), ((a 102), .inl (cy 0, 8, .inl (fun _ => 0))), ((a 103), .inl (cy 0, 8, .inl (fun _ => 0))), ((a 104), .inl (cy 0, 8, .inl (fun _ => 0))), ((a 105), .inl (cy 0, 4, .inl (fun _ => 0))), ((a 3), .inr (6, [.ref (a 10), .int 0, .ref (a 21), .ref (a 22), .ref (a 23), .ref (a 24), .ref (a 25), .int 0])), ((a 21), .inl (cy 0, 8, .inl (fun _ => 0))), ((a 22), .inl (cy 0, 8, .inl (fun _ => 0))), ((a 23), .inl (cy 0, 8, .inl (fun _ => 0))), ((a 24), .inl (cy 0, 8, .inl (fun _ => 0))), ((a 25), .inl (cy 0, 4, .inl (fun _ => 0)))] H := hP
  have hD : va_D A [((a 100), .inr (6, [.ref (a 10), .int 0, .ref (a 101), .ref (a 102), .ref (a 103), .ref (a 104), .ref (a 105), .int 0])), ((a 101), .inl (cy 0, 8, .inl (fun _ => 0))), ((a 102), .inl (cy 0, 8, .inl (fun _ => 0))), ((a 103), .inl (cy 0, 8, .inl (fun _ => 0))), ((a 104), .inl (cy 0, 8, .inl (fun _ => 0))), ((a 105), .inl (cy 0, 4, .inl (fun _ => 0))), ((a 3), .inr (6, [.ref (a 10), .int 0, .ref (a 21), .ref (a 22), .ref (a 23), .ref (a 24), .ref (a 25), .int 0])), ((a 21), .inl (cy 0, 8, .inl (fun _ => 0))), ((a 22), .inl (cy 0, 8, .inl (fun _ => 0))), ((a 23), .inl (cy 0, 8, .inl (fun _ => 0))), ((a 24), .inl (cy 0, 8, .inl (fun _ => 0))), ((a 25), .inl (cy 0, 4, .inl (fun _ => 0)))] := hD
  refine lv_aload_n hx hb dX6_copyFrom_39 rfl (lv_at hl 1 rfl) ?_
  refine va_get (ci := 6) (v := .ref (a 22)) (C := RX6) (T := TX6) (N := 8) hx hb htA in_X6 hown hK hP 6 rfl rfl 3 (by decide) (htA _ wd_178) (fun _ h => h) rfl dX6_copyFrom_40 ?_
  refine lv_iconst (v := 0) hx hb dX6_copyFrom_43 (by decide) ?_
  refine lv_aload_n hx hb dX6_copyFrom_44 rfl (lv_at hl 0 rfl) ?_
  refine va_get (ci := 6) (v := .ref (a 102)) (C := RX6) (T := TX6) (N := 8) hx hb htA in_X6 hown hK hP 0 rfl rfl 3 (by decide) (htA _ wd_178) (fun _ h => h) rfl dX6_copyFrom_45 ?_
  refine lv_iconst (v := 0) hx hb dX6_copyFrom_48 (by decide) ?_
  refine lv_bipush (v := 8) hx hb dX6_copyFrom_49 (by decide) ?_
  refine va_copyi hx hb (hml.trans hl.1.symm) hown (htA _ wd_392) (htA _ wd_394) (htA _ wd_393) (htA _ wd_22) hK hP hD hS 8 2 0 0 rfl rfl rfl rfl rfl (by decide) (by decide) (by decide) (by decide) (by decide) (fun _ _ => rfl) (by decide) (by decide) dX6_copyFrom_51 (fun H locs hP hD hS => ?_)
  rw [va_cpy_same] at hP hD
  have hP : va_P D vwCl [((a 100), .inr (6, [.ref (a 10), .int 0, .ref (a 101), .ref (a 102), .ref (a 103), .ref (a 104), .ref (a 105), .int 0])), ((a 101), .inl (cy 0, 8, .inl (fun _ => 0))), ((a 102), .inl (cy 0, 8, .inl (fun _ => 0))), ((a 103), .inl (cy 0, 8, .inl (fun _ => 0))), ((a 104), .inl (cy 0, 8, .inl (fun _ => 0))), ((a 105), .inl (cy 0, 4, .inl (fun _ => 0))), ((a 3), .inr (6, [.ref (a 10), .int 0, .ref (a 21), .ref (a 22), .ref (a 23), .ref (a 24), .ref (a 25), .int 0])), ((a 21), .inl (cy 0, 8, .inl (fun _ => 0))), ((a 22), .inl (cy 0, 8, .inl (fun _ => 0))), ((a 23), .inl (cy 0, 8, .inl (fun _ => 0))), ((a 24), .inl (cy 0, 8, .inl (fun _ => 0))), ((a 25), .inl (cy 0, 4, .inl (fun _ => 0)))] H := hP
  have hD : va_D A [((a 100), .inr (6, [.ref (a 10), .int 0, .ref (a 101), .ref (a 102), .ref (a 103), .ref (a 104), .ref (a 105), .int 0])), ((a 101), .inl (cy 0, 8, .inl (fun _ => 0))), ((a 102), .inl (cy 0, 8, .inl (fun _ => 0))), ((a 103), .inl (cy 0, 8, .inl (fun _ => 0))), ((a 104), .inl (cy 0, 8, .inl (fun _ => 0))), ((a 105), .inl (cy 0, 4, .inl (fun _ => 0))), ((a 3), .inr (6, [.ref (a 10), .int 0, .ref (a 21), .ref (a 22), .ref (a 23), .ref (a 24), .ref (a 25), .int 0])), ((a 21), .inl (cy 0, 8, .inl (fun _ => 0))), ((a 22), .inl (cy 0, 8, .inl (fun _ => 0))), ((a 23), .inl (cy 0, 8, .inl (fun _ => 0))), ((a 24), .inl (cy 0, 8, .inl (fun _ => 0))), ((a 25), .inl (cy 0, 4, .inl (fun _ => 0)))] := hD
  refine lv_aload_n hx hb dX6_copyFrom_54 rfl (lv_at hl 1 rfl) ?_
  refine va_get (ci := 6) (v := .ref (a 23)) (C := RX6) (T := TX6) (N := 8) hx hb htA in_X6 hown hK hP 6 rfl rfl 4 (by decide) (htA _ wd_181) (fun _ h => h) rfl dX6_copyFrom_55 ?_
  refine lv_iconst (v := 0) hx hb dX6_copyFrom_58 (by decide) ?_
  refine lv_aload_n hx hb dX6_copyFrom_59 rfl (lv_at hl 0 rfl) ?_
  refine va_get (ci := 6) (v := .ref (a 103)) (C := RX6) (T := TX6) (N := 8) hx hb htA in_X6 hown hK hP 0 rfl rfl 4 (by decide) (htA _ wd_181) (fun _ h => h) rfl dX6_copyFrom_60 ?_
  refine lv_iconst (v := 0) hx hb dX6_copyFrom_63 (by decide) ?_
  refine lv_bipush (v := 8) hx hb dX6_copyFrom_64 (by decide) ?_
  refine va_copyi hx hb (hml.trans hl.1.symm) hown (htA _ wd_392) (htA _ wd_394) (htA _ wd_393) (htA _ wd_22) hK hP hD hS 9 3 0 0 rfl rfl rfl rfl rfl (by decide) (by decide) (by decide) (by decide) (by decide) (fun _ _ => rfl) (by decide) (by decide) dX6_copyFrom_66 (fun H locs hP hD hS => ?_)
  rw [va_cpy_same] at hP hD
  have hP : va_P D vwCl [((a 100), .inr (6, [.ref (a 10), .int 0, .ref (a 101), .ref (a 102), .ref (a 103), .ref (a 104), .ref (a 105), .int 0])), ((a 101), .inl (cy 0, 8, .inl (fun _ => 0))), ((a 102), .inl (cy 0, 8, .inl (fun _ => 0))), ((a 103), .inl (cy 0, 8, .inl (fun _ => 0))), ((a 104), .inl (cy 0, 8, .inl (fun _ => 0))), ((a 105), .inl (cy 0, 4, .inl (fun _ => 0))), ((a 3), .inr (6, [.ref (a 10), .int 0, .ref (a 21), .ref (a 22), .ref (a 23), .ref (a 24), .ref (a 25), .int 0])), ((a 21), .inl (cy 0, 8, .inl (fun _ => 0))), ((a 22), .inl (cy 0, 8, .inl (fun _ => 0))), ((a 23), .inl (cy 0, 8, .inl (fun _ => 0))), ((a 24), .inl (cy 0, 8, .inl (fun _ => 0))), ((a 25), .inl (cy 0, 4, .inl (fun _ => 0)))] H := hP
  have hD : va_D A [((a 100), .inr (6, [.ref (a 10), .int 0, .ref (a 101), .ref (a 102), .ref (a 103), .ref (a 104), .ref (a 105), .int 0])), ((a 101), .inl (cy 0, 8, .inl (fun _ => 0))), ((a 102), .inl (cy 0, 8, .inl (fun _ => 0))), ((a 103), .inl (cy 0, 8, .inl (fun _ => 0))), ((a 104), .inl (cy 0, 8, .inl (fun _ => 0))), ((a 105), .inl (cy 0, 4, .inl (fun _ => 0))), ((a 3), .inr (6, [.ref (a 10), .int 0, .ref (a 21), .ref (a 22), .ref (a 23), .ref (a 24), .ref (a 25), .int 0])), ((a 21), .inl (cy 0, 8, .inl (fun _ => 0))), ((a 22), .inl (cy 0, 8, .inl (fun _ => 0))), ((a 23), .inl (cy 0, 8, .inl (fun _ => 0))), ((a 24), .inl (cy 0, 8, .inl (fun _ => 0))), ((a 25), .inl (cy 0, 4, .inl (fun _ => 0)))] := hD
  refine lv_aload_n hx hb dX6_copyFrom_69 rfl (lv_at hl 1 rfl) ?_
  refine va_get (ci := 6) (v := .ref (a 24)) (C := RX6) (T := TX6) (N := 8) hx hb htA in_X6 hown hK hP 6 rfl rfl 5 (by decide) (htA _ wd_184) (fun _ h => h) rfl dX6_copyFrom_70 ?_
  refine lv_iconst (v := 0) hx hb dX6_copyFrom_73 (by decide) ?_
  refine lv_aload_n hx hb dX6_copyFrom_74 rfl (lv_at hl 0 rfl) ?_
  refine va_get (ci := 6) (v := .ref (a 104)) (C := RX6) (T := TX6) (N := 8) hx hb htA in_X6 hown hK hP 0 rfl rfl 5 (by decide) (htA _ wd_184) (fun _ h => h) rfl dX6_copyFrom_75 ?_
  refine lv_iconst (v := 0) hx hb dX6_copyFrom_78 (by decide) ?_
  refine lv_bipush (v := 8) hx hb dX6_copyFrom_79 (by decide) ?_
  refine va_copyi hx hb (hml.trans hl.1.symm) hown (htA _ wd_392) (htA _ wd_394) (htA _ wd_393) (htA _ wd_22) hK hP hD hS 10 4 0 0 rfl rfl rfl rfl rfl (by decide) (by decide) (by decide) (by decide) (by decide) (fun _ _ => rfl) (by decide) (by decide) dX6_copyFrom_81 (fun H locs hP hD hS => ?_)
  rw [va_cpy_same] at hP hD
  have hP : va_P D vwCl [((a 100), .inr (6, [.ref (a 10), .int 0, .ref (a 101), .ref (a 102), .ref (a 103), .ref (a 104), .ref (a 105), .int 0])), ((a 101), .inl (cy 0, 8, .inl (fun _ => 0))), ((a 102), .inl (cy 0, 8, .inl (fun _ => 0))), ((a 103), .inl (cy 0, 8, .inl (fun _ => 0))), ((a 104), .inl (cy 0, 8, .inl (fun _ => 0))), ((a 105), .inl (cy 0, 4, .inl (fun _ => 0))), ((a 3), .inr (6, [.ref (a 10), .int 0, .ref (a 21), .ref (a 22), .ref (a 23), .ref (a 24), .ref (a 25), .int 0])), ((a 21), .inl (cy 0, 8, .inl (fun _ => 0))), ((a 22), .inl (cy 0, 8, .inl (fun _ => 0))), ((a 23), .inl (cy 0, 8, .inl (fun _ => 0))), ((a 24), .inl (cy 0, 8, .inl (fun _ => 0))), ((a 25), .inl (cy 0, 4, .inl (fun _ => 0)))] H := hP
  have hD : va_D A [((a 100), .inr (6, [.ref (a 10), .int 0, .ref (a 101), .ref (a 102), .ref (a 103), .ref (a 104), .ref (a 105), .int 0])), ((a 101), .inl (cy 0, 8, .inl (fun _ => 0))), ((a 102), .inl (cy 0, 8, .inl (fun _ => 0))), ((a 103), .inl (cy 0, 8, .inl (fun _ => 0))), ((a 104), .inl (cy 0, 8, .inl (fun _ => 0))), ((a 105), .inl (cy 0, 4, .inl (fun _ => 0))), ((a 3), .inr (6, [.ref (a 10), .int 0, .ref (a 21), .ref (a 22), .ref (a 23), .ref (a 24), .ref (a 25), .int 0])), ((a 21), .inl (cy 0, 8, .inl (fun _ => 0))), ((a 22), .inl (cy 0, 8, .inl (fun _ => 0))), ((a 23), .inl (cy 0, 8, .inl (fun _ => 0))), ((a 24), .inl (cy 0, 8, .inl (fun _ => 0))), ((a 25), .inl (cy 0, 4, .inl (fun _ => 0)))] := hD
  refine lv_aload_n hx hb dX6_copyFrom_84 rfl (lv_at hl 1 rfl) ?_
  refine va_get (ci := 6) (v := .ref (a 25)) (C := RX6) (T := TX6) (N := 8) hx hb htA in_X6 hown hK hP 6 rfl rfl 6 (by decide) (htA _ wd_187) (fun _ h => h) rfl dX6_copyFrom_85 ?_
  refine lv_iconst (v := 0) hx hb dX6_copyFrom_88 (by decide) ?_
  refine lv_aload_n hx hb dX6_copyFrom_89 rfl (lv_at hl 0 rfl) ?_
  refine va_get (ci := 6) (v := .ref (a 105)) (C := RX6) (T := TX6) (N := 8) hx hb htA in_X6 hown hK hP 0 rfl rfl 6 (by decide) (htA _ wd_187) (fun _ h => h) rfl dX6_copyFrom_90 ?_
  refine lv_iconst (v := 0) hx hb dX6_copyFrom_93 (by decide) ?_
  refine lv_iconst (v := 4) hx hb dX6_copyFrom_94 (by decide) ?_
  refine va_copyi hx hb (hml.trans hl.1.symm) hown (htA _ wd_392) (htA _ wd_394) (htA _ wd_393) (htA _ wd_22) hK hP hD hS 11 5 0 0 rfl rfl rfl rfl rfl (by decide) (by decide) (by decide) (by decide) (by decide) (fun _ _ => rfl) (by decide) (by decide) dX6_copyFrom_95 (fun H locs hP hD hS => ?_)
  rw [va_cpy_same] at hP hD
  have hP : va_P D vwCl [((a 100), .inr (6, [.ref (a 10), .int 0, .ref (a 101), .ref (a 102), .ref (a 103), .ref (a 104), .ref (a 105), .int 0])), ((a 101), .inl (cy 0, 8, .inl (fun _ => 0))), ((a 102), .inl (cy 0, 8, .inl (fun _ => 0))), ((a 103), .inl (cy 0, 8, .inl (fun _ => 0))), ((a 104), .inl (cy 0, 8, .inl (fun _ => 0))), ((a 105), .inl (cy 0, 4, .inl (fun _ => 0))), ((a 3), .inr (6, [.ref (a 10), .int 0, .ref (a 21), .ref (a 22), .ref (a 23), .ref (a 24), .ref (a 25), .int 0])), ((a 21), .inl (cy 0, 8, .inl (fun _ => 0))), ((a 22), .inl (cy 0, 8, .inl (fun _ => 0))), ((a 23), .inl (cy 0, 8, .inl (fun _ => 0))), ((a 24), .inl (cy 0, 8, .inl (fun _ => 0))), ((a 25), .inl (cy 0, 4, .inl (fun _ => 0)))] H := hP
  have hD : va_D A [((a 100), .inr (6, [.ref (a 10), .int 0, .ref (a 101), .ref (a 102), .ref (a 103), .ref (a 104), .ref (a 105), .int 0])), ((a 101), .inl (cy 0, 8, .inl (fun _ => 0))), ((a 102), .inl (cy 0, 8, .inl (fun _ => 0))), ((a 103), .inl (cy 0, 8, .inl (fun _ => 0))), ((a 104), .inl (cy 0, 8, .inl (fun _ => 0))), ((a 105), .inl (cy 0, 4, .inl (fun _ => 0))), ((a 3), .inr (6, [.ref (a 10), .int 0, .ref (a 21), .ref (a 22), .ref (a 23), .ref (a 24), .ref (a 25), .int 0])), ((a 21), .inl (cy 0, 8, .inl (fun _ => 0))), ((a 22), .inl (cy 0, 8, .inl (fun _ => 0))), ((a 23), .inl (cy 0, 8, .inl (fun _ => 0))), ((a 24), .inl (cy 0, 8, .inl (fun _ => 0))), ((a 25), .inl (cy 0, 4, .inl (fun _ => 0)))] := hD
  exact rV hX hE hP hD hS dX6_copyFrom_98 (by decide) (by decide) (rfl)
set_option maxHeartbeats 4000000 in
set_option maxRecDepth 100000 in
theorem au_X2_keep_14 (l : Launch) (D : va_G) (cy : Nat → ClassId) (a : Nat → Nat) : Cv l yX2_keep cX2_keep 2 none { frames := 2, cells := 0, slots := 0, locals := 81 } D cy [.ref (a 4), .ref (a 3)] [((a 4), .inr (2, [.ref (a 70), .int 0, .int 0])), ((a 70), .inl (cy 4, 10, .inr (.inr (.inr (.inr (va_up (va_up (va_up (va_up (va_up (va_up (va_up (va_up (va_up (va_up (fun _ => none) (0 : Int32).toNatClampNeg (some (a 100))) (1 : Int32).toNatClampNeg (some (a 110))) (2 : Int32).toNatClampNeg (some (a 120))) (3 : Int32).toNatClampNeg (some (a 130))) (4 : Int32).toNatClampNeg (some (a 140))) (5 : Int32).toNatClampNeg (some (a 150))) (6 : Int32).toNatClampNeg (some (a 160))) (7 : Int32).toNatClampNeg (some (a 170))) (8 : Int32).toNatClampNeg (some (a 180))) (9 : Int32).toNatClampNeg (some (a 190)))))))), ((a 100), .inr (6, [.ref (a 10), .int 0, .ref (a 101), .ref (a 102), .ref (a 103), .ref (a 104), .ref (a 105), .int 0])), ((a 101), .inl (cy 0, 8, .inl (fun _ => 0))), ((a 102), .inl (cy 0, 8, .inl (fun _ => 0))), ((a 103), .inl (cy 0, 8, .inl (fun _ => 0))), ((a 104), .inl (cy 0, 8, .inl (fun _ => 0))), ((a 105), .inl (cy 0, 4, .inl (fun _ => 0))), ((a 3), .inr (6, [.ref (a 10), .int 0, .ref (a 21), .ref (a 22), .ref (a 23), .ref (a 24), .ref (a 25), .int 0])), ((a 21), .inl (cy 0, 8, .inl (fun _ => 0))), ((a 22), .inl (cy 0, 8, .inl (fun _ => 0))), ((a 23), .inl (cy 0, 8, .inl (fun _ => 0))), ((a 24), .inl (cy 0, 8, .inl (fun _ => 0))), ((a 25), .inl (cy 0, 4, .inl (fun _ => 0)))] (fun W1 => (W1 = [((a 4), .inr (2, [.ref (a 70), .int 0, .int 1])), ((a 70), .inl (cy 4, 10, .inr (.inr (.inr (.inr (va_up (va_up (va_up (va_up (va_up (va_up (va_up (va_up (va_up (va_up (fun _ => none) (0 : Int32).toNatClampNeg (some (a 100))) (1 : Int32).toNatClampNeg (some (a 110))) (2 : Int32).toNatClampNeg (some (a 120))) (3 : Int32).toNatClampNeg (some (a 130))) (4 : Int32).toNatClampNeg (some (a 140))) (5 : Int32).toNatClampNeg (some (a 150))) (6 : Int32).toNatClampNeg (some (a 160))) (7 : Int32).toNatClampNeg (some (a 170))) (8 : Int32).toNatClampNeg (some (a 180))) (9 : Int32).toNatClampNeg (some (a 190)))))))), ((a 100), .inr (6, [.ref (a 10), .int 0, .ref (a 101), .ref (a 102), .ref (a 103), .ref (a 104), .ref (a 105), .int 0])), ((a 101), .inl (cy 0, 8, .inl (fun _ => 0))), ((a 102), .inl (cy 0, 8, .inl (fun _ => 0))), ((a 103), .inl (cy 0, 8, .inl (fun _ => 0))), ((a 104), .inl (cy 0, 8, .inl (fun _ => 0))), ((a 105), .inl (cy 0, 4, .inl (fun _ => 0))), ((a 3), .inr (6, [.ref (a 10), .int 0, .ref (a 21), .ref (a 22), .ref (a 23), .ref (a 24), .ref (a 25), .int 0])), ((a 21), .inl (cy 0, 8, .inl (fun _ => 0))), ((a 22), .inl (cy 0, 8, .inl (fun _ => 0))), ((a 23), .inl (cy 0, 8, .inl (fun _ => 0))), ((a 24), .inl (cy 0, 8, .inl (fun _ => 0))), ((a 25), .inl (cy 0, 4, .inl (fun _ => 0)))])) := by
  refine Cv.of (by decide) (Nat.le_of_ble_eq_true rfl) ?_
  intro p e s m below meth c A ls hX hE hP hD hl hin
  obtain ⟨hx, hb, hr, hml, hown, htA, hlk⟩ := id hX
  have hK := hE.1
  have hS : va_S A s.heap s.heap [] := va_S.rf
  have hl : lv_has ls 2 [(0, .ref (a 4)), (1, .ref (a 3))] := hl
  refine lv_aload_n hx hb dX2_keep_0 rfl (lv_at hl 0 rfl) ?_
  refine va_get (ci := 2) (v := .ref (a 70)) (C := RX2) (T := TX2) (N := 3) hx hb htA in_X2 hown hK hP 0 rfl rfl 0 (by decide) (htA _ wd_248) (fun _ h => h) rfl dX2_keep_1 ?_
  refine lv_aload_n hx hb dX2_keep_4 rfl (lv_at hl 0 rfl) ?_
  refine va_get (ci := 2) (v := .int 0) (C := RX2) (T := TX2) (N := 3) hx hb htA in_X2 hown hK hP 0 rfl rfl 1 (by decide) (htA _ wd_249) (fun _ h => h) rfl dX2_keep_5 ?_
  refine lv_aload_n hx hb dX2_keep_8 rfl (lv_at hl 0 rfl) ?_
  refine va_get (ci := 2) (v := .int 0) (C := RX2) (T := TX2) (N := 3) hx hb htA in_X2 hown hK hP 0 rfl rfl 2 (by decide) (htA _ wd_250) (fun _ h => h) rfl dX2_keep_9 ?_
  refine lv_iadd hx hb dX2_keep_12 ?_
  refine lv_topi (fun x1 ex1 => ?_)
  obtain rfl : x1 = 0 := ex1.trans (by decide)
  refine lv_bipush (v := 10) hx hb dX2_keep_13 (by decide) ?_
  refine lv_irem hx hb dX2_keep_15 (by decide) ?_
  refine lv_topi (fun x2 ex2 => ?_)
  obtain rfl : x2 = 0 := ex2.trans (by decide)
  refine va_aldq hx hb hK hP 1 4 rfl rfl (in_lit (by decide)) dX2_keep_16 ?_
  refine W.eq (g2 := F0 m 17 ls [.ref (a 100)]) rfl ?_
  refine lv_aload_n hx hb dX2_keep_17 rfl (lv_at hl 1 rfl) ?_
  refine kVv (As := [.ref (a 3)]) (rest := []) (wr := [((a 4), .inr (2, [.ref (a 70), .int 0, .int 0])), ((a 70), .inl (cy 4, 10, .inr (.inr (.inr (.inr (va_up (va_up (va_up (va_up (va_up (va_up (va_up (va_up (va_up (va_up (fun _ => none) (0 : Int32).toNatClampNeg (some (a 100))) (1 : Int32).toNatClampNeg (some (a 110))) (2 : Int32).toNatClampNeg (some (a 120))) (3 : Int32).toNatClampNeg (some (a 130))) (4 : Int32).toNatClampNeg (some (a 140))) (5 : Int32).toNatClampNeg (some (a 150))) (6 : Int32).toNatClampNeg (some (a 160))) (7 : Int32).toNatClampNeg (some (a 170))) (8 : Int32).toNatClampNeg (some (a 180))) (9 : Int32).toNatClampNeg (some (a 190))))))))]) hX hE (au_X6_copyFrom_13 l D cy a) (cwVA 1 htA wd_391 wd_388 wd_6 wd_389 wd_390 (by decide +kernel) ⟨by decide, by decide⟩) hP hD hS [2, 3, 4, 5, 6, 7, 8, 9, 10, 11, 12, 13] [0, 1] rfl rfl (by decide) 0 rfl rfl rfl rfl hl.1 rfl (Nat.le_of_ble_eq_true rfl) dX2_keep_18 (by decide) (fun W1 H locs hw hP hD hS => ?_)
  refine W.widen (k := 0) (n := 0) (by decide) (by decide) ?_
  obtain rfl := hw
  have hP : va_P D vwCl [((a 4), .inr (2, [.ref (a 70), .int 0, .int 0])), ((a 70), .inl (cy 4, 10, .inr (.inr (.inr (.inr (va_up (va_up (va_up (va_up (va_up (va_up (va_up (va_up (va_up (va_up (fun _ => none) (0 : Int32).toNatClampNeg (some (a 100))) (1 : Int32).toNatClampNeg (some (a 110))) (2 : Int32).toNatClampNeg (some (a 120))) (3 : Int32).toNatClampNeg (some (a 130))) (4 : Int32).toNatClampNeg (some (a 140))) (5 : Int32).toNatClampNeg (some (a 150))) (6 : Int32).toNatClampNeg (some (a 160))) (7 : Int32).toNatClampNeg (some (a 170))) (8 : Int32).toNatClampNeg (some (a 180))) (9 : Int32).toNatClampNeg (some (a 190)))))))), ((a 100), .inr (6, [.ref (a 10), .int 0, .ref (a 101), .ref (a 102), .ref (a 103), .ref (a 104), .ref (a 105), .int 0])), ((a 101), .inl (cy 0, 8, .inl (fun _ => 0))), ((a 102), .inl (cy 0, 8, .inl (fun _ => 0))), ((a 103), .inl (cy 0, 8, .inl (fun _ => 0))), ((a 104), .inl (cy 0, 8, .inl (fun _ => 0))), ((a 105), .inl (cy 0, 4, .inl (fun _ => 0))), ((a 3), .inr (6, [.ref (a 10), .int 0, .ref (a 21), .ref (a 22), .ref (a 23), .ref (a 24), .ref (a 25), .int 0])), ((a 21), .inl (cy 0, 8, .inl (fun _ => 0))), ((a 22), .inl (cy 0, 8, .inl (fun _ => 0))), ((a 23), .inl (cy 0, 8, .inl (fun _ => 0))), ((a 24), .inl (cy 0, 8, .inl (fun _ => 0))), ((a 25), .inl (cy 0, 4, .inl (fun _ => 0)))] H := hP
  have hD : va_D A [((a 4), .inr (2, [.ref (a 70), .int 0, .int 0])), ((a 70), .inl (cy 4, 10, .inr (.inr (.inr (.inr (va_up (va_up (va_up (va_up (va_up (va_up (va_up (va_up (va_up (va_up (fun _ => none) (0 : Int32).toNatClampNeg (some (a 100))) (1 : Int32).toNatClampNeg (some (a 110))) (2 : Int32).toNatClampNeg (some (a 120))) (3 : Int32).toNatClampNeg (some (a 130))) (4 : Int32).toNatClampNeg (some (a 140))) (5 : Int32).toNatClampNeg (some (a 150))) (6 : Int32).toNatClampNeg (some (a 160))) (7 : Int32).toNatClampNeg (some (a 170))) (8 : Int32).toNatClampNeg (some (a 180))) (9 : Int32).toNatClampNeg (some (a 190)))))))), ((a 100), .inr (6, [.ref (a 10), .int 0, .ref (a 101), .ref (a 102), .ref (a 103), .ref (a 104), .ref (a 105), .int 0])), ((a 101), .inl (cy 0, 8, .inl (fun _ => 0))), ((a 102), .inl (cy 0, 8, .inl (fun _ => 0))), ((a 103), .inl (cy 0, 8, .inl (fun _ => 0))), ((a 104), .inl (cy 0, 8, .inl (fun _ => 0))), ((a 105), .inl (cy 0, 4, .inl (fun _ => 0))), ((a 3), .inr (6, [.ref (a 10), .int 0, .ref (a 21), .ref (a 22), .ref (a 23), .ref (a 24), .ref (a 25), .int 0])), ((a 21), .inl (cy 0, 8, .inl (fun _ => 0))), ((a 22), .inl (cy 0, 8, .inl (fun _ => 0))), ((a 23), .inl (cy 0, 8, .inl (fun _ => 0))), ((a 24), .inl (cy 0, 8, .inl (fun _ => 0))), ((a 25), .inl (cy 0, 4, .inl (fun _ => 0)))] := hD
  refine lv_aload_n hx hb dX2_keep_21 rfl (lv_at hl 0 rfl) ?_
  refine va_get (ci := 2) (v := .int 0) (C := RX2) (T := TX2) (N := 3) hx hb htA in_X2 hown hK hP 0 rfl rfl 2 (by decide) (htA _ wd_250) (fun _ h => h) rfl dX2_keep_22 ?_
  refine lv_bipush (v := 10) hx hb dX2_keep_25 (by decide) ?_
  refine lv_icmp_ge (tgt := 43) hx hb dX2_keep_27 (by decide) (fun q => absurd q (by decide)) (fun _ => ?_)
  refine lv_aload_n hx hb dX2_keep_30 rfl (lv_at hl 0 rfl) ?_
  refine lv_dup hx hb dX2_keep_31 rfl ?_
  refine va_get (ci := 2) (v := .int 0) (C := RX2) (T := TX2) (N := 3) hx hb htA in_X2 hown hK hP 0 rfl rfl 2 (by decide) (htA _ wd_250) (fun _ h => h) rfl dX2_keep_32 ?_
  refine lv_iconst (v := 1) hx hb dX2_keep_35 (by decide) ?_
  refine lv_iadd hx hb dX2_keep_36 ?_
  refine lv_topi (fun x3 ex3 => ?_)
  obtain rfl : x3 = 1 := ex3.trans (by decide)
  refine va_put (ci := 2) (v := .int 1) (ty := .int) (C := RX2) (T := TX2) (N := 3) hx hb htA in_X2 tyX2 tyX2_ok nmX2 hown hK hP hD hS 0 rfl rfl 2 (by decide) (htA _ wd_250) (fun _ h => h) rfl (by decide +kernel) rfl rfl (Nat.le_of_ble_eq_true rfl) dX2_keep_37 (fun H locs hP hD hS => ?_)
  have hP : va_P D vwCl [((a 4), .inr (2, [.ref (a 70), .int 0, .int 1])), ((a 70), .inl (cy 4, 10, .inr (.inr (.inr (.inr (va_up (va_up (va_up (va_up (va_up (va_up (va_up (va_up (va_up (va_up (fun _ => none) (0 : Int32).toNatClampNeg (some (a 100))) (1 : Int32).toNatClampNeg (some (a 110))) (2 : Int32).toNatClampNeg (some (a 120))) (3 : Int32).toNatClampNeg (some (a 130))) (4 : Int32).toNatClampNeg (some (a 140))) (5 : Int32).toNatClampNeg (some (a 150))) (6 : Int32).toNatClampNeg (some (a 160))) (7 : Int32).toNatClampNeg (some (a 170))) (8 : Int32).toNatClampNeg (some (a 180))) (9 : Int32).toNatClampNeg (some (a 190)))))))), ((a 100), .inr (6, [.ref (a 10), .int 0, .ref (a 101), .ref (a 102), .ref (a 103), .ref (a 104), .ref (a 105), .int 0])), ((a 101), .inl (cy 0, 8, .inl (fun _ => 0))), ((a 102), .inl (cy 0, 8, .inl (fun _ => 0))), ((a 103), .inl (cy 0, 8, .inl (fun _ => 0))), ((a 104), .inl (cy 0, 8, .inl (fun _ => 0))), ((a 105), .inl (cy 0, 4, .inl (fun _ => 0))), ((a 3), .inr (6, [.ref (a 10), .int 0, .ref (a 21), .ref (a 22), .ref (a 23), .ref (a 24), .ref (a 25), .int 0])), ((a 21), .inl (cy 0, 8, .inl (fun _ => 0))), ((a 22), .inl (cy 0, 8, .inl (fun _ => 0))), ((a 23), .inl (cy 0, 8, .inl (fun _ => 0))), ((a 24), .inl (cy 0, 8, .inl (fun _ => 0))), ((a 25), .inl (cy 0, 4, .inl (fun _ => 0)))] H := hP
  have hD : va_D A [((a 4), .inr (2, [.ref (a 70), .int 0, .int 1])), ((a 70), .inl (cy 4, 10, .inr (.inr (.inr (.inr (va_up (va_up (va_up (va_up (va_up (va_up (va_up (va_up (va_up (va_up (fun _ => none) (0 : Int32).toNatClampNeg (some (a 100))) (1 : Int32).toNatClampNeg (some (a 110))) (2 : Int32).toNatClampNeg (some (a 120))) (3 : Int32).toNatClampNeg (some (a 130))) (4 : Int32).toNatClampNeg (some (a 140))) (5 : Int32).toNatClampNeg (some (a 150))) (6 : Int32).toNatClampNeg (some (a 160))) (7 : Int32).toNatClampNeg (some (a 170))) (8 : Int32).toNatClampNeg (some (a 180))) (9 : Int32).toNatClampNeg (some (a 190)))))))), ((a 100), .inr (6, [.ref (a 10), .int 0, .ref (a 101), .ref (a 102), .ref (a 103), .ref (a 104), .ref (a 105), .int 0])), ((a 101), .inl (cy 0, 8, .inl (fun _ => 0))), ((a 102), .inl (cy 0, 8, .inl (fun _ => 0))), ((a 103), .inl (cy 0, 8, .inl (fun _ => 0))), ((a 104), .inl (cy 0, 8, .inl (fun _ => 0))), ((a 105), .inl (cy 0, 4, .inl (fun _ => 0))), ((a 3), .inr (6, [.ref (a 10), .int 0, .ref (a 21), .ref (a 22), .ref (a 23), .ref (a 24), .ref (a 25), .int 0])), ((a 21), .inl (cy 0, 8, .inl (fun _ => 0))), ((a 22), .inl (cy 0, 8, .inl (fun _ => 0))), ((a 23), .inl (cy 0, 8, .inl (fun _ => 0))), ((a 24), .inl (cy 0, 8, .inl (fun _ => 0))), ((a 25), .inl (cy 0, 4, .inl (fun _ => 0)))] := hD
  refine lv_goto (tgt := 56) hx hb dX2_keep_40 (by decide) ?_
  exact rV hX hE hP hD hS dX2_keep_56 (by decide) (by decide) (rfl)
set_option maxHeartbeats 4000000 in
set_option maxRecDepth 100000 in
theorem au_X6_dueIn_15 (l : Launch) (D : va_G) (cy : Nat → ClassId) (a : Nat → Nat) : Ci l yX6_dueIn cX6_dueIn 5 (some .int) { frames := 0, cells := 0, slots := 0, locals := 0 } D cy [.ref (a 3), .int 0, .int 2147483647] [((a 10), .inr (0, [.int 0, .int 1, .int 1, .int 0, .int 0, .ref (a 11), .ref (a 12), .ref (a 13), .null, .null])), ((a 3), .inr (6, [.ref (a 10), .int 0, .ref (a 21), .ref (a 22), .ref (a 23), .ref (a 24), .ref (a 25), .int 0]))] (fun r W1 => (W1 = [((a 10), .inr (0, [.int 0, .int 1, .int 1, .int 0, .int 0, .ref (a 11), .ref (a 12), .ref (a 13), .null, .null])), ((a 3), .inr (6, [.ref (a 10), .int 0, .ref (a 21), .ref (a 22), .ref (a 23), .ref (a 24), .ref (a 25), .int 0]))] ∧ r = 0)) := by
  refine Ci.of (by decide) (Nat.le_of_ble_eq_true rfl) ?_
  intro p e s m below meth c A ls hX hE hP hD hl
  obtain ⟨hx, hb, hr, hml, hown, htA, hlk⟩ := id hX
  have hK := hE.1
  have hS : va_S A s.heap s.heap [] := va_S.rf
  have hl : lv_has ls 5 [(0, .ref (a 3)), (1, .int 0), (2, .int 2147483647)] := hl
  refine lv_iconst (v := 0) hx hb dX6_dueIn_0 (by decide) ?_
  refine lv_istore_n (lv' := [(3, .int 0), (0, .ref (a 3)), (1, .int 0), (2, .int 2147483647)]) hx hb dX6_dueIn_1 rfl hl (by decide) rfl (fun ls hl => ?_)
  refine lv_iconst (v := 0) hx hb dX6_dueIn_2 (by decide) ?_
  refine lv_istore (lv' := [(4, .int 0), (3, .int 0), (0, .ref (a 3)), (1, .int 0), (2, .int 2147483647)]) hx hb dX6_dueIn_3 hl (by decide) rfl (fun ls hl => ?_)
  refine lv_iload hx hb dX6_dueIn_5 (lv_at hl 0 rfl) ?_
  refine lv_aload_n hx hb dX6_dueIn_7 rfl (lv_at hl 2 rfl) ?_
  refine va_get (ci := 6) (v := .ref (a 10)) (C := RX6) (T := TX6) (N := 8) hx hb htA in_X6 hown hK hP 1 rfl rfl 0 (by decide) (htA _ wd_166) (fun _ h => h) rfl dX6_dueIn_8 ?_
  refine va_get (ci := 0) (v := .int 0) (C := RX0) (T := TX0) (N := 10) hx hb htA in_X0 hown hK hP 0 rfl rfl 3 (by decide) (htA _ wd_86) (fun _ h => h) rfl dX6_dueIn_11 ?_
  refine lv_icmp_ge (tgt := 63) hx hb dX6_dueIn_14 (by decide) (fun _ => ?_) (fun q => absurd (by decide) q)
  refine lv_iload_n hx hb dX6_dueIn_63 rfl (lv_at hl 1 rfl) ?_
  exact rI hX hE hP hD hS dX6_dueIn_64 (by decide) (by decide) (⟨rfl, rfl⟩)
set_option maxHeartbeats 4000000 in
set_option maxRecDepth 100000 in
theorem au_X6_falling_16 (l : Launch) (D : va_G) (cy : Nat → ClassId) (a : Nat → Nat) : Ci l yX6_falling cX6_falling 8 (some .int) { frames := 0, cells := 0, slots := 0, locals := 0 } D cy [.ref (a 3), .int 0, .int 0] [((a 3), .inr (6, [.ref (a 10), .int 0, .ref (a 21), .ref (a 22), .ref (a 23), .ref (a 24), .ref (a 25), .int 0]))] (fun r W1 => (W1 = [((a 3), .inr (6, [.ref (a 10), .int 0, .ref (a 21), .ref (a 22), .ref (a 23), .ref (a 24), .ref (a 25), .int 0]))] ∧ r = 0)) := by
  refine Ci.of (by decide) (Nat.le_of_ble_eq_true rfl) ?_
  intro p e s m below meth c A ls hX hE hP hD hl
  obtain ⟨hx, hb, hr, hml, hown, htA, hlk⟩ := id hX
  have hK := hE.1
  have hS : va_S A s.heap s.heap [] := va_S.rf
  have hl : lv_has ls 8 [(0, .ref (a 3)), (1, .int 0), (2, .int 0)] := hl
  refine lv_iload_n hx hb dX6_falling_0 rfl (lv_at hl 2 rfl) ?_
  refine lv_istore_n (lv' := [(3, .int 0), (0, .ref (a 3)), (1, .int 0), (2, .int 0)]) hx hb dX6_falling_1 rfl hl (by decide) rfl (fun ls hl => ?_)
  refine lv_iload_n hx hb dX6_falling_2 rfl (lv_at hl 3 rfl) ?_
  refine lv_if_ne (tgt := 8) hx hb dX6_falling_3 (by decide) (fun q => absurd rfl q) (fun _ => ?_)
  refine lv_iconst (v := 0) hx hb dX6_falling_6 (by decide) ?_
  exact rI hX hE hP hD hS dX6_falling_7 (by decide) (by decide) (⟨rfl, rfl⟩)
set_option maxHeartbeats 4000000 in
set_option maxRecDepth 100000 in
theorem au_X6_lying_17 (l : Launch) (D : va_G) (cy : Nat → ClassId) (a : Nat → Nat) : Ci l yX6_lying cX6_lying 4 (some .int) { frames := 0, cells := 0, slots := 0, locals := 0 } D cy [.ref (a 3), .int 0] [((a 10), .inr (0, [.int 0, .int 1, .int 1, .int 0, .int 0, .ref (a 11), .ref (a 12), .ref (a 13), .null, .null])), ((a 3), .inr (6, [.ref (a 10), .int 0, .ref (a 21), .ref (a 22), .ref (a 23), .ref (a 24), .ref (a 25), .int 0]))] (fun r W1 => (W1 = [((a 10), .inr (0, [.int 0, .int 1, .int 1, .int 0, .int 0, .ref (a 11), .ref (a 12), .ref (a 13), .null, .null])), ((a 3), .inr (6, [.ref (a 10), .int 0, .ref (a 21), .ref (a 22), .ref (a 23), .ref (a 24), .ref (a 25), .int 0]))] ∧ r = 0)) := by
  refine Ci.of (by decide) (Nat.le_of_ble_eq_true rfl) ?_
  intro p e s m below meth c A ls hX hE hP hD hl
  obtain ⟨hx, hb, hr, hml, hown, htA, hlk⟩ := id hX
  have hK := hE.1
  have hS : va_S A s.heap s.heap [] := va_S.rf
  have hl : lv_has ls 4 [(0, .ref (a 3)), (1, .int 0)] := hl
  refine lv_iconst (v := 0) hx hb dX6_lying_0 (by decide) ?_
  refine lv_istore_n (lv' := [(2, .int 0), (0, .ref (a 3)), (1, .int 0)]) hx hb dX6_lying_1 rfl hl (by decide) rfl (fun ls hl => ?_)
  refine lv_iconst (v := 0) hx hb dX6_lying_2 (by decide) ?_
  refine lv_istore_n (lv' := [(3, .int 0), (2, .int 0), (0, .ref (a 3)), (1, .int 0)]) hx hb dX6_lying_3 rfl hl (by decide) rfl (fun ls hl => ?_)
  refine lv_iload_n hx hb dX6_lying_4 rfl (lv_at hl 0 rfl) ?_
  refine lv_aload_n hx hb dX6_lying_5 rfl (lv_at hl 2 rfl) ?_
  refine va_get (ci := 6) (v := .ref (a 10)) (C := RX6) (T := TX6) (N := 8) hx hb htA in_X6 hown hK hP 1 rfl rfl 0 (by decide) (htA _ wd_166) (fun _ h => h) rfl dX6_lying_6 ?_
  refine va_get (ci := 0) (v := .int 0) (C := RX0) (T := TX0) (N := 10) hx hb htA in_X0 hown hK hP 0 rfl rfl 3 (by decide) (htA _ wd_86) (fun _ h => h) rfl dX6_lying_9 ?_
  refine lv_icmp_ge (tgt := 44) hx hb dX6_lying_12 (by decide) (fun _ => ?_) (fun q => absurd (by decide) q)
  refine lv_iload_n hx hb dX6_lying_44 rfl (lv_at hl 1 rfl) ?_
  exact rI hX hE hP hD hS dX6_lying_45 (by decide) (by decide) (⟨rfl, rfl⟩)
set_option maxHeartbeats 4000000 in
set_option maxRecDepth 100000 in
theorem au_X6_thingAt_18 (l : Launch) (D : va_G) (cy : Nat → ClassId) (a : Nat → Nat) : Ci l yX6_thingAt cX6_thingAt 4 (some .int) { frames := 0, cells := 0, slots := 0, locals := 0 } D cy [.ref (a 3), .int 0, .int 0] [((a 10), .inr (0, [.int 0, .int 1, .int 1, .int 0, .int 0, .ref (a 11), .ref (a 12), .ref (a 13), .null, .null])), ((a 3), .inr (6, [.ref (a 10), .int 0, .ref (a 21), .ref (a 22), .ref (a 23), .ref (a 24), .ref (a 25), .int 0]))] (fun r W1 => (W1 = [((a 10), .inr (0, [.int 0, .int 1, .int 1, .int 0, .int 0, .ref (a 11), .ref (a 12), .ref (a 13), .null, .null])), ((a 3), .inr (6, [.ref (a 10), .int 0, .ref (a 21), .ref (a 22), .ref (a 23), .ref (a 24), .ref (a 25), .int 0]))] ∧ r = (-1))) := by
  refine Ci.of (by decide) (Nat.le_of_ble_eq_true rfl) ?_
  intro p e s m below meth c A ls hX hE hP hD hl
  obtain ⟨hx, hb, hr, hml, hown, htA, hlk⟩ := id hX
  have hK := hE.1
  have hS : va_S A s.heap s.heap [] := va_S.rf
  have hl : lv_has ls 4 [(0, .ref (a 3)), (1, .int 0), (2, .int 0)] := hl
  refine lv_iconst (v := 0) hx hb dX6_thingAt_0 (by decide) ?_
  refine lv_istore_n (lv' := [(3, .int 0), (0, .ref (a 3)), (1, .int 0), (2, .int 0)]) hx hb dX6_thingAt_1 rfl hl (by decide) rfl (fun ls hl => ?_)
  refine lv_iload_n hx hb dX6_thingAt_2 rfl (lv_at hl 0 rfl) ?_
  refine lv_aload_n hx hb dX6_thingAt_3 rfl (lv_at hl 1 rfl) ?_
  refine va_get (ci := 6) (v := .ref (a 10)) (C := RX6) (T := TX6) (N := 8) hx hb htA in_X6 hown hK hP 1 rfl rfl 0 (by decide) (htA _ wd_166) (fun _ h => h) rfl dX6_thingAt_4 ?_
  refine va_get (ci := 0) (v := .int 0) (C := RX0) (T := TX0) (N := 10) hx hb htA in_X0 hown hK hP 0 rfl rfl 3 (by decide) (htA _ wd_86) (fun _ h => h) rfl dX6_thingAt_7 ?_
  refine lv_icmp_ge (tgt := 50) hx hb dX6_thingAt_10 (by decide) (fun _ => ?_) (fun q => absurd (by decide) q)
  refine lv_iconst (v := (-1)) hx hb dX6_thingAt_50 (by decide) ?_
  exact rI hX hE hP hD hS dX6_thingAt_51 (by decide) (by decide) (⟨rfl, rfl⟩)
set_option maxHeartbeats 4000000 in
set_option maxRecDepth 100000 in
theorem au_X6_weightOf_19 (l : Launch) (D : va_G) (cy : Nat → ClassId) (a : Nat → Nat) : Ci l yX6_weightOf cX6_weightOf 5 (some .int) { frames := 0, cells := 0, slots := 0, locals := 0 } D cy [.ref (a 3), .int 0, .int 0] [((a 10), .inr (0, [.int 0, .int 1, .int 1, .int 0, .int 0, .ref (a 11), .ref (a 12), .ref (a 13), .null, .null])), ((a 3), .inr (6, [.ref (a 10), .int 0, .ref (a 21), .ref (a 22), .ref (a 23), .ref (a 24), .ref (a 25), .int 0]))] (fun r W1 => (W1 = [((a 10), .inr (0, [.int 0, .int 1, .int 1, .int 0, .int 0, .ref (a 11), .ref (a 12), .ref (a 13), .null, .null])), ((a 3), .inr (6, [.ref (a 10), .int 0, .ref (a 21), .ref (a 22), .ref (a 23), .ref (a 24), .ref (a 25), .int 0]))] ∧ r = 0)) := by
  refine Ci.of (by decide) (Nat.le_of_ble_eq_true rfl) ?_
  intro p e s m below meth c A ls hX hE hP hD hl
  obtain ⟨hx, hb, hr, hml, hown, htA, hlk⟩ := id hX
  have hK := hE.1
  have hS : va_S A s.heap s.heap [] := va_S.rf
  have hl : lv_has ls 5 [(0, .ref (a 3)), (1, .int 0), (2, .int 0)] := hl
  refine lv_iconst (v := 0) hx hb dX6_weightOf_0 (by decide) ?_
  refine lv_istore_n (lv' := [(3, .int 0), (0, .ref (a 3)), (1, .int 0), (2, .int 0)]) hx hb dX6_weightOf_1 rfl hl (by decide) rfl (fun ls hl => ?_)
  refine lv_iconst (v := 0) hx hb dX6_weightOf_2 (by decide) ?_
  refine lv_istore (lv' := [(4, .int 0), (3, .int 0), (0, .ref (a 3)), (1, .int 0), (2, .int 0)]) hx hb dX6_weightOf_3 hl (by decide) rfl (fun ls hl => ?_)
  refine lv_iload hx hb dX6_weightOf_5 (lv_at hl 0 rfl) ?_
  refine lv_aload_n hx hb dX6_weightOf_7 rfl (lv_at hl 2 rfl) ?_
  refine va_get (ci := 6) (v := .ref (a 10)) (C := RX6) (T := TX6) (N := 8) hx hb htA in_X6 hown hK hP 1 rfl rfl 0 (by decide) (htA _ wd_166) (fun _ h => h) rfl dX6_weightOf_8 ?_
  refine va_get (ci := 0) (v := .int 0) (C := RX0) (T := TX0) (N := 10) hx hb htA in_X0 hown hK hP 0 rfl rfl 3 (by decide) (htA _ wd_86) (fun _ h => h) rfl dX6_weightOf_11 ?_
  refine lv_icmp_ge (tgt := 56) hx hb dX6_weightOf_14 (by decide) (fun _ => ?_) (fun q => absurd (by decide) q)
  refine lv_iload_n hx hb dX6_weightOf_56 rfl (lv_at hl 1 rfl) ?_
  exact rI hX hE hP hD hS dX6_weightOf_57 (by decide) (by decide) (⟨rfl, rfl⟩)
set_option maxHeartbeats 4000000 in
set_option maxRecDepth 100000 in
theorem au_X6_drop_20 (l : Launch) (D : va_G) (cy : Nat → ClassId) (a : Nat → Nat) : Cv l yX6_drop cX6_drop 7 none { frames := 1, cells := 0, slots := 0, locals := 27 } D cy [.ref (a 3), .int 0, .int 0] [((a 10), .inr (0, [.int 0, .int 1, .int 1, .int 0, .int 0, .ref (a 11), .ref (a 12), .ref (a 13), .null, .null])), ((a 3), .inr (6, [.ref (a 10), .int 0, .ref (a 21), .ref (a 22), .ref (a 23), .ref (a 24), .ref (a 25), .int 0]))] (fun W1 => (W1 = [((a 10), .inr (0, [.int 0, .int 1, .int 1, .int 0, .int 0, .ref (a 11), .ref (a 12), .ref (a 13), .null, .null])), ((a 3), .inr (6, [.ref (a 10), .int 0, .ref (a 21), .ref (a 22), .ref (a 23), .ref (a 24), .ref (a 25), .int 0]))])) := by
  refine Cv.of (by decide) (Nat.le_of_ble_eq_true rfl) ?_
  intro p e s m below meth c A ls hX hE hP hD hl hin
  obtain ⟨hx, hb, hr, hml, hown, htA, hlk⟩ := id hX
  have hK := hE.1
  have hS : va_S A s.heap s.heap [] := va_S.rf
  have hl : lv_has ls 7 [(0, .ref (a 3)), (1, .int 0), (2, .int 0)] := hl
  refine lv_aload_n hx hb dX6_drop_0 rfl (lv_at hl 0 rfl) ?_
  refine lv_iload_n hx hb dX6_drop_1 rfl (lv_at hl 1 rfl) ?_
  refine lv_iload_n hx hb dX6_drop_2 rfl (lv_at hl 2 rfl) ?_
  refine kVi (As := [.int 0, .int 0]) (rest := []) (wr := [((a 10), .inr (0, [.int 0, .int 1, .int 1, .int 0, .int 0, .ref (a 11), .ref (a 12), .ref (a 13), .null, .null]))]) hX hE (au_X6_falling_16 l D cy a) (cwVA 2 htA wd_435 wd_432 wd_6 wd_433 wd_434 (by decide +kernel) ⟨by decide, by decide⟩) hP hD hS [1] [0] rfl rfl (by decide) 0 rfl rfl rfl rfl hl.1 rfl (Nat.le_of_ble_eq_true rfl) dX6_drop_3 (by decide) (fun r_ W1 H locs hw hP hD hS => ?_)
  refine W.widen (k := 0) (n := 0) (by decide) (by decide) ?_
  obtain ⟨rfl, rfl⟩ := hw
  have hP : va_P D vwCl [((a 10), .inr (0, [.int 0, .int 1, .int 1, .int 0, .int 0, .ref (a 11), .ref (a 12), .ref (a 13), .null, .null])), ((a 3), .inr (6, [.ref (a 10), .int 0, .ref (a 21), .ref (a 22), .ref (a 23), .ref (a 24), .ref (a 25), .int 0]))] H := hP
  have hD : va_D A [((a 10), .inr (0, [.int 0, .int 1, .int 1, .int 0, .int 0, .ref (a 11), .ref (a 12), .ref (a 13), .null, .null])), ((a 3), .inr (6, [.ref (a 10), .int 0, .ref (a 21), .ref (a 22), .ref (a 23), .ref (a 24), .ref (a 25), .int 0]))] := hD
  refine lv_istore_n (lv' := [(3, .int 0), (0, .ref (a 3)), (1, .int 0), (2, .int 0)]) hx hb dX6_drop_6 rfl hl (by decide) rfl (fun ls hl => ?_)
  refine lv_aload_n hx hb dX6_drop_7 rfl (lv_at hl 1 rfl) ?_
  refine lv_iload_n hx hb dX6_drop_8 rfl (lv_at hl 2 rfl) ?_
  refine kVi (As := [.int 0]) (rest := []) (wr := []) hX hE (au_X6_lying_17 l D cy a) (cwVA 1 htA wd_379 wd_376 wd_6 wd_377 wd_378 (by decide +kernel) ⟨by decide, by decide⟩) hP hD hS [0, 1] [] rfl rfl (by decide) 1 rfl rfl rfl rfl hl.1 rfl (Nat.le_of_ble_eq_true rfl) dX6_drop_9 (by decide) (fun r_ W1 H locs hw hP hD hS => ?_)
  refine W.widen (k := 0) (n := 0) (by decide) (by decide) ?_
  obtain ⟨rfl, rfl⟩ := hw
  have hP : va_P D vwCl [((a 10), .inr (0, [.int 0, .int 1, .int 1, .int 0, .int 0, .ref (a 11), .ref (a 12), .ref (a 13), .null, .null])), ((a 3), .inr (6, [.ref (a 10), .int 0, .ref (a 21), .ref (a 22), .ref (a 23), .ref (a 24), .ref (a 25), .int 0]))] H := hP
  have hD : va_D A [((a 10), .inr (0, [.int 0, .int 1, .int 1, .int 0, .int 0, .ref (a 11), .ref (a 12), .ref (a 13), .null, .null])), ((a 3), .inr (6, [.ref (a 10), .int 0, .ref (a 21), .ref (a 22), .ref (a 23), .ref (a 24), .ref (a 25), .int 0]))] := hD
  refine lv_istore (lv' := [(4, .int 0), (3, .int 0), (0, .ref (a 3)), (1, .int 0), (2, .int 0)]) hx hb dX6_drop_12 hl (by decide) rfl (fun ls hl => ?_)
  refine lv_iconst (v := 0) hx hb dX6_drop_14 (by decide) ?_
  refine lv_istore (lv' := [(5, .int 0), (4, .int 0), (3, .int 0), (0, .ref (a 3)), (1, .int 0), (2, .int 0)]) hx hb dX6_drop_15 hl (by decide) rfl (fun ls hl => ?_)
  refine lv_iload hx hb dX6_drop_17 (lv_at hl 0 rfl) ?_
  refine lv_aload_n hx hb dX6_drop_19 rfl (lv_at hl 3 rfl) ?_
  refine va_get (ci := 6) (v := .ref (a 10)) (C := RX6) (T := TX6) (N := 8) hx hb htA in_X6 hown hK hP 1 rfl rfl 0 (by decide) (htA _ wd_166) (fun _ h => h) rfl dX6_drop_20 ?_
  refine va_get (ci := 0) (v := .int 1) (C := RX0) (T := TX0) (N := 10) hx hb htA in_X0 hown hK hP 0 rfl rfl 2 (by decide) (htA _ wd_84) (fun _ h => h) rfl dX6_drop_23 ?_
  refine lv_icmp_ge (tgt := 89) hx hb dX6_drop_26 (by decide) (fun q => absurd q (by decide)) (fun _ => ?_)
  refine lv_aload_n hx hb dX6_drop_29 rfl (lv_at hl 3 rfl) ?_
  refine lv_iload_n hx hb dX6_drop_30 rfl (lv_at hl 4 rfl) ?_
  refine lv_iload hx hb dX6_drop_31 (lv_at hl 0 rfl) ?_
  refine kVi (As := [.int 0, .int 0]) (rest := []) (wr := []) hX hE (au_X6_thingAt_18 l D cy a) (cwVA 2 htA wd_383 wd_380 wd_6 wd_381 wd_382 (by decide +kernel) ⟨by decide, by decide⟩) hP hD hS [0, 1] [] rfl rfl (by decide) 1 rfl rfl rfl rfl hl.1 rfl (Nat.le_of_ble_eq_true rfl) dX6_drop_33 (by decide) (fun r_ W1 H locs hw hP hD hS => ?_)
  refine W.widen (k := 0) (n := 0) (by decide) (by decide) ?_
  obtain ⟨rfl, rfl⟩ := hw
  have hP : va_P D vwCl [((a 10), .inr (0, [.int 0, .int 1, .int 1, .int 0, .int 0, .ref (a 11), .ref (a 12), .ref (a 13), .null, .null])), ((a 3), .inr (6, [.ref (a 10), .int 0, .ref (a 21), .ref (a 22), .ref (a 23), .ref (a 24), .ref (a 25), .int 0]))] H := hP
  have hD : va_D A [((a 10), .inr (0, [.int 0, .int 1, .int 1, .int 0, .int 0, .ref (a 11), .ref (a 12), .ref (a 13), .null, .null])), ((a 3), .inr (6, [.ref (a 10), .int 0, .ref (a 21), .ref (a 22), .ref (a 23), .ref (a 24), .ref (a 25), .int 0]))] := hD
  refine lv_istore (lv' := [(6, .int (-1)), (5, .int 0), (4, .int 0), (3, .int 0), (0, .ref (a 3)), (1, .int 0), (2, .int 0)]) hx hb dX6_drop_36 hl (by decide) rfl (fun ls hl => ?_)
  refine lv_iload hx hb dX6_drop_38 (lv_at hl 0 rfl) ?_
  refine lv_if_lt (tgt := 83) hx hb dX6_drop_40 (by decide) (fun _ => ?_) (fun q => absurd (by decide) q)
  refine lv_iinc (v := 1) (lv' := [(5, .int 1), (6, .int (-1)), (4, .int 0), (3, .int 0), (0, .ref (a 3)), (1, .int 0), (2, .int 0)]) hx hb dX6_drop_83 hl (k := 1) rfl (by decide) (by decide) rfl (fun ls hl => ?_)
  refine lv_goto (tgt := 17) hx hb dX6_drop_86 (by decide) ?_
  refine lv_iload hx hb dX6_drop_17 (lv_at hl 0 rfl) ?_
  refine lv_aload_n hx hb dX6_drop_19 rfl (lv_at hl 4 rfl) ?_
  refine va_get (ci := 6) (v := .ref (a 10)) (C := RX6) (T := TX6) (N := 8) hx hb htA in_X6 hown hK hP 1 rfl rfl 0 (by decide) (htA _ wd_166) (fun _ h => h) rfl dX6_drop_20 ?_
  refine va_get (ci := 0) (v := .int 1) (C := RX0) (T := TX0) (N := 10) hx hb htA in_X0 hown hK hP 0 rfl rfl 2 (by decide) (htA _ wd_84) (fun _ h => h) rfl dX6_drop_23 ?_
  refine lv_icmp_ge (tgt := 89) hx hb dX6_drop_26 (by decide) (fun _ => ?_) (fun q => absurd (by decide) q)
  refine lv_aload_n hx hb dX6_drop_89 rfl (lv_at hl 4 rfl) ?_
  refine lv_iload_n hx hb dX6_drop_90 rfl (lv_at hl 3 rfl) ?_
  refine lv_iload_n hx hb dX6_drop_91 rfl (lv_at hl 5 rfl) ?_
  refine kVi (As := [.int 0, .int 0]) (rest := []) (wr := []) hX hE (au_X6_weightOf_19 l D cy a) (cwVA 2 htA wd_451 wd_448 wd_6 wd_449 wd_450 (by decide +kernel) ⟨by decide, by decide⟩) hP hD hS [0, 1] [] rfl rfl (by decide) 1 rfl rfl rfl rfl hl.1 rfl (Nat.le_of_ble_eq_true rfl) dX6_drop_92 (by decide) (fun r_ W1 H locs hw hP hD hS => ?_)
  refine W.widen (k := 0) (n := 0) (by decide) (by decide) ?_
  obtain ⟨rfl, rfl⟩ := hw
  have hP : va_P D vwCl [((a 10), .inr (0, [.int 0, .int 1, .int 1, .int 0, .int 0, .ref (a 11), .ref (a 12), .ref (a 13), .null, .null])), ((a 3), .inr (6, [.ref (a 10), .int 0, .ref (a 21), .ref (a 22), .ref (a 23), .ref (a 24), .ref (a 25), .int 0]))] H := hP
  have hD : va_D A [((a 10), .inr (0, [.int 0, .int 1, .int 1, .int 0, .int 0, .ref (a 11), .ref (a 12), .ref (a 13), .null, .null])), ((a 3), .inr (6, [.ref (a 10), .int 0, .ref (a 21), .ref (a 22), .ref (a 23), .ref (a 24), .ref (a 25), .int 0]))] := hD
  refine lv_istore (lv' := [(5, .int 0), (6, .int (-1)), (4, .int 0), (3, .int 0), (0, .ref (a 3)), (1, .int 0), (2, .int 0)]) hx hb dX6_drop_95 hl (by decide) rfl (fun ls hl => ?_)
  refine lv_iconst (v := 0) hx hb dX6_drop_97 (by decide) ?_
  refine lv_istore (lv' := [(6, .int 0), (5, .int 0), (4, .int 0), (3, .int 0), (0, .ref (a 3)), (1, .int 0), (2, .int 0)]) hx hb dX6_drop_98 hl (by decide) rfl (fun ls hl => ?_)
  refine lv_iload hx hb dX6_drop_100 (lv_at hl 0 rfl) ?_
  refine lv_aload_n hx hb dX6_drop_102 rfl (lv_at hl 4 rfl) ?_
  refine va_get (ci := 6) (v := .ref (a 10)) (C := RX6) (T := TX6) (N := 8) hx hb htA in_X6 hown hK hP 1 rfl rfl 0 (by decide) (htA _ wd_166) (fun _ h => h) rfl dX6_drop_103 ?_
  refine va_get (ci := 0) (v := .int 0) (C := RX0) (T := TX0) (N := 10) hx hb htA in_X0 hown hK hP 0 rfl rfl 4 (by decide) (htA _ wd_90) (fun _ h => h) rfl dX6_drop_106 ?_
  refine lv_icmp_ge (tgt := 147) hx hb dX6_drop_109 (by decide) (fun _ => ?_) (fun q => absurd (by decide) q)
  refine lv_aload_n hx hb dX6_drop_147 rfl (lv_at hl 4 rfl) ?_
  refine lv_dup hx hb dX6_drop_148 rfl ?_
  refine va_get (ci := 6) (v := .int 0) (C := RX6) (T := TX6) (N := 8) hx hb htA in_X6 hown hK hP 1 rfl rfl 7 (by decide) (htA _ wd_189) (fun _ h => h) rfl dX6_drop_149 ?_
  refine lv_iload_n hx hb dX6_drop_152 rfl (lv_at hl 3 rfl) ?_
  refine lv_ior hx hb dX6_drop_153 ?_
  refine lv_topi (fun x1 ex1 => ?_)
  obtain rfl : x1 = 0 := ex1.trans (by decide)
  refine va_put (ci := 6) (v := .int 0) (ty := .int) (C := RX6) (T := TX6) (N := 8) hx hb htA in_X6 tyX6 tyX6_ok nmX6 hown hK hP hD hS 1 rfl rfl 7 (by decide) (htA _ wd_189) (fun _ h => h) rfl (by decide +kernel) rfl rfl (Nat.le_of_ble_eq_true rfl) dX6_drop_154 (fun H locs hP hD hS => ?_)
  have hP : va_P D vwCl [((a 10), .inr (0, [.int 0, .int 1, .int 1, .int 0, .int 0, .ref (a 11), .ref (a 12), .ref (a 13), .null, .null])), ((a 3), .inr (6, [.ref (a 10), .int 0, .ref (a 21), .ref (a 22), .ref (a 23), .ref (a 24), .ref (a 25), .int 0]))] H := hP
  have hD : va_D A [((a 10), .inr (0, [.int 0, .int 1, .int 1, .int 0, .int 0, .ref (a 11), .ref (a 12), .ref (a 13), .null, .null])), ((a 3), .inr (6, [.ref (a 10), .int 0, .ref (a 21), .ref (a 22), .ref (a 23), .ref (a 24), .ref (a 25), .int 0]))] := hD
  exact rV hX hE hP hD hS dX6_drop_157 (by decide) (by decide) (rfl)
set_option maxHeartbeats 4000000 in
set_option maxRecDepth 100000 in
theorem au_J6_bitCount_0f7a4_21 (l : Launch) (D : va_G) (cy : Nat → ClassId) (a : Nat → Nat) : Ci l yJ6_bitCount_0f7a4 cJ6_bitCount_0f7a4 1 (some .int) { frames := 0, cells := 0, slots := 0, locals := 0 } D cy [.int 0] [] (fun r W1 => (W1 = [] ∧ r = 0)) := by
  refine Ci.of (by decide) (Nat.le_of_ble_eq_true rfl) ?_
  intro p e s m below meth c A ls hX hE hP hD hl
  obtain ⟨hx, hb, hr, hml, hown, htA, hlk⟩ := id hX
  have hK := hE.1
  have hS : va_S A s.heap s.heap [] := va_S.rf
  have hl : lv_has ls 1 [(0, .int 0)] := hl
  refine lv_iload_n hx hb dJ6_bitCount_0f7a4_0 rfl (lv_at hl 0 rfl) ?_
  refine lv_iload_n hx hb dJ6_bitCount_0f7a4_1 rfl (lv_at hl 0 rfl) ?_
  refine lv_iconst (v := 1) hx hb dJ6_bitCount_0f7a4_2 (by decide) ?_
  refine lv_iushr hx hb dJ6_bitCount_0f7a4_3 rfl ?_
  refine lv_topi (fun x1 ex1 => ?_)
  obtain rfl : x1 = 0 := ex1.trans (by decide)
  refine lv_ldcw hx hb hown (htA _ wd_439) dJ6_bitCount_0f7a4_4 ?_
  refine lv_iand hx hb dJ6_bitCount_0f7a4_7 ?_
  refine lv_topi (fun x2 ex2 => ?_)
  obtain rfl : x2 = 0 := ex2.trans (by decide)
  refine lv_isub hx hb dJ6_bitCount_0f7a4_8 ?_
  refine lv_topi (fun x3 ex3 => ?_)
  obtain rfl : x3 = 0 := ex3.trans (by decide)
  refine lv_istore_n (lv' := [(0, .int 0)]) hx hb dJ6_bitCount_0f7a4_9 rfl hl (by decide) rfl (fun ls hl => ?_)
  refine lv_iload_n hx hb dJ6_bitCount_0f7a4_10 rfl (lv_at hl 0 rfl) ?_
  refine lv_ldcw hx hb hown (htA _ wd_440) dJ6_bitCount_0f7a4_11 ?_
  refine lv_iand hx hb dJ6_bitCount_0f7a4_14 ?_
  refine lv_topi (fun x4 ex4 => ?_)
  obtain rfl : x4 = 0 := ex4.trans (by decide)
  refine lv_iload_n hx hb dJ6_bitCount_0f7a4_15 rfl (lv_at hl 0 rfl) ?_
  refine lv_iconst (v := 2) hx hb dJ6_bitCount_0f7a4_16 (by decide) ?_
  refine lv_iushr hx hb dJ6_bitCount_0f7a4_17 rfl ?_
  refine lv_topi (fun x5 ex5 => ?_)
  obtain rfl : x5 = 0 := ex5.trans (by decide)
  refine lv_ldcw hx hb hown (htA _ wd_440) dJ6_bitCount_0f7a4_18 ?_
  refine lv_iand hx hb dJ6_bitCount_0f7a4_21 ?_
  refine lv_topi (fun x6 ex6 => ?_)
  obtain rfl : x6 = 0 := ex6.trans (by decide)
  refine lv_iadd hx hb dJ6_bitCount_0f7a4_22 ?_
  refine lv_topi (fun x7 ex7 => ?_)
  obtain rfl : x7 = 0 := ex7.trans (by decide)
  refine lv_istore_n (lv' := [(0, .int 0)]) hx hb dJ6_bitCount_0f7a4_23 rfl hl (by decide) rfl (fun ls hl => ?_)
  refine lv_iload_n hx hb dJ6_bitCount_0f7a4_24 rfl (lv_at hl 0 rfl) ?_
  refine lv_iload_n hx hb dJ6_bitCount_0f7a4_25 rfl (lv_at hl 0 rfl) ?_
  refine lv_iconst (v := 4) hx hb dJ6_bitCount_0f7a4_26 (by decide) ?_
  refine lv_iushr hx hb dJ6_bitCount_0f7a4_27 rfl ?_
  refine lv_topi (fun x8 ex8 => ?_)
  obtain rfl : x8 = 0 := ex8.trans (by decide)
  refine lv_iadd hx hb dJ6_bitCount_0f7a4_28 ?_
  refine lv_topi (fun x9 ex9 => ?_)
  obtain rfl : x9 = 0 := ex9.trans (by decide)
  refine lv_ldcw hx hb hown (htA _ wd_441) dJ6_bitCount_0f7a4_29 ?_
  refine lv_iand hx hb dJ6_bitCount_0f7a4_32 ?_
  refine lv_topi (fun x10 ex10 => ?_)
  obtain rfl : x10 = 0 := ex10.trans (by decide)
  refine lv_istore_n (lv' := [(0, .int 0)]) hx hb dJ6_bitCount_0f7a4_33 rfl hl (by decide) rfl (fun ls hl => ?_)
  refine lv_iload_n hx hb dJ6_bitCount_0f7a4_34 rfl (lv_at hl 0 rfl) ?_
  refine lv_iload_n hx hb dJ6_bitCount_0f7a4_35 rfl (lv_at hl 0 rfl) ?_
  refine lv_bipush (v := 8) hx hb dJ6_bitCount_0f7a4_36 (by decide) ?_
  refine lv_iushr hx hb dJ6_bitCount_0f7a4_38 rfl ?_
  refine lv_topi (fun x11 ex11 => ?_)
  obtain rfl : x11 = 0 := ex11.trans (by decide)
  refine lv_iadd hx hb dJ6_bitCount_0f7a4_39 ?_
  refine lv_topi (fun x12 ex12 => ?_)
  obtain rfl : x12 = 0 := ex12.trans (by decide)
  refine lv_istore_n (lv' := [(0, .int 0)]) hx hb dJ6_bitCount_0f7a4_40 rfl hl (by decide) rfl (fun ls hl => ?_)
  refine lv_iload_n hx hb dJ6_bitCount_0f7a4_41 rfl (lv_at hl 0 rfl) ?_
  refine lv_iload_n hx hb dJ6_bitCount_0f7a4_42 rfl (lv_at hl 0 rfl) ?_
  refine lv_bipush (v := 16) hx hb dJ6_bitCount_0f7a4_43 (by decide) ?_
  refine lv_iushr hx hb dJ6_bitCount_0f7a4_45 rfl ?_
  refine lv_topi (fun x13 ex13 => ?_)
  obtain rfl : x13 = 0 := ex13.trans (by decide)
  refine lv_iadd hx hb dJ6_bitCount_0f7a4_46 ?_
  refine lv_topi (fun x14 ex14 => ?_)
  obtain rfl : x14 = 0 := ex14.trans (by decide)
  refine lv_istore_n (lv' := [(0, .int 0)]) hx hb dJ6_bitCount_0f7a4_47 rfl hl (by decide) rfl (fun ls hl => ?_)
  refine lv_iload_n hx hb dJ6_bitCount_0f7a4_48 rfl (lv_at hl 0 rfl) ?_
  refine lv_bipush (v := 63) hx hb dJ6_bitCount_0f7a4_49 (by decide) ?_
  refine lv_iand hx hb dJ6_bitCount_0f7a4_51 ?_
  refine lv_topi (fun x15 ex15 => ?_)
  obtain rfl : x15 = 0 := ex15.trans (by decide)
  exact rI hX hE hP hD hS dJ6_bitCount_0f7a4_52 (by decide) (by decide) (⟨rfl, rfl⟩)
set_option maxHeartbeats 4000000 in
set_option maxRecDepth 100000 in
theorem au_X6_shake_22 (l : Launch) (D : va_G) (cy : Nat → ClassId) (a : Nat → Nat) : Ci l yX6_shake cX6_shake 2 (some .int) { frames := 2, cells := 0, slots := 0, locals := 53 } D cy [.ref (a 3)] [((a 10), .inr (0, [.int 0, .int 1, .int 1, .int 0, .int 0, .ref (a 11), .ref (a 12), .ref (a 13), .null, .null])), ((a 3), .inr (6, [.ref (a 10), .int 0, .ref (a 21), .ref (a 22), .ref (a 23), .ref (a 24), .ref (a 25), .int 0]))] (fun r W1 => (W1 = [((a 10), .inr (0, [.int 0, .int 1, .int 1, .int 0, .int 0, .ref (a 11), .ref (a 12), .ref (a 13), .null, .null])), ((a 3), .inr (6, [.ref (a 10), .int 0, .ref (a 21), .ref (a 22), .ref (a 23), .ref (a 24), .ref (a 25), .int 0]))] ∧ r = 0)) := by
  refine Ci.of (by decide) (Nat.le_of_ble_eq_true rfl) ?_
  intro p e s m below meth c A ls hX hE hP hD hl
  obtain ⟨hx, hb, hr, hml, hown, htA, hlk⟩ := id hX
  have hK := hE.1
  have hS : va_S A s.heap s.heap [] := va_S.rf
  have hl : lv_has ls 2 [(0, .ref (a 3))] := hl
  refine lv_aload_n hx hb dX6_shake_0 rfl (lv_at hl 0 rfl) ?_
  refine lv_iconst (v := 0) hx hb dX6_shake_1 (by decide) ?_
  refine va_put (ci := 6) (v := .int 0) (ty := .int) (C := RX6) (T := TX6) (N := 8) hx hb htA in_X6 tyX6 tyX6_ok nmX6 hown hK hP hD hS 1 rfl rfl 7 (by decide) (htA _ wd_189) (fun _ h => h) rfl (by decide +kernel) rfl rfl (Nat.le_of_ble_eq_true rfl) dX6_shake_2 (fun H locs hP hD hS => ?_)
  have hP : va_P D vwCl [((a 10), .inr (0, [.int 0, .int 1, .int 1, .int 0, .int 0, .ref (a 11), .ref (a 12), .ref (a 13), .null, .null])), ((a 3), .inr (6, [.ref (a 10), .int 0, .ref (a 21), .ref (a 22), .ref (a 23), .ref (a 24), .ref (a 25), .int 0]))] H := hP
  have hD : va_D A [((a 10), .inr (0, [.int 0, .int 1, .int 1, .int 0, .int 0, .ref (a 11), .ref (a 12), .ref (a 13), .null, .null])), ((a 3), .inr (6, [.ref (a 10), .int 0, .ref (a 21), .ref (a 22), .ref (a 23), .ref (a 24), .ref (a 25), .int 0]))] := hD
  refine lv_iconst (v := 0) hx hb dX6_shake_5 (by decide) ?_
  refine lv_istore_n (lv' := [(1, .int 0), (0, .ref (a 3))]) hx hb dX6_shake_6 rfl hl (by decide) rfl (fun ls hl => ?_)
  refine lv_iload_n hx hb dX6_shake_7 rfl (lv_at hl 0 rfl) ?_
  refine lv_aload_n hx hb dX6_shake_8 rfl (lv_at hl 1 rfl) ?_
  refine va_get (ci := 6) (v := .ref (a 10)) (C := RX6) (T := TX6) (N := 8) hx hb htA in_X6 hown hK hP 1 rfl rfl 0 (by decide) (htA _ wd_166) (fun _ h => h) rfl dX6_shake_9 ?_
  refine va_get (ci := 0) (v := .int 1) (C := RX0) (T := TX0) (N := 10) hx hb htA in_X0 hown hK hP 0 rfl rfl 1 (by decide) (htA _ wd_81) (fun _ h => h) rfl dX6_shake_12 ?_
  refine lv_icmp_ge (tgt := 36) hx hb dX6_shake_15 (by decide) (fun q => absurd q (by decide)) (fun _ => ?_)
  refine lv_aload_n hx hb dX6_shake_18 rfl (lv_at hl 1 rfl) ?_
  refine lv_iload_n hx hb dX6_shake_19 rfl (lv_at hl 0 rfl) ?_
  refine lv_aload_n hx hb dX6_shake_20 rfl (lv_at hl 1 rfl) ?_
  refine lv_iload_n hx hb dX6_shake_21 rfl (lv_at hl 0 rfl) ?_
  refine lv_ldc hx hb hown (htA _ wd_476) dX6_shake_22 ?_
  refine kVi (As := [.int 0, .int 2147483647]) (rest := [.int 0, .ref (a 3)]) (wr := []) hX hE (au_X6_dueIn_15 l D cy a) (cwVA 2 htA wd_480 wd_477 wd_6 wd_479 wp_3 (by decide +kernel) ⟨by decide, by decide⟩) hP hD hS [0, 1] [] rfl rfl (by decide) 1 rfl rfl rfl rfl hl.1 rfl (Nat.le_of_ble_eq_true rfl) dX6_shake_24 (by decide) (fun r_ W1 H locs hw hP hD hS => ?_)
  refine W.widen (k := 0) (n := 0) (by decide) (by decide) ?_
  obtain ⟨rfl, rfl⟩ := hw
  have hP : va_P D vwCl [((a 10), .inr (0, [.int 0, .int 1, .int 1, .int 0, .int 0, .ref (a 11), .ref (a 12), .ref (a 13), .null, .null])), ((a 3), .inr (6, [.ref (a 10), .int 0, .ref (a 21), .ref (a 22), .ref (a 23), .ref (a 24), .ref (a 25), .int 0]))] H := hP
  have hD : va_D A [((a 10), .inr (0, [.int 0, .int 1, .int 1, .int 0, .int 0, .ref (a 11), .ref (a 12), .ref (a 13), .null, .null])), ((a 3), .inr (6, [.ref (a 10), .int 0, .ref (a 21), .ref (a 22), .ref (a 23), .ref (a 24), .ref (a 25), .int 0]))] := hD
  refine kVv (As := [.int 0, .int 0]) (rest := []) (wr := []) hX hE (au_X6_drop_20 l D cy a) (cwVA 2 htA wd_431 wd_428 wd_6 wd_430 wp_1 (by decide +kernel) ⟨by decide, by decide⟩) hP hD hS [0, 1] [] rfl rfl (by decide) 1 rfl rfl rfl rfl hl.1 rfl (Nat.le_of_ble_eq_true rfl) dX6_shake_27 (by decide) (fun W1 H locs hw hP hD hS => ?_)
  refine W.widen (k := 0) (n := 0) (by decide) (by decide) ?_
  obtain rfl := hw
  have hP : va_P D vwCl [((a 10), .inr (0, [.int 0, .int 1, .int 1, .int 0, .int 0, .ref (a 11), .ref (a 12), .ref (a 13), .null, .null])), ((a 3), .inr (6, [.ref (a 10), .int 0, .ref (a 21), .ref (a 22), .ref (a 23), .ref (a 24), .ref (a 25), .int 0]))] H := hP
  have hD : va_D A [((a 10), .inr (0, [.int 0, .int 1, .int 1, .int 0, .int 0, .ref (a 11), .ref (a 12), .ref (a 13), .null, .null])), ((a 3), .inr (6, [.ref (a 10), .int 0, .ref (a 21), .ref (a 22), .ref (a 23), .ref (a 24), .ref (a 25), .int 0]))] := hD
  refine lv_iinc (v := 1) (lv' := [(1, .int 1), (0, .ref (a 3))]) hx hb dX6_shake_30 hl (k := 0) rfl (by decide) (by decide) rfl (fun ls hl => ?_)
  refine lv_goto (tgt := 7) hx hb dX6_shake_33 (by decide) ?_
  refine lv_iload_n hx hb dX6_shake_7 rfl (lv_at hl 0 rfl) ?_
  refine lv_aload_n hx hb dX6_shake_8 rfl (lv_at hl 1 rfl) ?_
  refine va_get (ci := 6) (v := .ref (a 10)) (C := RX6) (T := TX6) (N := 8) hx hb htA in_X6 hown hK hP 1 rfl rfl 0 (by decide) (htA _ wd_166) (fun _ h => h) rfl dX6_shake_9 ?_
  refine va_get (ci := 0) (v := .int 1) (C := RX0) (T := TX0) (N := 10) hx hb htA in_X0 hown hK hP 0 rfl rfl 1 (by decide) (htA _ wd_81) (fun _ h => h) rfl dX6_shake_12 ?_
  refine lv_icmp_ge (tgt := 36) hx hb dX6_shake_15 (by decide) (fun _ => ?_) (fun q => absurd (by decide) q)
  refine lv_aload_n hx hb dX6_shake_36 rfl (lv_at hl 1 rfl) ?_
  refine va_get (ci := 6) (v := .int 0) (C := RX6) (T := TX6) (N := 8) hx hb htA in_X6 hown hK hP 1 rfl rfl 7 (by decide) (htA _ wd_189) (fun _ h => h) rfl dX6_shake_37 ?_
  refine kSi (As := [.int 0]) (rest := []) (wr := [((a 10), .inr (0, [.int 0, .int 1, .int 1, .int 0, .int 0, .ref (a 11), .ref (a 12), .ref (a 13), .null, .null])), ((a 3), .inr (6, [.ref (a 10), .int 0, .ref (a 21), .ref (a 22), .ref (a 23), .ref (a 24), .ref (a 25), .int 0]))]) hX hE (au_J6_bitCount_0f7a4_21 l D cy a) (cwSA 1 htA wd_438 wd_436 wd_24 wd_437 (by decide +kernel) ⟨by decide, by decide⟩) hP hD hS [] [0, 1] rfl rfl (by decide) rfl hl.1 rfl (Nat.le_of_ble_eq_true rfl) dX6_shake_40 (by decide) (fun r_ W1 H locs hw hP hD hS => ?_)
  refine W.widen (k := 0) (n := 0) (by decide) (by decide) ?_
  obtain ⟨rfl, rfl⟩ := hw
  have hP : va_P D vwCl [((a 10), .inr (0, [.int 0, .int 1, .int 1, .int 0, .int 0, .ref (a 11), .ref (a 12), .ref (a 13), .null, .null])), ((a 3), .inr (6, [.ref (a 10), .int 0, .ref (a 21), .ref (a 22), .ref (a 23), .ref (a 24), .ref (a 25), .int 0]))] H := hP
  have hD : va_D A [((a 10), .inr (0, [.int 0, .int 1, .int 1, .int 0, .int 0, .ref (a 11), .ref (a 12), .ref (a 13), .null, .null])), ((a 3), .inr (6, [.ref (a 10), .int 0, .ref (a 21), .ref (a 22), .ref (a 23), .ref (a 24), .ref (a 25), .int 0]))] := hD
  exact rI hX hE hP hD hS dX6_shake_43 (by decide) (by decide) (⟨rfl, rfl⟩)
set_option maxHeartbeats 4000000 in
set_option maxRecDepth 100000 in
theorem m_quake (l : Launch) (D : va_G) (cy : Nat → ClassId) (a : Nat → Nat) : Ci l yX10_quake cX10_quake 1 (some .int) { frames := 3, cells := 0, slots := 0, locals := 102 } D cy [.ref (a 0)] [((a 0), .inr (10, [.ref (a 1), .int 0, .int 0, .int (-1), .ref (a 2), .ref (a 3), .ref (a 4), .ref (a 5), .ref (a 6), .ref (a 7), .ref (a 8), .ref (a 9), .int 0])), ((a 4), .inr (2, [.ref (a 70), .int 0, .int 0])), ((a 70), .inl (cy 4, 10, .inr (.inr (.inr (.inr (va_up (va_up (va_up (va_up (va_up (va_up (va_up (va_up (va_up (va_up (fun _ => none) (0 : Int32).toNatClampNeg (some (a 100))) (1 : Int32).toNatClampNeg (some (a 110))) (2 : Int32).toNatClampNeg (some (a 120))) (3 : Int32).toNatClampNeg (some (a 130))) (4 : Int32).toNatClampNeg (some (a 140))) (5 : Int32).toNatClampNeg (some (a 150))) (6 : Int32).toNatClampNeg (some (a 160))) (7 : Int32).toNatClampNeg (some (a 170))) (8 : Int32).toNatClampNeg (some (a 180))) (9 : Int32).toNatClampNeg (some (a 190)))))))), ((a 100), .inr (6, [.ref (a 10), .int 0, .ref (a 101), .ref (a 102), .ref (a 103), .ref (a 104), .ref (a 105), .int 0])), ((a 101), .inl (cy 0, 8, .inl (fun _ => 0))), ((a 102), .inl (cy 0, 8, .inl (fun _ => 0))), ((a 103), .inl (cy 0, 8, .inl (fun _ => 0))), ((a 104), .inl (cy 0, 8, .inl (fun _ => 0))), ((a 105), .inl (cy 0, 4, .inl (fun _ => 0))), ((a 3), .inr (6, [.ref (a 10), .int 0, .ref (a 21), .ref (a 22), .ref (a 23), .ref (a 24), .ref (a 25), .int 0])), ((a 21), .inl (cy 0, 8, .inl (fun _ => 0))), ((a 22), .inl (cy 0, 8, .inl (fun _ => 0))), ((a 23), .inl (cy 0, 8, .inl (fun _ => 0))), ((a 24), .inl (cy 0, 8, .inl (fun _ => 0))), ((a 25), .inl (cy 0, 4, .inl (fun _ => 0))), ((a 10), .inr (0, [.int 0, .int 1, .int 1, .int 0, .int 0, .ref (a 11), .ref (a 12), .ref (a 13), .null, .null]))] (fun r _ => r = vi_quake) := by
  refine Ci.of (by decide) (Nat.le_of_ble_eq_true rfl) ?_
  intro p e s m below meth c A ls hX hE hP hD hl
  obtain ⟨hx, hb, hr, hml, hown, htA, hlk⟩ := id hX
  have hK := hE.1
  have hS : va_S A s.heap s.heap [] := va_S.rf
  have hl : lv_has ls 1 [(0, .ref (a 0))] := hl
  refine lv_aload_n hx hb dX10_quake_0 rfl (lv_at hl 0 rfl) ?_
  refine va_get (ci := 10) (v := .ref (a 4)) (C := RX10) (T := TX10) (N := 13) hx hb htA in_X10 hown hK hP 0 rfl rfl 6 (by decide) (htA _ wd_314) (fun _ h => h) rfl dX10_quake_1 ?_
  refine lv_aload_n hx hb dX10_quake_4 rfl (lv_at hl 0 rfl) ?_
  refine va_get (ci := 10) (v := .ref (a 3)) (C := RX10) (T := TX10) (N := 13) hx hb htA in_X10 hown hK hP 0 rfl rfl 5 (by decide) (htA _ wd_313) (fun _ h => h) rfl dX10_quake_5 ?_
  refine kVv (As := [.ref (a 3)]) (rest := []) (wr := [((a 0), .inr (10, [.ref (a 1), .int 0, .int 0, .int (-1), .ref (a 2), .ref (a 3), .ref (a 4), .ref (a 5), .ref (a 6), .ref (a 7), .ref (a 8), .ref (a 9), .int 0])), ((a 10), .inr (0, [.int 0, .int 1, .int 1, .int 0, .int 0, .ref (a 11), .ref (a 12), .ref (a 13), .null, .null]))]) hX hE (au_X2_keep_14 l D cy a) (cwVA 1 htA wd_387 wd_384 wd_7 wd_385 wd_386 (by decide +kernel) ⟨by decide, by decide⟩) hP hD hS [1, 2, 3, 4, 5, 6, 7, 8, 9, 10, 11, 12, 13, 14] [0, 15] rfl rfl (by decide) 0 rfl rfl rfl rfl hl.1 rfl (Nat.le_of_ble_eq_true rfl) dX10_quake_8 (by decide) (fun W1 H locs hw hP hD hS => ?_)
  refine W.widen (k := 0) (n := 0) (by decide) (by decide) ?_
  obtain rfl := hw
  have hP : va_P D vwCl [((a 0), .inr (10, [.ref (a 1), .int 0, .int 0, .int (-1), .ref (a 2), .ref (a 3), .ref (a 4), .ref (a 5), .ref (a 6), .ref (a 7), .ref (a 8), .ref (a 9), .int 0])), ((a 10), .inr (0, [.int 0, .int 1, .int 1, .int 0, .int 0, .ref (a 11), .ref (a 12), .ref (a 13), .null, .null])), ((a 4), .inr (2, [.ref (a 70), .int 0, .int 1])), ((a 70), .inl (cy 4, 10, .inr (.inr (.inr (.inr (va_up (va_up (va_up (va_up (va_up (va_up (va_up (va_up (va_up (va_up (fun _ => none) (0 : Int32).toNatClampNeg (some (a 100))) (1 : Int32).toNatClampNeg (some (a 110))) (2 : Int32).toNatClampNeg (some (a 120))) (3 : Int32).toNatClampNeg (some (a 130))) (4 : Int32).toNatClampNeg (some (a 140))) (5 : Int32).toNatClampNeg (some (a 150))) (6 : Int32).toNatClampNeg (some (a 160))) (7 : Int32).toNatClampNeg (some (a 170))) (8 : Int32).toNatClampNeg (some (a 180))) (9 : Int32).toNatClampNeg (some (a 190)))))))), ((a 100), .inr (6, [.ref (a 10), .int 0, .ref (a 101), .ref (a 102), .ref (a 103), .ref (a 104), .ref (a 105), .int 0])), ((a 101), .inl (cy 0, 8, .inl (fun _ => 0))), ((a 102), .inl (cy 0, 8, .inl (fun _ => 0))), ((a 103), .inl (cy 0, 8, .inl (fun _ => 0))), ((a 104), .inl (cy 0, 8, .inl (fun _ => 0))), ((a 105), .inl (cy 0, 4, .inl (fun _ => 0))), ((a 3), .inr (6, [.ref (a 10), .int 0, .ref (a 21), .ref (a 22), .ref (a 23), .ref (a 24), .ref (a 25), .int 0])), ((a 21), .inl (cy 0, 8, .inl (fun _ => 0))), ((a 22), .inl (cy 0, 8, .inl (fun _ => 0))), ((a 23), .inl (cy 0, 8, .inl (fun _ => 0))), ((a 24), .inl (cy 0, 8, .inl (fun _ => 0))), ((a 25), .inl (cy 0, 4, .inl (fun _ => 0)))] H := hP
  have hD : va_D A [((a 0), .inr (10, [.ref (a 1), .int 0, .int 0, .int (-1), .ref (a 2), .ref (a 3), .ref (a 4), .ref (a 5), .ref (a 6), .ref (a 7), .ref (a 8), .ref (a 9), .int 0])), ((a 10), .inr (0, [.int 0, .int 1, .int 1, .int 0, .int 0, .ref (a 11), .ref (a 12), .ref (a 13), .null, .null])), ((a 4), .inr (2, [.ref (a 70), .int 0, .int 1])), ((a 70), .inl (cy 4, 10, .inr (.inr (.inr (.inr (va_up (va_up (va_up (va_up (va_up (va_up (va_up (va_up (va_up (va_up (fun _ => none) (0 : Int32).toNatClampNeg (some (a 100))) (1 : Int32).toNatClampNeg (some (a 110))) (2 : Int32).toNatClampNeg (some (a 120))) (3 : Int32).toNatClampNeg (some (a 130))) (4 : Int32).toNatClampNeg (some (a 140))) (5 : Int32).toNatClampNeg (some (a 150))) (6 : Int32).toNatClampNeg (some (a 160))) (7 : Int32).toNatClampNeg (some (a 170))) (8 : Int32).toNatClampNeg (some (a 180))) (9 : Int32).toNatClampNeg (some (a 190)))))))), ((a 100), .inr (6, [.ref (a 10), .int 0, .ref (a 101), .ref (a 102), .ref (a 103), .ref (a 104), .ref (a 105), .int 0])), ((a 101), .inl (cy 0, 8, .inl (fun _ => 0))), ((a 102), .inl (cy 0, 8, .inl (fun _ => 0))), ((a 103), .inl (cy 0, 8, .inl (fun _ => 0))), ((a 104), .inl (cy 0, 8, .inl (fun _ => 0))), ((a 105), .inl (cy 0, 4, .inl (fun _ => 0))), ((a 3), .inr (6, [.ref (a 10), .int 0, .ref (a 21), .ref (a 22), .ref (a 23), .ref (a 24), .ref (a 25), .int 0])), ((a 21), .inl (cy 0, 8, .inl (fun _ => 0))), ((a 22), .inl (cy 0, 8, .inl (fun _ => 0))), ((a 23), .inl (cy 0, 8, .inl (fun _ => 0))), ((a 24), .inl (cy 0, 8, .inl (fun _ => 0))), ((a 25), .inl (cy 0, 4, .inl (fun _ => 0)))] := hD
  refine lv_aload_n hx hb dX10_quake_11 rfl (lv_at hl 0 rfl) ?_
  refine va_get (ci := 10) (v := .ref (a 3)) (C := RX10) (T := TX10) (N := 13) hx hb htA in_X10 hown hK hP 0 rfl rfl 5 (by decide) (htA _ wd_313) (fun _ h => h) rfl dX10_quake_12 ?_
  refine kVi (As := []) (rest := []) (wr := [((a 0), .inr (10, [.ref (a 1), .int 0, .int 0, .int (-1), .ref (a 2), .ref (a 3), .ref (a 4), .ref (a 5), .ref (a 6), .ref (a 7), .ref (a 8), .ref (a 9), .int 0])), ((a 4), .inr (2, [.ref (a 70), .int 0, .int 1])), ((a 70), .inl (cy 4, 10, .inr (.inr (.inr (.inr (va_up (va_up (va_up (va_up (va_up (va_up (va_up (va_up (va_up (va_up (fun _ => none) (0 : Int32).toNatClampNeg (some (a 100))) (1 : Int32).toNatClampNeg (some (a 110))) (2 : Int32).toNatClampNeg (some (a 120))) (3 : Int32).toNatClampNeg (some (a 130))) (4 : Int32).toNatClampNeg (some (a 140))) (5 : Int32).toNatClampNeg (some (a 150))) (6 : Int32).toNatClampNeg (some (a 160))) (7 : Int32).toNatClampNeg (some (a 170))) (8 : Int32).toNatClampNeg (some (a 180))) (9 : Int32).toNatClampNeg (some (a 190)))))))), ((a 100), .inr (6, [.ref (a 10), .int 0, .ref (a 101), .ref (a 102), .ref (a 103), .ref (a 104), .ref (a 105), .int 0])), ((a 101), .inl (cy 0, 8, .inl (fun _ => 0))), ((a 102), .inl (cy 0, 8, .inl (fun _ => 0))), ((a 103), .inl (cy 0, 8, .inl (fun _ => 0))), ((a 104), .inl (cy 0, 8, .inl (fun _ => 0))), ((a 105), .inl (cy 0, 4, .inl (fun _ => 0))), ((a 21), .inl (cy 0, 8, .inl (fun _ => 0))), ((a 22), .inl (cy 0, 8, .inl (fun _ => 0))), ((a 23), .inl (cy 0, 8, .inl (fun _ => 0))), ((a 24), .inl (cy 0, 8, .inl (fun _ => 0))), ((a 25), .inl (cy 0, 4, .inl (fun _ => 0)))]) hX hE (au_X6_shake_22 l D cy a) (cwVA 0 htA wd_475 wd_472 wd_6 wd_473 wd_474 (by decide +kernel) ⟨by decide, by decide⟩) hP hD hS [1, 10] [0, 2, 3, 4, 5, 6, 7, 8, 9, 11, 12, 13, 14, 15] rfl rfl (by decide) 1 rfl rfl rfl rfl hl.1 rfl (Nat.le_of_ble_eq_true rfl) dX10_quake_15 (by decide) (fun r_ W1 H locs hw hP hD hS => ?_)
  refine W.widen (k := 0) (n := 0) (by decide) (by decide) ?_
  obtain ⟨rfl, rfl⟩ := hw
  have hP : va_P D vwCl [((a 0), .inr (10, [.ref (a 1), .int 0, .int 0, .int (-1), .ref (a 2), .ref (a 3), .ref (a 4), .ref (a 5), .ref (a 6), .ref (a 7), .ref (a 8), .ref (a 9), .int 0])), ((a 4), .inr (2, [.ref (a 70), .int 0, .int 1])), ((a 70), .inl (cy 4, 10, .inr (.inr (.inr (.inr (va_up (va_up (va_up (va_up (va_up (va_up (va_up (va_up (va_up (va_up (fun _ => none) (0 : Int32).toNatClampNeg (some (a 100))) (1 : Int32).toNatClampNeg (some (a 110))) (2 : Int32).toNatClampNeg (some (a 120))) (3 : Int32).toNatClampNeg (some (a 130))) (4 : Int32).toNatClampNeg (some (a 140))) (5 : Int32).toNatClampNeg (some (a 150))) (6 : Int32).toNatClampNeg (some (a 160))) (7 : Int32).toNatClampNeg (some (a 170))) (8 : Int32).toNatClampNeg (some (a 180))) (9 : Int32).toNatClampNeg (some (a 190)))))))), ((a 100), .inr (6, [.ref (a 10), .int 0, .ref (a 101), .ref (a 102), .ref (a 103), .ref (a 104), .ref (a 105), .int 0])), ((a 101), .inl (cy 0, 8, .inl (fun _ => 0))), ((a 102), .inl (cy 0, 8, .inl (fun _ => 0))), ((a 103), .inl (cy 0, 8, .inl (fun _ => 0))), ((a 104), .inl (cy 0, 8, .inl (fun _ => 0))), ((a 105), .inl (cy 0, 4, .inl (fun _ => 0))), ((a 21), .inl (cy 0, 8, .inl (fun _ => 0))), ((a 22), .inl (cy 0, 8, .inl (fun _ => 0))), ((a 23), .inl (cy 0, 8, .inl (fun _ => 0))), ((a 24), .inl (cy 0, 8, .inl (fun _ => 0))), ((a 25), .inl (cy 0, 4, .inl (fun _ => 0))), ((a 10), .inr (0, [.int 0, .int 1, .int 1, .int 0, .int 0, .ref (a 11), .ref (a 12), .ref (a 13), .null, .null])), ((a 3), .inr (6, [.ref (a 10), .int 0, .ref (a 21), .ref (a 22), .ref (a 23), .ref (a 24), .ref (a 25), .int 0]))] H := hP
  have hD : va_D A [((a 0), .inr (10, [.ref (a 1), .int 0, .int 0, .int (-1), .ref (a 2), .ref (a 3), .ref (a 4), .ref (a 5), .ref (a 6), .ref (a 7), .ref (a 8), .ref (a 9), .int 0])), ((a 4), .inr (2, [.ref (a 70), .int 0, .int 1])), ((a 70), .inl (cy 4, 10, .inr (.inr (.inr (.inr (va_up (va_up (va_up (va_up (va_up (va_up (va_up (va_up (va_up (va_up (fun _ => none) (0 : Int32).toNatClampNeg (some (a 100))) (1 : Int32).toNatClampNeg (some (a 110))) (2 : Int32).toNatClampNeg (some (a 120))) (3 : Int32).toNatClampNeg (some (a 130))) (4 : Int32).toNatClampNeg (some (a 140))) (5 : Int32).toNatClampNeg (some (a 150))) (6 : Int32).toNatClampNeg (some (a 160))) (7 : Int32).toNatClampNeg (some (a 170))) (8 : Int32).toNatClampNeg (some (a 180))) (9 : Int32).toNatClampNeg (some (a 190)))))))), ((a 100), .inr (6, [.ref (a 10), .int 0, .ref (a 101), .ref (a 102), .ref (a 103), .ref (a 104), .ref (a 105), .int 0])), ((a 101), .inl (cy 0, 8, .inl (fun _ => 0))), ((a 102), .inl (cy 0, 8, .inl (fun _ => 0))), ((a 103), .inl (cy 0, 8, .inl (fun _ => 0))), ((a 104), .inl (cy 0, 8, .inl (fun _ => 0))), ((a 105), .inl (cy 0, 4, .inl (fun _ => 0))), ((a 21), .inl (cy 0, 8, .inl (fun _ => 0))), ((a 22), .inl (cy 0, 8, .inl (fun _ => 0))), ((a 23), .inl (cy 0, 8, .inl (fun _ => 0))), ((a 24), .inl (cy 0, 8, .inl (fun _ => 0))), ((a 25), .inl (cy 0, 4, .inl (fun _ => 0))), ((a 10), .inr (0, [.int 0, .int 1, .int 1, .int 0, .int 0, .ref (a 11), .ref (a 12), .ref (a 13), .null, .null])), ((a 3), .inr (6, [.ref (a 10), .int 0, .ref (a 21), .ref (a 22), .ref (a 23), .ref (a 24), .ref (a 25), .int 0]))] := hD
  exact rI hX hE hP hD hS dX10_quake_18 (by decide) (by decide) ((by first | rfl | decide | (unfold vi_quake; (repeat' split) <;> first | rfl | decide | (exfalso; omega))))
