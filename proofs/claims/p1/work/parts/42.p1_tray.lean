def kf_hours (p1 : Int32) : Int32 := if 1 ≤ p1.toInt ∧ p1.toInt ≤ 99 then 0 else 1
def vf_hours (p1 : Int32) : Int64 := 0
set_option maxHeartbeats 4000000 in
set_option maxRecDepth 100000 in
theorem au_X10_needWithin_23 (l : Launch) (hlt : l.stackTraces = false) (D : va_G) (cy : Nat → ClassId) (a : Nat → Nat) (v1_ : Int32) : Xv l yX10_needWithin cX10_needWithin 3 none { frames := 6, cells := 1, slots := 6, locals := 90 } D cy [.int v1_, .int 1, .int 99] [] (fun W1 => ((¬ v1_ < 1) ∧ (v1_ ≤ 99) ∧ W1 = [])) (fun E _ => ((v1_ < 1) ∧ E = "java/lang/IllegalArgumentException") ∨ ((¬ v1_ < 1) ∧ (¬ v1_ ≤ 99) ∧ E = "java/lang/IllegalArgumentException")) := by
  refine Xv.of (by decide) (Nat.le_of_ble_eq_true rfl) ?_
  intro p e s m below meth c A ls hX hE hP hD hl hxt
  obtain ⟨hx, hb, hr, hml, hown, htA, hlk⟩ := id hX
  have hK := hE.1
  have hS : va_S A s.heap s.heap [] := va_S.rf
  have hl : lv_has ls 3 [(0, .int v1_), (1, .int 1), (2, .int 99)] := hl
  refine lv_iload_n hx hb dX10_needWithin_0 rfl (lv_at hl 0 rfl) ?_
  refine lv_iload_n hx hb dX10_needWithin_1 rfl (lv_at hl 1 rfl) ?_
  refine lv_icmp_lt (tgt := 10) hx hb dX10_needWithin_2 (by decide) (fun c1 => ?_) (fun c1 => ?_)
  · exact k_throwS hlt hX hE hxt hP hD hS hl.1 (by decide) (htA _ wd_531) (htA _ wd_14) (xSW_in hE.2.2.2 "LateFalls" 202 "out of its bounds" (by decide)) (at_X10_87 htA hE.2.2.2) ot_X10_83_87 dX10_needWithin_10 dX10_needWithin_13 dX10_needWithin_14 dX10_needWithin_16 dX10_needWithin_19 (by decide) (by decide) (by decide) (by decide) (by decide) (by decide) (Or.inl (⟨c1, rfl⟩))
  · refine lv_iload_n hx hb dX10_needWithin_5 rfl (lv_at hl 0 rfl) ?_
    refine lv_iload_n hx hb dX10_needWithin_6 rfl (lv_at hl 2 rfl) ?_
    refine lv_icmp_le (tgt := 20) hx hb dX10_needWithin_7 (by decide) (fun c2 => ?_) (fun c2 => ?_)
    · exact vx_ret (rV hX hE hP hD hS dX10_needWithin_20 (by decide) (by decide) (⟨c1, c2, rfl⟩))
    · exact k_throwS hlt hX hE hxt hP hD hS hl.1 (by decide) (htA _ wd_531) (htA _ wd_14) (xSW_in hE.2.2.2 "LateFalls" 202 "out of its bounds" (by decide)) (at_X10_87 htA hE.2.2.2) ot_X10_83_87 dX10_needWithin_10 dX10_needWithin_13 dX10_needWithin_14 dX10_needWithin_16 dX10_needWithin_19 (by decide) (by decide) (by decide) (by decide) (by decide) (by decide) (Or.inr (⟨c1, c2, rfl⟩))
set_option maxHeartbeats 4000000 in
set_option maxRecDepth 100000 in
theorem au_X6_nextFall_24 (l : Launch) (D : va_G) (cy : Nat → ClassId) (a : Nat → Nat) (v1_ : Int32) : Ci l yX6_nextFall cX6_nextFall 4 (some .boolean) { frames := 0, cells := 0, slots := 0, locals := 0 } D cy [.ref (a 3), .int v1_] [((a 10), .inr (0, [.int 0, .int 1, .int 1, .int 0, .int 0, .ref (a 11), .ref (a 12), .ref (a 13), .null, .null])), ((a 3), .inr (6, [.ref (a 10), .int 0, .ref (a 21), .ref (a 22), .ref (a 23), .ref (a 24), .ref (a 25), .int 0]))] (fun r W1 => (W1 = [((a 10), .inr (0, [.int 0, .int 1, .int 1, .int 0, .int 0, .ref (a 11), .ref (a 12), .ref (a 13), .null, .null])), ((a 3), .inr (6, [.ref (a 10), .int 0, .ref (a 21), .ref (a 22), .ref (a 23), .ref (a 24), .ref (a 25), .int 0]))] ∧ r = 0)) := by
  refine Ci.of (by decide) (Nat.le_of_ble_eq_true rfl) ?_
  intro p e s m below meth c A ls hX hE hP hD hl
  obtain ⟨hx, hb, hr, hml, hown, htA, hlk⟩ := id hX
  have hK := hE.1
  have hS : va_S A s.heap s.heap [] := va_S.rf
  have hl : lv_has ls 4 [(0, .ref (a 3)), (1, .int v1_)] := hl
  refine lv_ldc hx hb hown (htA _ wd_476) dX6_nextFall_0 ?_
  refine lv_istore_n (lv' := [(2, .int 2147483647), (0, .ref (a 3)), (1, .int v1_)]) hx hb dX6_nextFall_2 rfl hl (by decide) rfl (fun ls hl => ?_)
  refine lv_iconst (v := 0) hx hb dX6_nextFall_3 (by decide) ?_
  refine lv_istore_n (lv' := [(3, .int 0), (2, .int 2147483647), (0, .ref (a 3)), (1, .int v1_)]) hx hb dX6_nextFall_4 rfl hl (by decide) rfl (fun ls hl => ?_)
  refine lv_iload_n hx hb dX6_nextFall_5 rfl (lv_at hl 0 rfl) ?_
  refine lv_aload_n hx hb dX6_nextFall_6 rfl (lv_at hl 2 rfl) ?_
  refine va_get (ci := 6) (v := .ref (a 10)) (C := RX6) (T := TX6) (N := 8) hx hb htA in_X6 hown hK hP 1 rfl rfl 0 (by decide) (htA _ wd_166) (fun _ h => h) rfl dX6_nextFall_7 ?_
  refine va_get (ci := 0) (v := .int 0) (C := RX0) (T := TX0) (N := 10) hx hb htA in_X0 hown hK hP 0 rfl rfl 3 (by decide) (htA _ wd_86) (fun _ h => h) rfl dX6_nextFall_10 ?_
  refine lv_icmp_ge (tgt := 43) hx hb dX6_nextFall_13 (by decide) (fun _ => ?_) (fun q => absurd (by decide) q)
  refine lv_iload_n hx hb dX6_nextFall_43 rfl (lv_at hl 1 rfl) ?_
  refine lv_ldc hx hb hown (htA _ wd_476) dX6_nextFall_44 ?_
  refine lv_icmp_eq (tgt := 54) hx hb dX6_nextFall_46 (by decide) (fun _ => ?_) (fun q => absurd (by decide) q)
  refine lv_iconst (v := 0) hx hb dX6_nextFall_54 (by decide) ?_
  exact rZ hX (by decide) hE hP hD hS dX6_nextFall_55 (by decide) (by decide) (⟨rfl, rfl⟩)
set_option maxHeartbeats 4000000 in
set_option maxRecDepth 100000 in
theorem au_X6_passTo_25 (l : Launch) (D : va_G) (cy : Nat → ClassId) (a : Nat → Nat) (v1_ : Int32) : Ci l yX6_passTo cX6_passTo 4 (some .int) { frames := 1, cells := 0, slots := 0, locals := 23 } D cy [.ref (a 3), .int v1_] [((a 10), .inr (0, [.int 0, .int 1, .int 1, .int 0, .int 0, .ref (a 11), .ref (a 12), .ref (a 13), .null, .null])), ((a 3), .inr (6, [.ref (a 10), .int 0, .ref (a 21), .ref (a 22), .ref (a 23), .ref (a 24), .ref (a 25), .int 0]))] (fun r W1 => (W1 = [((a 10), .inr (0, [.int 0, .int 1, .int 1, .int 0, .int 0, .ref (a 11), .ref (a 12), .ref (a 13), .null, .null])), ((a 3), .inr (6, [.ref (a 10), .int v1_, .ref (a 21), .ref (a 22), .ref (a 23), .ref (a 24), .ref (a 25), .int 0]))] ∧ r = 0)) := by
  refine Ci.of (by decide) (Nat.le_of_ble_eq_true rfl) ?_
  intro p e s m below meth c A ls hX hE hP hD hl
  obtain ⟨hx, hb, hr, hml, hown, htA, hlk⟩ := id hX
  have hK := hE.1
  have hS : va_S A s.heap s.heap [] := va_S.rf
  have hl : lv_has ls 4 [(0, .ref (a 3)), (1, .int v1_)] := hl
  refine lv_iconst (v := 0) hx hb dX6_passTo_0 (by decide) ?_
  refine lv_istore_n (lv' := [(2, .int 0), (0, .ref (a 3)), (1, .int v1_)]) hx hb dX6_passTo_1 rfl hl (by decide) rfl (fun ls hl => ?_)
  refine lv_iconst (v := 0) hx hb dX6_passTo_2 (by decide) ?_
  refine lv_istore_n (lv' := [(3, .int 0), (2, .int 0), (0, .ref (a 3)), (1, .int v1_)]) hx hb dX6_passTo_3 rfl hl (by decide) rfl (fun ls hl => ?_)
  refine lv_iload_n hx hb dX6_passTo_4 rfl (lv_at hl 0 rfl) ?_
  refine lv_bipush (v := 8) hx hb dX6_passTo_5 (by decide) ?_
  refine lv_icmp_ge (tgt := 37) hx hb dX6_passTo_7 (by decide) (fun q => absurd q (by decide)) (fun _ => ?_)
  refine lv_aload_n hx hb dX6_passTo_10 rfl (lv_at hl 2 rfl) ?_
  refine lv_iload_n hx hb dX6_passTo_11 rfl (lv_at hl 3 rfl) ?_
  refine kVi (As := [.int v1_]) (rest := []) (wr := []) hX hE (au_X6_nextFall_24 l D cy a v1_) (cwVA 1 htA wd_494 wd_949 wd_6 wd_492 wd_493 (by decide +kernel) ⟨by decide, by decide⟩) hP hD hS [0, 1] [] rfl rfl (by decide) 1 rfl rfl rfl rfl hl.1 rfl (Nat.le_of_ble_eq_true rfl) dX6_passTo_12 (by decide) (fun r_ W1 H locs hw hP hD hS => ?_)
  refine W.widen (k := 0) (n := 0) (by decide) (by decide) ?_
  obtain ⟨rfl, rfl⟩ := hw
  have hP : va_P D vwCl [((a 10), .inr (0, [.int 0, .int 1, .int 1, .int 0, .int 0, .ref (a 11), .ref (a 12), .ref (a 13), .null, .null])), ((a 3), .inr (6, [.ref (a 10), .int 0, .ref (a 21), .ref (a 22), .ref (a 23), .ref (a 24), .ref (a 25), .int 0]))] H := hP
  have hD : va_D A [((a 10), .inr (0, [.int 0, .int 1, .int 1, .int 0, .int 0, .ref (a 11), .ref (a 12), .ref (a 13), .null, .null])), ((a 3), .inr (6, [.ref (a 10), .int 0, .ref (a 21), .ref (a 22), .ref (a 23), .ref (a 24), .ref (a 25), .int 0]))] := hD
  refine lv_if_ne (tgt := 21) hx hb dX6_passTo_15 (by decide) (fun q => absurd rfl q) (fun _ => ?_)
  refine lv_goto (tgt := 37) hx hb dX6_passTo_18 (by decide) ?_
  refine lv_aload_n hx hb dX6_passTo_37 rfl (lv_at hl 2 rfl) ?_
  refine lv_iload_n hx hb dX6_passTo_38 rfl (lv_at hl 3 rfl) ?_
  refine va_put (ci := 6) (v := .int v1_) (ty := .int) (C := RX6) (T := TX6) (N := 8) hx hb htA in_X6 tyX6 tyX6_ok nmX6 hown hK hP hD hS 1 rfl rfl 1 (by decide) (htA _ wd_170) (fun _ h => h) rfl (by decide +kernel) rfl rfl (Nat.le_of_ble_eq_true rfl) dX6_passTo_39 (fun H locs hP hD hS => ?_)
  have hP : va_P D vwCl [((a 10), .inr (0, [.int 0, .int 1, .int 1, .int 0, .int 0, .ref (a 11), .ref (a 12), .ref (a 13), .null, .null])), ((a 3), .inr (6, [.ref (a 10), .int v1_, .ref (a 21), .ref (a 22), .ref (a 23), .ref (a 24), .ref (a 25), .int 0]))] H := hP
  have hD : va_D A [((a 10), .inr (0, [.int 0, .int 1, .int 1, .int 0, .int 0, .ref (a 11), .ref (a 12), .ref (a 13), .null, .null])), ((a 3), .inr (6, [.ref (a 10), .int v1_, .ref (a 21), .ref (a 22), .ref (a 23), .ref (a 24), .ref (a 25), .int 0]))] := hD
  refine lv_iload_n hx hb dX6_passTo_42 rfl (lv_at hl 1 rfl) ?_
  exact rI hX hE hP hD hS dX6_passTo_43 (by decide) (by decide) (⟨rfl, rfl⟩)
set_option maxHeartbeats 4000000 in
set_option maxRecDepth 100000 in
theorem m_hours (l : Launch) (hlt : l.stackTraces = false) (D : va_G) (cy : Nat → ClassId) (a : Nat → Nat) (p1 : Int32) : Xi l yX10_hours cX10_hours 2 (some .int) { frames := 7, cells := 1, slots := 6, locals := 112 } D cy [.ref (a 0), .int p1] [((a 0), .inr (10, [.ref (a 1), .int 0, .int 0, .int (-1), .ref (a 2), .ref (a 3), .ref (a 4), .ref (a 5), .ref (a 6), .ref (a 7), .ref (a 8), .ref (a 9), .int 0])), ((a 4), .inr (2, [.ref (a 70), .int 0, .int 0])), ((a 70), .inl (cy 4, 10, .inr (.inr (.inr (.inr (va_up (va_up (va_up (va_up (va_up (va_up (va_up (va_up (va_up (va_up (fun _ => none) (0 : Int32).toNatClampNeg (some (a 100))) (1 : Int32).toNatClampNeg (some (a 110))) (2 : Int32).toNatClampNeg (some (a 120))) (3 : Int32).toNatClampNeg (some (a 130))) (4 : Int32).toNatClampNeg (some (a 140))) (5 : Int32).toNatClampNeg (some (a 150))) (6 : Int32).toNatClampNeg (some (a 160))) (7 : Int32).toNatClampNeg (some (a 170))) (8 : Int32).toNatClampNeg (some (a 180))) (9 : Int32).toNatClampNeg (some (a 190)))))))), ((a 100), .inr (6, [.ref (a 10), .int 0, .ref (a 101), .ref (a 102), .ref (a 103), .ref (a 104), .ref (a 105), .int 0])), ((a 101), .inl (cy 0, 8, .inl (fun _ => 0))), ((a 102), .inl (cy 0, 8, .inl (fun _ => 0))), ((a 103), .inl (cy 0, 8, .inl (fun _ => 0))), ((a 104), .inl (cy 0, 8, .inl (fun _ => 0))), ((a 105), .inl (cy 0, 4, .inl (fun _ => 0))), ((a 3), .inr (6, [.ref (a 10), .int 0, .ref (a 21), .ref (a 22), .ref (a 23), .ref (a 24), .ref (a 25), .int 0])), ((a 21), .inl (cy 0, 8, .inl (fun _ => 0))), ((a 22), .inl (cy 0, 8, .inl (fun _ => 0))), ((a 23), .inl (cy 0, 8, .inl (fun _ => 0))), ((a 24), .inl (cy 0, 8, .inl (fun _ => 0))), ((a 25), .inl (cy 0, 4, .inl (fun _ => 0))), ((a 10), .inr (0, [.int 0, .int 1, .int 1, .int 0, .int 0, .ref (a 11), .ref (a 12), .ref (a 13), .null, .null]))] (fun r _ => kf_hours p1 = 0 ∧ r.toInt64 = vf_hours p1) (fun E _ => (E = "java/lang/IllegalArgumentException" ∧ kf_hours p1 = 1)) := by
  refine Xi.of (by decide) (Nat.le_of_ble_eq_true rfl) ?_
  intro p e s m below meth c A ls hX hE hP hD hl hxt
  obtain ⟨hx, hb, hr, hml, hown, htA, hlk⟩ := id hX
  have hK := hE.1
  have hS : va_S A s.heap s.heap [] := va_S.rf
  have hl : lv_has ls 2 [(0, .ref (a 0)), (1, .int p1)] := hl
  refine lv_iload_n hx hb dX10_hours_0 rfl (lv_at hl 1 rfl) ?_
  refine lv_iconst (v := 1) hx hb dX10_hours_1 (by decide) ?_
  refine lv_bipush (v := 99) hx hb dX10_hours_2 (by decide) ?_
  refine xSv (As := [.int p1, .int 1, .int 99]) (rest := []) (wr := [((a 0), .inr (10, [.ref (a 1), .int 0, .int 0, .int (-1), .ref (a 2), .ref (a 3), .ref (a 4), .ref (a 5), .ref (a 6), .ref (a 7), .ref (a 8), .ref (a 9), .int 0])), ((a 4), .inr (2, [.ref (a 70), .int 0, .int 0])), ((a 70), .inl (cy 4, 10, .inr (.inr (.inr (.inr (va_up (va_up (va_up (va_up (va_up (va_up (va_up (va_up (va_up (va_up (fun _ => none) (0 : Int32).toNatClampNeg (some (a 100))) (1 : Int32).toNatClampNeg (some (a 110))) (2 : Int32).toNatClampNeg (some (a 120))) (3 : Int32).toNatClampNeg (some (a 130))) (4 : Int32).toNatClampNeg (some (a 140))) (5 : Int32).toNatClampNeg (some (a 150))) (6 : Int32).toNatClampNeg (some (a 160))) (7 : Int32).toNatClampNeg (some (a 170))) (8 : Int32).toNatClampNeg (some (a 180))) (9 : Int32).toNatClampNeg (some (a 190)))))))), ((a 100), .inr (6, [.ref (a 10), .int 0, .ref (a 101), .ref (a 102), .ref (a 103), .ref (a 104), .ref (a 105), .int 0])), ((a 101), .inl (cy 0, 8, .inl (fun _ => 0))), ((a 102), .inl (cy 0, 8, .inl (fun _ => 0))), ((a 103), .inl (cy 0, 8, .inl (fun _ => 0))), ((a 104), .inl (cy 0, 8, .inl (fun _ => 0))), ((a 105), .inl (cy 0, 4, .inl (fun _ => 0))), ((a 3), .inr (6, [.ref (a 10), .int 0, .ref (a 21), .ref (a 22), .ref (a 23), .ref (a 24), .ref (a 25), .int 0])), ((a 21), .inl (cy 0, 8, .inl (fun _ => 0))), ((a 22), .inl (cy 0, 8, .inl (fun _ => 0))), ((a 23), .inl (cy 0, 8, .inl (fun _ => 0))), ((a 24), .inl (cy 0, 8, .inl (fun _ => 0))), ((a 25), .inl (cy 0, 4, .inl (fun _ => 0))), ((a 10), .inr (0, [.int 0, .int 1, .int 1, .int 0, .int 0, .ref (a 11), .ref (a 12), .ref (a 13), .null, .null]))]) hX hE (au_X10_needWithin_23 l hlt D cy a p1) (cwSA 3 htA wd_935 wd_933 wd_1 wd_934 (by decide +kernel) ⟨by decide, by decide⟩) hP hD hS [] [0, 1, 2, 3, 4, 5, 6, 7, 8, 9, 10, 11, 12, 13, 14, 15] rfl rfl (by decide) rfl hl.1 rfl (Nat.le_of_ble_eq_true rfl) dX10_hours_4 (by decide) (fun E ce q9 W1 H locs hw hP hD hS hce hcv hcl => ?_) (fun W1 H locs hw hP hD hS => ?_)
  · rcases hw with ⟨g3, rfl⟩ | ⟨g4, g5, rfl⟩
    · exact xO hX hE hxt hP hD hS hce hcv hcl (by decide) (by decide) (⟨rfl, (by have kg3 := g3; (try simp only [lg_cmp_lt, lg_cmp_le, lg_cmp_ge, lg_cmp_gt, lg_cmp_eq, fa_lt, fa_le, fa_eq, fa_lt64, fa_le64, fa_eq64, Int32.toInt_toInt64, li_1, lj_1] at kg3); first | rfl | (unfold kf_hours; (repeat' split) <;> first | rfl | (exfalso; omega)))⟩)
    · exact xO hX hE hxt hP hD hS hce hcv hcl (by decide) (by decide) (⟨rfl, (by have kg4 := g4; have kg5 := g5; (try simp only [lg_cmp_lt, lg_cmp_le, lg_cmp_ge, lg_cmp_gt, lg_cmp_eq, fa_lt, fa_le, fa_eq, fa_lt64, fa_le64, fa_eq64, Int32.toInt_toInt64, li_1, lj_1, li_99, lj_99] at kg4); (try simp only [lg_cmp_lt, lg_cmp_le, lg_cmp_ge, lg_cmp_gt, lg_cmp_eq, fa_lt, fa_le, fa_eq, fa_lt64, fa_le64, fa_eq64, Int32.toInt_toInt64, li_1, lj_1, li_99, lj_99] at kg5); first | rfl | (unfold kf_hours; (repeat' split) <;> first | rfl | (exfalso; omega)))⟩)
  · refine W.widen (k := 1) (n := 6) (by decide) (by decide) ?_
    obtain ⟨g1, g2, rfl⟩ := hw
    have hP : va_P D vwCl [((a 0), .inr (10, [.ref (a 1), .int 0, .int 0, .int (-1), .ref (a 2), .ref (a 3), .ref (a 4), .ref (a 5), .ref (a 6), .ref (a 7), .ref (a 8), .ref (a 9), .int 0])), ((a 4), .inr (2, [.ref (a 70), .int 0, .int 0])), ((a 70), .inl (cy 4, 10, .inr (.inr (.inr (.inr (va_up (va_up (va_up (va_up (va_up (va_up (va_up (va_up (va_up (va_up (fun _ => none) (0 : Int32).toNatClampNeg (some (a 100))) (1 : Int32).toNatClampNeg (some (a 110))) (2 : Int32).toNatClampNeg (some (a 120))) (3 : Int32).toNatClampNeg (some (a 130))) (4 : Int32).toNatClampNeg (some (a 140))) (5 : Int32).toNatClampNeg (some (a 150))) (6 : Int32).toNatClampNeg (some (a 160))) (7 : Int32).toNatClampNeg (some (a 170))) (8 : Int32).toNatClampNeg (some (a 180))) (9 : Int32).toNatClampNeg (some (a 190)))))))), ((a 100), .inr (6, [.ref (a 10), .int 0, .ref (a 101), .ref (a 102), .ref (a 103), .ref (a 104), .ref (a 105), .int 0])), ((a 101), .inl (cy 0, 8, .inl (fun _ => 0))), ((a 102), .inl (cy 0, 8, .inl (fun _ => 0))), ((a 103), .inl (cy 0, 8, .inl (fun _ => 0))), ((a 104), .inl (cy 0, 8, .inl (fun _ => 0))), ((a 105), .inl (cy 0, 4, .inl (fun _ => 0))), ((a 3), .inr (6, [.ref (a 10), .int 0, .ref (a 21), .ref (a 22), .ref (a 23), .ref (a 24), .ref (a 25), .int 0])), ((a 21), .inl (cy 0, 8, .inl (fun _ => 0))), ((a 22), .inl (cy 0, 8, .inl (fun _ => 0))), ((a 23), .inl (cy 0, 8, .inl (fun _ => 0))), ((a 24), .inl (cy 0, 8, .inl (fun _ => 0))), ((a 25), .inl (cy 0, 4, .inl (fun _ => 0))), ((a 10), .inr (0, [.int 0, .int 1, .int 1, .int 0, .int 0, .ref (a 11), .ref (a 12), .ref (a 13), .null, .null]))] H := hP
    have hD : va_D A [((a 0), .inr (10, [.ref (a 1), .int 0, .int 0, .int (-1), .ref (a 2), .ref (a 3), .ref (a 4), .ref (a 5), .ref (a 6), .ref (a 7), .ref (a 8), .ref (a 9), .int 0])), ((a 4), .inr (2, [.ref (a 70), .int 0, .int 0])), ((a 70), .inl (cy 4, 10, .inr (.inr (.inr (.inr (va_up (va_up (va_up (va_up (va_up (va_up (va_up (va_up (va_up (va_up (fun _ => none) (0 : Int32).toNatClampNeg (some (a 100))) (1 : Int32).toNatClampNeg (some (a 110))) (2 : Int32).toNatClampNeg (some (a 120))) (3 : Int32).toNatClampNeg (some (a 130))) (4 : Int32).toNatClampNeg (some (a 140))) (5 : Int32).toNatClampNeg (some (a 150))) (6 : Int32).toNatClampNeg (some (a 160))) (7 : Int32).toNatClampNeg (some (a 170))) (8 : Int32).toNatClampNeg (some (a 180))) (9 : Int32).toNatClampNeg (some (a 190)))))))), ((a 100), .inr (6, [.ref (a 10), .int 0, .ref (a 101), .ref (a 102), .ref (a 103), .ref (a 104), .ref (a 105), .int 0])), ((a 101), .inl (cy 0, 8, .inl (fun _ => 0))), ((a 102), .inl (cy 0, 8, .inl (fun _ => 0))), ((a 103), .inl (cy 0, 8, .inl (fun _ => 0))), ((a 104), .inl (cy 0, 8, .inl (fun _ => 0))), ((a 105), .inl (cy 0, 4, .inl (fun _ => 0))), ((a 3), .inr (6, [.ref (a 10), .int 0, .ref (a 21), .ref (a 22), .ref (a 23), .ref (a 24), .ref (a 25), .int 0])), ((a 21), .inl (cy 0, 8, .inl (fun _ => 0))), ((a 22), .inl (cy 0, 8, .inl (fun _ => 0))), ((a 23), .inl (cy 0, 8, .inl (fun _ => 0))), ((a 24), .inl (cy 0, 8, .inl (fun _ => 0))), ((a 25), .inl (cy 0, 4, .inl (fun _ => 0))), ((a 10), .inr (0, [.int 0, .int 1, .int 1, .int 0, .int 0, .ref (a 11), .ref (a 12), .ref (a 13), .null, .null]))] := hD
    refine lv_aload_n hx hb dX10_hours_7 rfl (lv_at hl 0 rfl) ?_
    refine va_get (ci := 10) (v := .ref (a 4)) (C := RX10) (T := TX10) (N := 13) hx hb htA in_X10 hown hK hP 0 rfl rfl 6 (by decide) (htA _ wd_314) (fun _ h => h) rfl dX10_hours_8 ?_
    refine lv_aload_n hx hb dX10_hours_11 rfl (lv_at hl 0 rfl) ?_
    refine va_get (ci := 10) (v := .ref (a 3)) (C := RX10) (T := TX10) (N := 13) hx hb htA in_X10 hown hK hP 0 rfl rfl 5 (by decide) (htA _ wd_313) (fun _ h => h) rfl dX10_hours_12 ?_
    refine kVv (As := [.ref (a 3)]) (rest := []) (wr := [((a 0), .inr (10, [.ref (a 1), .int 0, .int 0, .int (-1), .ref (a 2), .ref (a 3), .ref (a 4), .ref (a 5), .ref (a 6), .ref (a 7), .ref (a 8), .ref (a 9), .int 0])), ((a 10), .inr (0, [.int 0, .int 1, .int 1, .int 0, .int 0, .ref (a 11), .ref (a 12), .ref (a 13), .null, .null]))]) hX hE (au_X2_keep_14 l D cy a) (cwVA 1 htA wd_387 wd_384 wd_7 wd_385 wd_386 (by decide +kernel) ⟨by decide, by decide⟩) hP hD hS [1, 2, 3, 4, 5, 6, 7, 8, 9, 10, 11, 12, 13, 14] [0, 15] rfl rfl (by decide) 0 rfl rfl rfl rfl hl.1 rfl (Nat.le_of_ble_eq_true rfl) dX10_hours_15 (by decide) (fun W1 H locs hw hP hD hS => ?_)
    refine W.widen (k := 1) (n := 6) (by decide) (by decide) ?_
    obtain rfl := hw
    have hP : va_P D vwCl [((a 0), .inr (10, [.ref (a 1), .int 0, .int 0, .int (-1), .ref (a 2), .ref (a 3), .ref (a 4), .ref (a 5), .ref (a 6), .ref (a 7), .ref (a 8), .ref (a 9), .int 0])), ((a 10), .inr (0, [.int 0, .int 1, .int 1, .int 0, .int 0, .ref (a 11), .ref (a 12), .ref (a 13), .null, .null])), ((a 4), .inr (2, [.ref (a 70), .int 0, .int 1])), ((a 70), .inl (cy 4, 10, .inr (.inr (.inr (.inr (va_up (va_up (va_up (va_up (va_up (va_up (va_up (va_up (va_up (va_up (fun _ => none) (0 : Int32).toNatClampNeg (some (a 100))) (1 : Int32).toNatClampNeg (some (a 110))) (2 : Int32).toNatClampNeg (some (a 120))) (3 : Int32).toNatClampNeg (some (a 130))) (4 : Int32).toNatClampNeg (some (a 140))) (5 : Int32).toNatClampNeg (some (a 150))) (6 : Int32).toNatClampNeg (some (a 160))) (7 : Int32).toNatClampNeg (some (a 170))) (8 : Int32).toNatClampNeg (some (a 180))) (9 : Int32).toNatClampNeg (some (a 190)))))))), ((a 100), .inr (6, [.ref (a 10), .int 0, .ref (a 101), .ref (a 102), .ref (a 103), .ref (a 104), .ref (a 105), .int 0])), ((a 101), .inl (cy 0, 8, .inl (fun _ => 0))), ((a 102), .inl (cy 0, 8, .inl (fun _ => 0))), ((a 103), .inl (cy 0, 8, .inl (fun _ => 0))), ((a 104), .inl (cy 0, 8, .inl (fun _ => 0))), ((a 105), .inl (cy 0, 4, .inl (fun _ => 0))), ((a 3), .inr (6, [.ref (a 10), .int 0, .ref (a 21), .ref (a 22), .ref (a 23), .ref (a 24), .ref (a 25), .int 0])), ((a 21), .inl (cy 0, 8, .inl (fun _ => 0))), ((a 22), .inl (cy 0, 8, .inl (fun _ => 0))), ((a 23), .inl (cy 0, 8, .inl (fun _ => 0))), ((a 24), .inl (cy 0, 8, .inl (fun _ => 0))), ((a 25), .inl (cy 0, 4, .inl (fun _ => 0)))] H := hP
    have hD : va_D A [((a 0), .inr (10, [.ref (a 1), .int 0, .int 0, .int (-1), .ref (a 2), .ref (a 3), .ref (a 4), .ref (a 5), .ref (a 6), .ref (a 7), .ref (a 8), .ref (a 9), .int 0])), ((a 10), .inr (0, [.int 0, .int 1, .int 1, .int 0, .int 0, .ref (a 11), .ref (a 12), .ref (a 13), .null, .null])), ((a 4), .inr (2, [.ref (a 70), .int 0, .int 1])), ((a 70), .inl (cy 4, 10, .inr (.inr (.inr (.inr (va_up (va_up (va_up (va_up (va_up (va_up (va_up (va_up (va_up (va_up (fun _ => none) (0 : Int32).toNatClampNeg (some (a 100))) (1 : Int32).toNatClampNeg (some (a 110))) (2 : Int32).toNatClampNeg (some (a 120))) (3 : Int32).toNatClampNeg (some (a 130))) (4 : Int32).toNatClampNeg (some (a 140))) (5 : Int32).toNatClampNeg (some (a 150))) (6 : Int32).toNatClampNeg (some (a 160))) (7 : Int32).toNatClampNeg (some (a 170))) (8 : Int32).toNatClampNeg (some (a 180))) (9 : Int32).toNatClampNeg (some (a 190)))))))), ((a 100), .inr (6, [.ref (a 10), .int 0, .ref (a 101), .ref (a 102), .ref (a 103), .ref (a 104), .ref (a 105), .int 0])), ((a 101), .inl (cy 0, 8, .inl (fun _ => 0))), ((a 102), .inl (cy 0, 8, .inl (fun _ => 0))), ((a 103), .inl (cy 0, 8, .inl (fun _ => 0))), ((a 104), .inl (cy 0, 8, .inl (fun _ => 0))), ((a 105), .inl (cy 0, 4, .inl (fun _ => 0))), ((a 3), .inr (6, [.ref (a 10), .int 0, .ref (a 21), .ref (a 22), .ref (a 23), .ref (a 24), .ref (a 25), .int 0])), ((a 21), .inl (cy 0, 8, .inl (fun _ => 0))), ((a 22), .inl (cy 0, 8, .inl (fun _ => 0))), ((a 23), .inl (cy 0, 8, .inl (fun _ => 0))), ((a 24), .inl (cy 0, 8, .inl (fun _ => 0))), ((a 25), .inl (cy 0, 4, .inl (fun _ => 0)))] := hD
    refine lv_aload_n hx hb dX10_hours_18 rfl (lv_at hl 0 rfl) ?_
    refine va_get (ci := 10) (v := .ref (a 3)) (C := RX10) (T := TX10) (N := 13) hx hb htA in_X10 hown hK hP 0 rfl rfl 5 (by decide) (htA _ wd_313) (fun _ h => h) rfl dX10_hours_19 ?_
    refine lv_aload_n hx hb dX10_hours_22 rfl (lv_at hl 0 rfl) ?_
    refine va_get (ci := 10) (v := .ref (a 3)) (C := RX10) (T := TX10) (N := 13) hx hb htA in_X10 hown hK hP 0 rfl rfl 5 (by decide) (htA _ wd_313) (fun _ h => h) rfl dX10_hours_23 ?_
    refine va_get (ci := 6) (v := .int 0) (C := RX6) (T := TX6) (N := 8) hx hb htA in_X6 hown hK hP 10 rfl rfl 1 (by decide) (htA _ wd_173) (fun _ h => h) rfl dX10_hours_26 ?_
    refine lv_iload_n hx hb dX10_hours_29 rfl (lv_at hl 1 rfl) ?_
    refine lv_iadd hx hb dX10_hours_30 ?_
    refine kVi (As := [.int (0 + p1)]) (rest := []) (wr := [((a 0), .inr (10, [.ref (a 1), .int 0, .int 0, .int (-1), .ref (a 2), .ref (a 3), .ref (a 4), .ref (a 5), .ref (a 6), .ref (a 7), .ref (a 8), .ref (a 9), .int 0])), ((a 4), .inr (2, [.ref (a 70), .int 0, .int 1])), ((a 70), .inl (cy 4, 10, .inr (.inr (.inr (.inr (va_up (va_up (va_up (va_up (va_up (va_up (va_up (va_up (va_up (va_up (fun _ => none) (0 : Int32).toNatClampNeg (some (a 100))) (1 : Int32).toNatClampNeg (some (a 110))) (2 : Int32).toNatClampNeg (some (a 120))) (3 : Int32).toNatClampNeg (some (a 130))) (4 : Int32).toNatClampNeg (some (a 140))) (5 : Int32).toNatClampNeg (some (a 150))) (6 : Int32).toNatClampNeg (some (a 160))) (7 : Int32).toNatClampNeg (some (a 170))) (8 : Int32).toNatClampNeg (some (a 180))) (9 : Int32).toNatClampNeg (some (a 190)))))))), ((a 100), .inr (6, [.ref (a 10), .int 0, .ref (a 101), .ref (a 102), .ref (a 103), .ref (a 104), .ref (a 105), .int 0])), ((a 101), .inl (cy 0, 8, .inl (fun _ => 0))), ((a 102), .inl (cy 0, 8, .inl (fun _ => 0))), ((a 103), .inl (cy 0, 8, .inl (fun _ => 0))), ((a 104), .inl (cy 0, 8, .inl (fun _ => 0))), ((a 105), .inl (cy 0, 4, .inl (fun _ => 0))), ((a 21), .inl (cy 0, 8, .inl (fun _ => 0))), ((a 22), .inl (cy 0, 8, .inl (fun _ => 0))), ((a 23), .inl (cy 0, 8, .inl (fun _ => 0))), ((a 24), .inl (cy 0, 8, .inl (fun _ => 0))), ((a 25), .inl (cy 0, 4, .inl (fun _ => 0)))]) hX hE (au_X6_passTo_25 l D cy a (0 + p1)) (cwVA 1 htA wd_948 wd_945 wd_6 wd_946 wd_947 (by decide +kernel) ⟨by decide, by decide⟩) hP hD hS [1, 10] [0, 2, 3, 4, 5, 6, 7, 8, 9, 11, 12, 13, 14, 15] rfl rfl (by decide) 1 rfl rfl rfl rfl hl.1 rfl (Nat.le_of_ble_eq_true rfl) dX10_hours_31 (by decide) (fun r_ W1 H locs hw hP hD hS => ?_)
    refine W.widen (k := 1) (n := 6) (by decide) (by decide) ?_
    obtain ⟨rfl, rfl⟩ := hw
    have hP : va_P D vwCl [((a 0), .inr (10, [.ref (a 1), .int 0, .int 0, .int (-1), .ref (a 2), .ref (a 3), .ref (a 4), .ref (a 5), .ref (a 6), .ref (a 7), .ref (a 8), .ref (a 9), .int 0])), ((a 4), .inr (2, [.ref (a 70), .int 0, .int 1])), ((a 70), .inl (cy 4, 10, .inr (.inr (.inr (.inr (va_up (va_up (va_up (va_up (va_up (va_up (va_up (va_up (va_up (va_up (fun _ => none) (0 : Int32).toNatClampNeg (some (a 100))) (1 : Int32).toNatClampNeg (some (a 110))) (2 : Int32).toNatClampNeg (some (a 120))) (3 : Int32).toNatClampNeg (some (a 130))) (4 : Int32).toNatClampNeg (some (a 140))) (5 : Int32).toNatClampNeg (some (a 150))) (6 : Int32).toNatClampNeg (some (a 160))) (7 : Int32).toNatClampNeg (some (a 170))) (8 : Int32).toNatClampNeg (some (a 180))) (9 : Int32).toNatClampNeg (some (a 190)))))))), ((a 100), .inr (6, [.ref (a 10), .int 0, .ref (a 101), .ref (a 102), .ref (a 103), .ref (a 104), .ref (a 105), .int 0])), ((a 101), .inl (cy 0, 8, .inl (fun _ => 0))), ((a 102), .inl (cy 0, 8, .inl (fun _ => 0))), ((a 103), .inl (cy 0, 8, .inl (fun _ => 0))), ((a 104), .inl (cy 0, 8, .inl (fun _ => 0))), ((a 105), .inl (cy 0, 4, .inl (fun _ => 0))), ((a 21), .inl (cy 0, 8, .inl (fun _ => 0))), ((a 22), .inl (cy 0, 8, .inl (fun _ => 0))), ((a 23), .inl (cy 0, 8, .inl (fun _ => 0))), ((a 24), .inl (cy 0, 8, .inl (fun _ => 0))), ((a 25), .inl (cy 0, 4, .inl (fun _ => 0))), ((a 10), .inr (0, [.int 0, .int 1, .int 1, .int 0, .int 0, .ref (a 11), .ref (a 12), .ref (a 13), .null, .null])), ((a 3), .inr (6, [.ref (a 10), .int (0 + p1), .ref (a 21), .ref (a 22), .ref (a 23), .ref (a 24), .ref (a 25), .int 0]))] H := hP
    have hD : va_D A [((a 0), .inr (10, [.ref (a 1), .int 0, .int 0, .int (-1), .ref (a 2), .ref (a 3), .ref (a 4), .ref (a 5), .ref (a 6), .ref (a 7), .ref (a 8), .ref (a 9), .int 0])), ((a 4), .inr (2, [.ref (a 70), .int 0, .int 1])), ((a 70), .inl (cy 4, 10, .inr (.inr (.inr (.inr (va_up (va_up (va_up (va_up (va_up (va_up (va_up (va_up (va_up (va_up (fun _ => none) (0 : Int32).toNatClampNeg (some (a 100))) (1 : Int32).toNatClampNeg (some (a 110))) (2 : Int32).toNatClampNeg (some (a 120))) (3 : Int32).toNatClampNeg (some (a 130))) (4 : Int32).toNatClampNeg (some (a 140))) (5 : Int32).toNatClampNeg (some (a 150))) (6 : Int32).toNatClampNeg (some (a 160))) (7 : Int32).toNatClampNeg (some (a 170))) (8 : Int32).toNatClampNeg (some (a 180))) (9 : Int32).toNatClampNeg (some (a 190)))))))), ((a 100), .inr (6, [.ref (a 10), .int 0, .ref (a 101), .ref (a 102), .ref (a 103), .ref (a 104), .ref (a 105), .int 0])), ((a 101), .inl (cy 0, 8, .inl (fun _ => 0))), ((a 102), .inl (cy 0, 8, .inl (fun _ => 0))), ((a 103), .inl (cy 0, 8, .inl (fun _ => 0))), ((a 104), .inl (cy 0, 8, .inl (fun _ => 0))), ((a 105), .inl (cy 0, 4, .inl (fun _ => 0))), ((a 21), .inl (cy 0, 8, .inl (fun _ => 0))), ((a 22), .inl (cy 0, 8, .inl (fun _ => 0))), ((a 23), .inl (cy 0, 8, .inl (fun _ => 0))), ((a 24), .inl (cy 0, 8, .inl (fun _ => 0))), ((a 25), .inl (cy 0, 4, .inl (fun _ => 0))), ((a 10), .inr (0, [.int 0, .int 1, .int 1, .int 0, .int 0, .ref (a 11), .ref (a 12), .ref (a 13), .null, .null])), ((a 3), .inr (6, [.ref (a 10), .int (0 + p1), .ref (a 21), .ref (a 22), .ref (a 23), .ref (a 24), .ref (a 25), .int 0]))] := hD
    exact vx_ret (rI hX hE hP hD hS dX10_hours_34 (by decide) (by decide) (⟨(by have kg1 := g1; have kg2 := g2; (try simp only [lg_cmp_lt, lg_cmp_le, lg_cmp_ge, lg_cmp_gt, lg_cmp_eq, fa_lt, fa_le, fa_eq, fa_lt64, fa_le64, fa_eq64, Int32.toInt_toInt64, li_1, lj_1, li_99, lj_99] at kg1); (try simp only [lg_cmp_lt, lg_cmp_le, lg_cmp_ge, lg_cmp_gt, lg_cmp_eq, fa_lt, fa_le, fa_eq, fa_lt64, fa_le64, fa_eq64, Int32.toInt_toInt64, li_1, lj_1, li_99, lj_99] at kg2); first | rfl | (unfold kf_hours; (repeat' split) <;> first | rfl | (exfalso; omega))), (by have kg1 := g1; have kg2 := g2; (try simp only [lg_cmp_lt, lg_cmp_le, lg_cmp_ge, lg_cmp_gt, lg_cmp_eq, fa_lt, fa_le, fa_eq, fa_lt64, fa_le64, fa_eq64, Int32.toInt_toInt64, li_1, lj_1, li_99, lj_99] at kg1); (try simp only [lg_cmp_lt, lg_cmp_le, lg_cmp_ge, lg_cmp_gt, lg_cmp_eq, fa_lt, fa_le, fa_eq, fa_lt64, fa_le64, fa_eq64, Int32.toInt_toInt64, li_1, lj_1, li_99, lj_99] at kg2); first | rfl | decide | (unfold vf_hours; (repeat' split) <;> first | rfl | decide | (exfalso; omega)))⟩))
def vi_next : Int32 := -1
set_option maxHeartbeats 4000000 in
set_option maxRecDepth 100000 in
theorem au_X6_copyFrom_26 (l : Launch) (D : va_G) (cy : Nat → ClassId) (a : Nat → Nat) : Cv l yX6_copyFrom cX6_copyFrom 2 none { frames := 1, cells := 0, slots := 0, locals := 60 } D cy [.ref (a 40), .ref (a 3)] [((a 3), .inr (6, [.ref (a 10), .int 0, .ref (a 21), .ref (a 22), .ref (a 23), .ref (a 24), .ref (a 25), .int 0])), ((a 21), .inl (cy 0, 8, .inl (fun _ => 0))), ((a 22), .inl (cy 0, 8, .inl (fun _ => 0))), ((a 23), .inl (cy 0, 8, .inl (fun _ => 0))), ((a 24), .inl (cy 0, 8, .inl (fun _ => 0))), ((a 25), .inl (cy 0, 4, .inl (fun _ => 0))), ((a 40), .inr (6, [.ref (a 10), .int 0, .ref (a 41), .ref (a 42), .ref (a 43), .ref (a 44), .ref (a 45), .int 0])), ((a 41), .inl (cy 0, 8, .inl (fun _ => 0))), ((a 42), .inl (cy 0, 8, .inl (fun _ => 0))), ((a 43), .inl (cy 0, 8, .inl (fun _ => 0))), ((a 44), .inl (cy 0, 8, .inl (fun _ => 0))), ((a 45), .inl (cy 0, 4, .inl (fun _ => 0)))] (fun W1 => (W1 = [((a 3), .inr (6, [.ref (a 10), .int 0, .ref (a 21), .ref (a 22), .ref (a 23), .ref (a 24), .ref (a 25), .int 0])), ((a 21), .inl (cy 0, 8, .inl (fun _ => 0))), ((a 22), .inl (cy 0, 8, .inl (fun _ => 0))), ((a 23), .inl (cy 0, 8, .inl (fun _ => 0))), ((a 24), .inl (cy 0, 8, .inl (fun _ => 0))), ((a 25), .inl (cy 0, 4, .inl (fun _ => 0))), ((a 40), .inr (6, [.ref (a 10), .int 0, .ref (a 41), .ref (a 42), .ref (a 43), .ref (a 44), .ref (a 45), .int 0])), ((a 41), .inl (cy 0, 8, .inl (fun _ => 0))), ((a 42), .inl (cy 0, 8, .inl (fun _ => 0))), ((a 43), .inl (cy 0, 8, .inl (fun _ => 0))), ((a 44), .inl (cy 0, 8, .inl (fun _ => 0))), ((a 45), .inl (cy 0, 4, .inl (fun _ => 0)))])) := by
  refine Cv.of (by decide) (Nat.le_of_ble_eq_true rfl) ?_
  intro p e s m below meth c A ls hX hE hP hD hl hin
  obtain ⟨hx, hb, hr, hml, hown, htA, hlk⟩ := id hX
  have hK := hE.1
  have hS : va_S A s.heap s.heap [] := va_S.rf
  have hl : lv_has ls 2 [(0, .ref (a 40)), (1, .ref (a 3))] := hl
  refine lv_aload_n hx hb dX6_copyFrom_0 rfl (lv_at hl 0 rfl) ?_
  refine lv_aload_n hx hb dX6_copyFrom_1 rfl (lv_at hl 1 rfl) ?_
  refine va_get (ci := 6) (v := .ref (a 10)) (C := RX6) (T := TX6) (N := 8) hx hb htA in_X6 hown hK hP 0 rfl rfl 0 (by decide) (htA _ wd_166) (fun _ h => h) rfl dX6_copyFrom_2 ?_
  refine va_put (ci := 6) (v := .ref (a 10)) (ty := tyX6 0) (C := RX6) (T := TX6) (N := 8) hx hb htA in_X6 tyX6 tyX6_ok nmX6 hown hK hP hD hS 6 rfl rfl 0 (by decide) (htA _ wd_166) (fun _ h => h) rfl (by decide +kernel) rfl rfl (Nat.le_of_ble_eq_true rfl) dX6_copyFrom_5 (fun H locs hP hD hS => ?_)
  have hP : va_P D vwCl [((a 3), .inr (6, [.ref (a 10), .int 0, .ref (a 21), .ref (a 22), .ref (a 23), .ref (a 24), .ref (a 25), .int 0])), ((a 21), .inl (cy 0, 8, .inl (fun _ => 0))), ((a 22), .inl (cy 0, 8, .inl (fun _ => 0))), ((a 23), .inl (cy 0, 8, .inl (fun _ => 0))), ((a 24), .inl (cy 0, 8, .inl (fun _ => 0))), ((a 25), .inl (cy 0, 4, .inl (fun _ => 0))), ((a 40), .inr (6, [.ref (a 10), .int 0, .ref (a 41), .ref (a 42), .ref (a 43), .ref (a 44), .ref (a 45), .int 0])), ((a 41), .inl (cy 0, 8, .inl (fun _ => 0))), ((a 42), .inl (cy 0, 8, .inl (fun _ => 0))), ((a 43), .inl (cy 0, 8, .inl (fun _ => 0))), ((a 44), .inl (cy 0, 8, .inl (fun _ => 0))), ((a 45), .inl (cy 0, 4, .inl (fun _ => 0)))] H := hP
  have hD : va_D A [((a 3), .inr (6, [.ref (a 10), .int 0, .ref (a 21), .ref (a 22), .ref (a 23), .ref (a 24), .ref (a 25), .int 0])), ((a 21), .inl (cy 0, 8, .inl (fun _ => 0))), ((a 22), .inl (cy 0, 8, .inl (fun _ => 0))), ((a 23), .inl (cy 0, 8, .inl (fun _ => 0))), ((a 24), .inl (cy 0, 8, .inl (fun _ => 0))), ((a 25), .inl (cy 0, 4, .inl (fun _ => 0))), ((a 40), .inr (6, [.ref (a 10), .int 0, .ref (a 41), .ref (a 42), .ref (a 43), .ref (a 44), .ref (a 45), .int 0])), ((a 41), .inl (cy 0, 8, .inl (fun _ => 0))), ((a 42), .inl (cy 0, 8, .inl (fun _ => 0))), ((a 43), .inl (cy 0, 8, .inl (fun _ => 0))), ((a 44), .inl (cy 0, 8, .inl (fun _ => 0))), ((a 45), .inl (cy 0, 4, .inl (fun _ => 0)))] := hD
  refine lv_aload_n hx hb dX6_copyFrom_8 rfl (lv_at hl 0 rfl) ?_
  refine lv_aload_n hx hb dX6_copyFrom_9 rfl (lv_at hl 1 rfl) ?_
  refine va_get (ci := 6) (v := .int 0) (C := RX6) (T := TX6) (N := 8) hx hb htA in_X6 hown hK hP 0 rfl rfl 1 (by decide) (htA _ wd_170) (fun _ h => h) rfl dX6_copyFrom_10 ?_
  refine va_put (ci := 6) (v := .int 0) (ty := .int) (C := RX6) (T := TX6) (N := 8) hx hb htA in_X6 tyX6 tyX6_ok nmX6 hown hK hP hD hS 6 rfl rfl 1 (by decide) (htA _ wd_170) (fun _ h => h) rfl (by decide +kernel) rfl rfl (Nat.le_of_ble_eq_true rfl) dX6_copyFrom_13 (fun H locs hP hD hS => ?_)
  have hP : va_P D vwCl [((a 3), .inr (6, [.ref (a 10), .int 0, .ref (a 21), .ref (a 22), .ref (a 23), .ref (a 24), .ref (a 25), .int 0])), ((a 21), .inl (cy 0, 8, .inl (fun _ => 0))), ((a 22), .inl (cy 0, 8, .inl (fun _ => 0))), ((a 23), .inl (cy 0, 8, .inl (fun _ => 0))), ((a 24), .inl (cy 0, 8, .inl (fun _ => 0))), ((a 25), .inl (cy 0, 4, .inl (fun _ => 0))), ((a 40), .inr (6, [.ref (a 10), .int 0, .ref (a 41), .ref (a 42), .ref (a 43), .ref (a 44), .ref (a 45), .int 0])), ((a 41), .inl (cy 0, 8, .inl (fun _ => 0))), ((a 42), .inl (cy 0, 8, .inl (fun _ => 0))), ((a 43), .inl (cy 0, 8, .inl (fun _ => 0))), ((a 44), .inl (cy 0, 8, .inl (fun _ => 0))), ((a 45), .inl (cy 0, 4, .inl (fun _ => 0)))] H := hP
  have hD : va_D A [((a 3), .inr (6, [.ref (a 10), .int 0, .ref (a 21), .ref (a 22), .ref (a 23), .ref (a 24), .ref (a 25), .int 0])), ((a 21), .inl (cy 0, 8, .inl (fun _ => 0))), ((a 22), .inl (cy 0, 8, .inl (fun _ => 0))), ((a 23), .inl (cy 0, 8, .inl (fun _ => 0))), ((a 24), .inl (cy 0, 8, .inl (fun _ => 0))), ((a 25), .inl (cy 0, 4, .inl (fun _ => 0))), ((a 40), .inr (6, [.ref (a 10), .int 0, .ref (a 41), .ref (a 42), .ref (a 43), .ref (a 44), .ref (a 45), .int 0])), ((a 41), .inl (cy 0, 8, .inl (fun _ => 0))), ((a 42), .inl (cy 0, 8, .inl (fun _ => 0))), ((a 43), .inl (cy 0, 8, .inl (fun _ => 0))), ((a 44), .inl (cy 0, 8, .inl (fun _ => 0))), ((a 45), .inl (cy 0, 4, .inl (fun _ => 0)))] := hD
  refine lv_aload_n hx hb dX6_copyFrom_16 rfl (lv_at hl 0 rfl) ?_
  refine lv_aload_n hx hb dX6_copyFrom_17 rfl (lv_at hl 1 rfl) ?_
  refine va_get (ci := 6) (v := .int 0) (C := RX6) (T := TX6) (N := 8) hx hb htA in_X6 hown hK hP 0 rfl rfl 7 (by decide) (htA _ wd_189) (fun _ h => h) rfl dX6_copyFrom_18 ?_
  refine va_put (ci := 6) (v := .int 0) (ty := .int) (C := RX6) (T := TX6) (N := 8) hx hb htA in_X6 tyX6 tyX6_ok nmX6 hown hK hP hD hS 6 rfl rfl 7 (by decide) (htA _ wd_189) (fun _ h => h) rfl (by decide +kernel) rfl rfl (Nat.le_of_ble_eq_true rfl) dX6_copyFrom_21 (fun H locs hP hD hS => ?_)
  have hP : va_P D vwCl [((a 3), .inr (6, [.ref (a 10), .int 0, .ref (a 21), .ref (a 22), .ref (a 23), .ref (a 24), .ref (a 25), .int 0])), ((a 21), .inl (cy 0, 8, .inl (fun _ => 0))), ((a 22), .inl (cy 0, 8, .inl (fun _ => 0))), ((a 23), .inl (cy 0, 8, .inl (fun _ => 0))), ((a 24), .inl (cy 0, 8, .inl (fun _ => 0))), ((a 25), .inl (cy 0, 4, .inl (fun _ => 0))), ((a 40), .inr (6, [.ref (a 10), .int 0, .ref (a 41), .ref (a 42), .ref (a 43), .ref (a 44), .ref (a 45), .int 0])), ((a 41), .inl (cy 0, 8, .inl (fun _ => 0))), ((a 42), .inl (cy 0, 8, .inl (fun _ => 0))), ((a 43), .inl (cy 0, 8, .inl (fun _ => 0))), ((a 44), .inl (cy 0, 8, .inl (fun _ => 0))), ((a 45), .inl (cy 0, 4, .inl (fun _ => 0)))] H := hP
  have hD : va_D A [((a 3), .inr (6, [.ref (a 10), .int 0, .ref (a 21), .ref (a 22), .ref (a 23), .ref (a 24), .ref (a 25), .int 0])), ((a 21), .inl (cy 0, 8, .inl (fun _ => 0))), ((a 22), .inl (cy 0, 8, .inl (fun _ => 0))), ((a 23), .inl (cy 0, 8, .inl (fun _ => 0))), ((a 24), .inl (cy 0, 8, .inl (fun _ => 0))), ((a 25), .inl (cy 0, 4, .inl (fun _ => 0))), ((a 40), .inr (6, [.ref (a 10), .int 0, .ref (a 41), .ref (a 42), .ref (a 43), .ref (a 44), .ref (a 45), .int 0])), ((a 41), .inl (cy 0, 8, .inl (fun _ => 0))), ((a 42), .inl (cy 0, 8, .inl (fun _ => 0))), ((a 43), .inl (cy 0, 8, .inl (fun _ => 0))), ((a 44), .inl (cy 0, 8, .inl (fun _ => 0))), ((a 45), .inl (cy 0, 4, .inl (fun _ => 0)))] := hD
  refine lv_aload_n hx hb dX6_copyFrom_24 rfl (lv_at hl 1 rfl) ?_
  refine va_get (ci := 6) (v := .ref (a 21)) (C := RX6) (T := TX6) (N := 8) hx hb htA in_X6 hown hK hP 0 rfl rfl 2 (by decide) (htA _ wd_174) (fun _ h => h) rfl dX6_copyFrom_25 ?_
  refine lv_iconst (v := 0) hx hb dX6_copyFrom_28 (by decide) ?_
  refine lv_aload_n hx hb dX6_copyFrom_29 rfl (lv_at hl 0 rfl) ?_
  refine va_get (ci := 6) (v := .ref (a 41)) (C := RX6) (T := TX6) (N := 8) hx hb htA in_X6 hown hK hP 6 rfl rfl 2 (by decide) (htA _ wd_174) (fun _ h => h) rfl dX6_copyFrom_30 ?_
  refine lv_iconst (v := 0) hx hb dX6_copyFrom_33 (by decide) ?_
  refine lv_bipush (v := 8) hx hb dX6_copyFrom_34 (by decide) ?_
  refine va_copyi hx hb (hml.trans hl.1.symm) hown (htA _ wd_392) (htA _ wd_394) (htA _ wd_393) (htA _ wd_22) hK hP hD hS 1 7 0 0 rfl rfl rfl rfl rfl (by decide) (by decide) (by decide) (by decide) (by decide) (fun _ _ => rfl) (by decide) (by decide) dX6_copyFrom_36 (fun H locs hP hD hS => ?_)
  rw [va_cpy_same] at hP hD
  have hP : va_P D vwCl [((a 3), .inr (6, [.ref (a 10), .int 0, .ref (a 21), .ref (a 22), .ref (a 23), .ref (a 24), .ref (a 25), .int 0])), ((a 21), .inl (cy 0, 8, .inl (fun _ => 0))), ((a 22), .inl (cy 0, 8, .inl (fun _ => 0))), ((a 23), .inl (cy 0, 8, .inl (fun _ => 0))), ((a 24), .inl (cy 0, 8, .inl (fun _ => 0))), ((a 25), .inl (cy 0, 4, .inl (fun _ => 0))), ((a 40), .inr (6, [.ref (a 10), .int 0, .ref (a 41), .ref (a 42), .ref (a 43), .ref (a 44), .ref (a 45), .int 0])), ((a 41), .inl (cy 0, 8, .inl (fun _ => 0))), ((a 42), .inl (cy 0, 8, .inl (fun _ => 0))), ((a 43), .inl (cy 0, 8, .inl (fun _ => 0))), ((a 44), .inl (cy 0, 8, .inl (fun _ => 0))), ((a 45), .inl (cy 0, 4, .inl (fun _ => 0)))] H := hP
  have hD : va_D A [((a 3), .inr (6, [.ref (a 10), .int 0, .ref (a 21), .ref (a 22), .ref (a 23), .ref (a 24), .ref (a 25), .int 0])), ((a 21), .inl (cy 0, 8, .inl (fun _ => 0))), ((a 22), .inl (cy 0, 8, .inl (fun _ => 0))), ((a 23), .inl (cy 0, 8, .inl (fun _ => 0))), ((a 24), .inl (cy 0, 8, .inl (fun _ => 0))), ((a 25), .inl (cy 0, 4, .inl (fun _ => 0))), ((a 40), .inr (6, [.ref (a 10), .int 0, .ref (a 41), .ref (a 42), .ref (a 43), .ref (a 44), .ref (a 45), .int 0])), ((a 41), .inl (cy 0, 8, .inl (fun _ => 0))), ((a 42), .inl (cy 0, 8, .inl (fun _ => 0))), ((a 43), .inl (cy 0, 8, .inl (fun _ => 0))), ((a 44), .inl (cy 0, 8, .inl (fun _ => 0))), ((a 45), .inl (cy 0, 4, .inl (fun _ => 0)))] := hD
  refine lv_aload_n hx hb dX6_copyFrom_39 rfl (lv_at hl 1 rfl) ?_
  refine va_get (ci := 6) (v := .ref (a 22)) (C := RX6) (T := TX6) (N := 8) hx hb htA in_X6 hown hK hP 0 rfl rfl 3 (by decide) (htA _ wd_178) (fun _ h => h) rfl dX6_copyFrom_40 ?_
  refine lv_iconst (v := 0) hx hb dX6_copyFrom_43 (by decide) ?_
  refine lv_aload_n hx hb dX6_copyFrom_44 rfl (lv_at hl 0 rfl) ?_
  refine va_get (ci := 6) (v := .ref (a 42)) (C := RX6) (T := TX6) (N := 8) hx hb htA in_X6 hown hK hP 6 rfl rfl 3 (by decide) (htA _ wd_178) (fun _ h => h) rfl dX6_copyFrom_45 ?_
  refine lv_iconst (v := 0) hx hb dX6_copyFrom_48 (by decide) ?_
  refine lv_bipush (v := 8) hx hb dX6_copyFrom_49 (by decide) ?_
  refine va_copyi hx hb (hml.trans hl.1.symm) hown (htA _ wd_392) (htA _ wd_394) (htA _ wd_393) (htA _ wd_22) hK hP hD hS 2 8 0 0 rfl rfl rfl rfl rfl (by decide) (by decide) (by decide) (by decide) (by decide) (fun _ _ => rfl) (by decide) (by decide) dX6_copyFrom_51 (fun H locs hP hD hS => ?_)
  rw [va_cpy_same] at hP hD
  have hP : va_P D vwCl [((a 3), .inr (6, [.ref (a 10), .int 0, .ref (a 21), .ref (a 22), .ref (a 23), .ref (a 24), .ref (a 25), .int 0])), ((a 21), .inl (cy 0, 8, .inl (fun _ => 0))), ((a 22), .inl (cy 0, 8, .inl (fun _ => 0))), ((a 23), .inl (cy 0, 8, .inl (fun _ => 0))), ((a 24), .inl (cy 0, 8, .inl (fun _ => 0))), ((a 25), .inl (cy 0, 4, .inl (fun _ => 0))), ((a 40), .inr (6, [.ref (a 10), .int 0, .ref (a 41), .ref (a 42), .ref (a 43), .ref (a 44), .ref (a 45), .int 0])), ((a 41), .inl (cy 0, 8, .inl (fun _ => 0))), ((a 42), .inl (cy 0, 8, .inl (fun _ => 0))), ((a 43), .inl (cy 0, 8, .inl (fun _ => 0))), ((a 44), .inl (cy 0, 8, .inl (fun _ => 0))), ((a 45), .inl (cy 0, 4, .inl (fun _ => 0)))] H := hP
  have hD : va_D A [((a 3), .inr (6, [.ref (a 10), .int 0, .ref (a 21), .ref (a 22), .ref (a 23), .ref (a 24), .ref (a 25), .int 0])), ((a 21), .inl (cy 0, 8, .inl (fun _ => 0))), ((a 22), .inl (cy 0, 8, .inl (fun _ => 0))), ((a 23), .inl (cy 0, 8, .inl (fun _ => 0))), ((a 24), .inl (cy 0, 8, .inl (fun _ => 0))), ((a 25), .inl (cy 0, 4, .inl (fun _ => 0))), ((a 40), .inr (6, [.ref (a 10), .int 0, .ref (a 41), .ref (a 42), .ref (a 43), .ref (a 44), .ref (a 45), .int 0])), ((a 41), .inl (cy 0, 8, .inl (fun _ => 0))), ((a 42), .inl (cy 0, 8, .inl (fun _ => 0))), ((a 43), .inl (cy 0, 8, .inl (fun _ => 0))), ((a 44), .inl (cy 0, 8, .inl (fun _ => 0))), ((a 45), .inl (cy 0, 4, .inl (fun _ => 0)))] := hD
  refine lv_aload_n hx hb dX6_copyFrom_54 rfl (lv_at hl 1 rfl) ?_
  refine va_get (ci := 6) (v := .ref (a 23)) (C := RX6) (T := TX6) (N := 8) hx hb htA in_X6 hown hK hP 0 rfl rfl 4 (by decide) (htA _ wd_181) (fun _ h => h) rfl dX6_copyFrom_55 ?_
  refine lv_iconst (v := 0) hx hb dX6_copyFrom_58 (by decide) ?_
  refine lv_aload_n hx hb dX6_copyFrom_59 rfl (lv_at hl 0 rfl) ?_
  refine va_get (ci := 6) (v := .ref (a 43)) (C := RX6) (T := TX6) (N := 8) hx hb htA in_X6 hown hK hP 6 rfl rfl 4 (by decide) (htA _ wd_181) (fun _ h => h) rfl dX6_copyFrom_60 ?_
  refine lv_iconst (v := 0) hx hb dX6_copyFrom_63 (by decide) ?_
  refine lv_bipush (v := 8) hx hb dX6_copyFrom_64 (by decide) ?_
  refine va_copyi hx hb (hml.trans hl.1.symm) hown (htA _ wd_392) (htA _ wd_394) (htA _ wd_393) (htA _ wd_22) hK hP hD hS 3 9 0 0 rfl rfl rfl rfl rfl (by decide) (by decide) (by decide) (by decide) (by decide) (fun _ _ => rfl) (by decide) (by decide) dX6_copyFrom_66 (fun H locs hP hD hS => ?_)
  rw [va_cpy_same] at hP hD
  have hP : va_P D vwCl [((a 3), .inr (6, [.ref (a 10), .int 0, .ref (a 21), .ref (a 22), .ref (a 23), .ref (a 24), .ref (a 25), .int 0])), ((a 21), .inl (cy 0, 8, .inl (fun _ => 0))), ((a 22), .inl (cy 0, 8, .inl (fun _ => 0))), ((a 23), .inl (cy 0, 8, .inl (fun _ => 0))), ((a 24), .inl (cy 0, 8, .inl (fun _ => 0))), ((a 25), .inl (cy 0, 4, .inl (fun _ => 0))), ((a 40), .inr (6, [.ref (a 10), .int 0, .ref (a 41), .ref (a 42), .ref (a 43), .ref (a 44), .ref (a 45), .int 0])), ((a 41), .inl (cy 0, 8, .inl (fun _ => 0))), ((a 42), .inl (cy 0, 8, .inl (fun _ => 0))), ((a 43), .inl (cy 0, 8, .inl (fun _ => 0))), ((a 44), .inl (cy 0, 8, .inl (fun _ => 0))), ((a 45), .inl (cy 0, 4, .inl (fun _ => 0)))] H := hP
  have hD : va_D A [((a 3), .inr (6, [.ref (a 10), .int 0, .ref (a 21), .ref (a 22), .ref (a 23), .ref (a 24), .ref (a 25), .int 0])), ((a 21), .inl (cy 0, 8, .inl (fun _ => 0))), ((a 22), .inl (cy 0, 8, .inl (fun _ => 0))), ((a 23), .inl (cy 0, 8, .inl (fun _ => 0))), ((a 24), .inl (cy 0, 8, .inl (fun _ => 0))), ((a 25), .inl (cy 0, 4, .inl (fun _ => 0))), ((a 40), .inr (6, [.ref (a 10), .int 0, .ref (a 41), .ref (a 42), .ref (a 43), .ref (a 44), .ref (a 45), .int 0])), ((a 41), .inl (cy 0, 8, .inl (fun _ => 0))), ((a 42), .inl (cy 0, 8, .inl (fun _ => 0))), ((a 43), .inl (cy 0, 8, .inl (fun _ => 0))), ((a 44), .inl (cy 0, 8, .inl (fun _ => 0))), ((a 45), .inl (cy 0, 4, .inl (fun _ => 0)))] := hD
  refine lv_aload_n hx hb dX6_copyFrom_69 rfl (lv_at hl 1 rfl) ?_
  refine va_get (ci := 6) (v := .ref (a 24)) (C := RX6) (T := TX6) (N := 8) hx hb htA in_X6 hown hK hP 0 rfl rfl 5 (by decide) (htA _ wd_184) (fun _ h => h) rfl dX6_copyFrom_70 ?_
  refine lv_iconst (v := 0) hx hb dX6_copyFrom_73 (by decide) ?_
  refine lv_aload_n hx hb dX6_copyFrom_74 rfl (lv_at hl 0 rfl) ?_
  refine va_get (ci := 6) (v := .ref (a 44)) (C := RX6) (T := TX6) (N := 8) hx hb htA in_X6 hown hK hP 6 rfl rfl 5 (by decide) (htA _ wd_184) (fun _ h => h) rfl dX6_copyFrom_75 ?_
  refine lv_iconst (v := 0) hx hb dX6_copyFrom_78 (by decide) ?_
  refine lv_bipush (v := 8) hx hb dX6_copyFrom_79 (by decide) ?_
  refine va_copyi hx hb (hml.trans hl.1.symm) hown (htA _ wd_392) (htA _ wd_394) (htA _ wd_393) (htA _ wd_22) hK hP hD hS 4 10 0 0 rfl rfl rfl rfl rfl (by decide) (by decide) (by decide) (by decide) (by decide) (fun _ _ => rfl) (by decide) (by decide) dX6_copyFrom_81 (fun H locs hP hD hS => ?_)
  rw [va_cpy_same] at hP hD
  have hP : va_P D vwCl [((a 3), .inr (6, [.ref (a 10), .int 0, .ref (a 21), .ref (a 22), .ref (a 23), .ref (a 24), .ref (a 25), .int 0])), ((a 21), .inl (cy 0, 8, .inl (fun _ => 0))), ((a 22), .inl (cy 0, 8, .inl (fun _ => 0))), ((a 23), .inl (cy 0, 8, .inl (fun _ => 0))), ((a 24), .inl (cy 0, 8, .inl (fun _ => 0))), ((a 25), .inl (cy 0, 4, .inl (fun _ => 0))), ((a 40), .inr (6, [.ref (a 10), .int 0, .ref (a 41), .ref (a 42), .ref (a 43), .ref (a 44), .ref (a 45), .int 0])), ((a 41), .inl (cy 0, 8, .inl (fun _ => 0))), ((a 42), .inl (cy 0, 8, .inl (fun _ => 0))), ((a 43), .inl (cy 0, 8, .inl (fun _ => 0))), ((a 44), .inl (cy 0, 8, .inl (fun _ => 0))), ((a 45), .inl (cy 0, 4, .inl (fun _ => 0)))] H := hP
  have hD : va_D A [((a 3), .inr (6, [.ref (a 10), .int 0, .ref (a 21), .ref (a 22), .ref (a 23), .ref (a 24), .ref (a 25), .int 0])), ((a 21), .inl (cy 0, 8, .inl (fun _ => 0))), ((a 22), .inl (cy 0, 8, .inl (fun _ => 0))), ((a 23), .inl (cy 0, 8, .inl (fun _ => 0))), ((a 24), .inl (cy 0, 8, .inl (fun _ => 0))), ((a 25), .inl (cy 0, 4, .inl (fun _ => 0))), ((a 40), .inr (6, [.ref (a 10), .int 0, .ref (a 41), .ref (a 42), .ref (a 43), .ref (a 44), .ref (a 45), .int 0])), ((a 41), .inl (cy 0, 8, .inl (fun _ => 0))), ((a 42), .inl (cy 0, 8, .inl (fun _ => 0))), ((a 43), .inl (cy 0, 8, .inl (fun _ => 0))), ((a 44), .inl (cy 0, 8, .inl (fun _ => 0))), ((a 45), .inl (cy 0, 4, .inl (fun _ => 0)))] := hD
  refine lv_aload_n hx hb dX6_copyFrom_84 rfl (lv_at hl 1 rfl) ?_
  refine va_get (ci := 6) (v := .ref (a 25)) (C := RX6) (T := TX6) (N := 8) hx hb htA in_X6 hown hK hP 0 rfl rfl 6 (by decide) (htA _ wd_187) (fun _ h => h) rfl dX6_copyFrom_85 ?_
  refine lv_iconst (v := 0) hx hb dX6_copyFrom_88 (by decide) ?_
  refine lv_aload_n hx hb dX6_copyFrom_89 rfl (lv_at hl 0 rfl) ?_
  refine va_get (ci := 6) (v := .ref (a 45)) (C := RX6) (T := TX6) (N := 8) hx hb htA in_X6 hown hK hP 6 rfl rfl 6 (by decide) (htA _ wd_187) (fun _ h => h) rfl dX6_copyFrom_90 ?_
  refine lv_iconst (v := 0) hx hb dX6_copyFrom_93 (by decide) ?_
  refine lv_iconst (v := 4) hx hb dX6_copyFrom_94 (by decide) ?_
  refine va_copyi hx hb (hml.trans hl.1.symm) hown (htA _ wd_392) (htA _ wd_394) (htA _ wd_393) (htA _ wd_22) hK hP hD hS 5 11 0 0 rfl rfl rfl rfl rfl (by decide) (by decide) (by decide) (by decide) (by decide) (fun _ _ => rfl) (by decide) (by decide) dX6_copyFrom_95 (fun H locs hP hD hS => ?_)
  rw [va_cpy_same] at hP hD
  have hP : va_P D vwCl [((a 3), .inr (6, [.ref (a 10), .int 0, .ref (a 21), .ref (a 22), .ref (a 23), .ref (a 24), .ref (a 25), .int 0])), ((a 21), .inl (cy 0, 8, .inl (fun _ => 0))), ((a 22), .inl (cy 0, 8, .inl (fun _ => 0))), ((a 23), .inl (cy 0, 8, .inl (fun _ => 0))), ((a 24), .inl (cy 0, 8, .inl (fun _ => 0))), ((a 25), .inl (cy 0, 4, .inl (fun _ => 0))), ((a 40), .inr (6, [.ref (a 10), .int 0, .ref (a 41), .ref (a 42), .ref (a 43), .ref (a 44), .ref (a 45), .int 0])), ((a 41), .inl (cy 0, 8, .inl (fun _ => 0))), ((a 42), .inl (cy 0, 8, .inl (fun _ => 0))), ((a 43), .inl (cy 0, 8, .inl (fun _ => 0))), ((a 44), .inl (cy 0, 8, .inl (fun _ => 0))), ((a 45), .inl (cy 0, 4, .inl (fun _ => 0)))] H := hP
  have hD : va_D A [((a 3), .inr (6, [.ref (a 10), .int 0, .ref (a 21), .ref (a 22), .ref (a 23), .ref (a 24), .ref (a 25), .int 0])), ((a 21), .inl (cy 0, 8, .inl (fun _ => 0))), ((a 22), .inl (cy 0, 8, .inl (fun _ => 0))), ((a 23), .inl (cy 0, 8, .inl (fun _ => 0))), ((a 24), .inl (cy 0, 8, .inl (fun _ => 0))), ((a 25), .inl (cy 0, 4, .inl (fun _ => 0))), ((a 40), .inr (6, [.ref (a 10), .int 0, .ref (a 41), .ref (a 42), .ref (a 43), .ref (a 44), .ref (a 45), .int 0])), ((a 41), .inl (cy 0, 8, .inl (fun _ => 0))), ((a 42), .inl (cy 0, 8, .inl (fun _ => 0))), ((a 43), .inl (cy 0, 8, .inl (fun _ => 0))), ((a 44), .inl (cy 0, 8, .inl (fun _ => 0))), ((a 45), .inl (cy 0, 4, .inl (fun _ => 0)))] := hD
  exact rV hX hE hP hD hS dX6_copyFrom_98 (by decide) (by decide) (rfl)
set_option maxHeartbeats 4000000 in
set_option maxRecDepth 100000 in
theorem au_X6_nextFall_27 (l : Launch) (D : va_G) (cy : Nat → ClassId) (a : Nat → Nat) : Ci l yX6_nextFall cX6_nextFall 4 (some .boolean) { frames := 0, cells := 0, slots := 0, locals := 0 } D cy [.ref (a 40), .int 2147483647] [((a 10), .inr (0, [.int 0, .int 1, .int 1, .int 0, .int 0, .ref (a 11), .ref (a 12), .ref (a 13), .null, .null])), ((a 40), .inr (6, [.ref (a 10), .int 0, .ref (a 41), .ref (a 42), .ref (a 43), .ref (a 44), .ref (a 45), .int 0]))] (fun r W1 => (W1 = [((a 10), .inr (0, [.int 0, .int 1, .int 1, .int 0, .int 0, .ref (a 11), .ref (a 12), .ref (a 13), .null, .null])), ((a 40), .inr (6, [.ref (a 10), .int 0, .ref (a 41), .ref (a 42), .ref (a 43), .ref (a 44), .ref (a 45), .int 0]))] ∧ r = 0)) := by
  refine Ci.of (by decide) (Nat.le_of_ble_eq_true rfl) ?_
  intro p e s m below meth c A ls hX hE hP hD hl
  obtain ⟨hx, hb, hr, hml, hown, htA, hlk⟩ := id hX
  have hK := hE.1
  have hS : va_S A s.heap s.heap [] := va_S.rf
  have hl : lv_has ls 4 [(0, .ref (a 40)), (1, .int 2147483647)] := hl
  refine lv_ldc hx hb hown (htA _ wd_476) dX6_nextFall_0 ?_
  refine lv_istore_n (lv' := [(2, .int 2147483647), (0, .ref (a 40)), (1, .int 2147483647)]) hx hb dX6_nextFall_2 rfl hl (by decide) rfl (fun ls hl => ?_)
  refine lv_iconst (v := 0) hx hb dX6_nextFall_3 (by decide) ?_
  refine lv_istore_n (lv' := [(3, .int 0), (2, .int 2147483647), (0, .ref (a 40)), (1, .int 2147483647)]) hx hb dX6_nextFall_4 rfl hl (by decide) rfl (fun ls hl => ?_)
  refine lv_iload_n hx hb dX6_nextFall_5 rfl (lv_at hl 0 rfl) ?_
  refine lv_aload_n hx hb dX6_nextFall_6 rfl (lv_at hl 2 rfl) ?_
  refine va_get (ci := 6) (v := .ref (a 10)) (C := RX6) (T := TX6) (N := 8) hx hb htA in_X6 hown hK hP 1 rfl rfl 0 (by decide) (htA _ wd_166) (fun _ h => h) rfl dX6_nextFall_7 ?_
  refine va_get (ci := 0) (v := .int 0) (C := RX0) (T := TX0) (N := 10) hx hb htA in_X0 hown hK hP 0 rfl rfl 3 (by decide) (htA _ wd_86) (fun _ h => h) rfl dX6_nextFall_10 ?_
  refine lv_icmp_ge (tgt := 43) hx hb dX6_nextFall_13 (by decide) (fun _ => ?_) (fun q => absurd (by decide) q)
  refine lv_iload_n hx hb dX6_nextFall_43 rfl (lv_at hl 1 rfl) ?_
  refine lv_ldc hx hb hown (htA _ wd_476) dX6_nextFall_44 ?_
  refine lv_icmp_eq (tgt := 54) hx hb dX6_nextFall_46 (by decide) (fun _ => ?_) (fun q => absurd (by decide) q)
  refine lv_iconst (v := 0) hx hb dX6_nextFall_54 (by decide) ?_
  exact rZ hX (by decide) hE hP hD hS dX6_nextFall_55 (by decide) (by decide) (⟨rfl, rfl⟩)
set_option maxHeartbeats 4000000 in
set_option maxRecDepth 100000 in
theorem au_X1_look_28 (l : Launch) (D : va_G) (cy : Nat → ClassId) (a : Nat → Nat) : Cv l yX1_look cX1_look 3 none { frames := 2, cells := 0, slots := 0, locals := 81 } D cy [.ref (a 5), .ref (a 3)] [((a 3), .inr (6, [.ref (a 10), .int 0, .ref (a 21), .ref (a 22), .ref (a 23), .ref (a 24), .ref (a 25), .int 0])), ((a 21), .inl (cy 0, 8, .inl (fun _ => 0))), ((a 22), .inl (cy 0, 8, .inl (fun _ => 0))), ((a 23), .inl (cy 0, 8, .inl (fun _ => 0))), ((a 24), .inl (cy 0, 8, .inl (fun _ => 0))), ((a 25), .inl (cy 0, 4, .inl (fun _ => 0))), ((a 10), .inr (0, [.int 0, .int 1, .int 1, .int 0, .int 0, .ref (a 11), .ref (a 12), .ref (a 13), .null, .null])), ((a 5), .inr (1, [.ref (a 40), .int 0, .int 0, .ref (a 46), .ref (a 47)])), ((a 40), .inr (6, [.ref (a 10), .int 0, .ref (a 41), .ref (a 42), .ref (a 43), .ref (a 44), .ref (a 45), .int 0])), ((a 41), .inl (cy 0, 8, .inl (fun _ => 0))), ((a 42), .inl (cy 0, 8, .inl (fun _ => 0))), ((a 43), .inl (cy 0, 8, .inl (fun _ => 0))), ((a 44), .inl (cy 0, 8, .inl (fun _ => 0))), ((a 45), .inl (cy 0, 4, .inl (fun _ => 0)))] (fun W1 => (W1 = [((a 5), .inr (1, [.ref (a 40), .int 0, .int 0, .ref (a 46), .ref (a 47)])), ((a 3), .inr (6, [.ref (a 10), .int 0, .ref (a 21), .ref (a 22), .ref (a 23), .ref (a 24), .ref (a 25), .int 0])), ((a 21), .inl (cy 0, 8, .inl (fun _ => 0))), ((a 22), .inl (cy 0, 8, .inl (fun _ => 0))), ((a 23), .inl (cy 0, 8, .inl (fun _ => 0))), ((a 24), .inl (cy 0, 8, .inl (fun _ => 0))), ((a 25), .inl (cy 0, 4, .inl (fun _ => 0))), ((a 41), .inl (cy 0, 8, .inl (fun _ => 0))), ((a 42), .inl (cy 0, 8, .inl (fun _ => 0))), ((a 43), .inl (cy 0, 8, .inl (fun _ => 0))), ((a 44), .inl (cy 0, 8, .inl (fun _ => 0))), ((a 45), .inl (cy 0, 4, .inl (fun _ => 0))), ((a 10), .inr (0, [.int 0, .int 1, .int 1, .int 0, .int 0, .ref (a 11), .ref (a 12), .ref (a 13), .null, .null])), ((a 40), .inr (6, [.ref (a 10), .int 0, .ref (a 41), .ref (a 42), .ref (a 43), .ref (a 44), .ref (a 45), .int 0]))])) := by
  refine Cv.of (by decide) (Nat.le_of_ble_eq_true rfl) ?_
  intro p e s m below meth c A ls hX hE hP hD hl hin
  obtain ⟨hx, hb, hr, hml, hown, htA, hlk⟩ := id hX
  have hK := hE.1
  have hS : va_S A s.heap s.heap [] := va_S.rf
  have hl : lv_has ls 3 [(0, .ref (a 5)), (1, .ref (a 3))] := hl
  refine lv_aload_n hx hb dX1_look_0 rfl (lv_at hl 0 rfl) ?_
  refine va_get (ci := 1) (v := .ref (a 40)) (C := RX1) (T := TX1) (N := 5) hx hb htA in_X1 hown hK hP 7 rfl rfl 0 (by decide) (htA _ wd_267) (fun _ h => h) rfl dX1_look_1 ?_
  refine lv_aload_n hx hb dX1_look_4 rfl (lv_at hl 1 rfl) ?_
  refine kVv (As := [.ref (a 3)]) (rest := []) (wr := [((a 10), .inr (0, [.int 0, .int 1, .int 1, .int 0, .int 0, .ref (a 11), .ref (a 12), .ref (a 13), .null, .null])), ((a 5), .inr (1, [.ref (a 40), .int 0, .int 0, .ref (a 46), .ref (a 47)]))]) hX hE (au_X6_copyFrom_26 l D cy a) (cwVA 1 htA wd_391 wd_489 wd_6 wd_389 wd_390 (by decide +kernel) ⟨by decide, by decide⟩) hP hD hS [0, 1, 2, 3, 4, 5, 8, 9, 10, 11, 12, 13] [6, 7] rfl rfl (by decide) 6 rfl rfl rfl rfl hl.1 rfl (Nat.le_of_ble_eq_true rfl) dX1_look_5 (by decide) (fun W1 H locs hw hP hD hS => ?_)
  refine W.widen (k := 0) (n := 0) (by decide) (by decide) ?_
  obtain rfl := hw
  have hP : va_P D vwCl [((a 10), .inr (0, [.int 0, .int 1, .int 1, .int 0, .int 0, .ref (a 11), .ref (a 12), .ref (a 13), .null, .null])), ((a 5), .inr (1, [.ref (a 40), .int 0, .int 0, .ref (a 46), .ref (a 47)])), ((a 3), .inr (6, [.ref (a 10), .int 0, .ref (a 21), .ref (a 22), .ref (a 23), .ref (a 24), .ref (a 25), .int 0])), ((a 21), .inl (cy 0, 8, .inl (fun _ => 0))), ((a 22), .inl (cy 0, 8, .inl (fun _ => 0))), ((a 23), .inl (cy 0, 8, .inl (fun _ => 0))), ((a 24), .inl (cy 0, 8, .inl (fun _ => 0))), ((a 25), .inl (cy 0, 4, .inl (fun _ => 0))), ((a 40), .inr (6, [.ref (a 10), .int 0, .ref (a 41), .ref (a 42), .ref (a 43), .ref (a 44), .ref (a 45), .int 0])), ((a 41), .inl (cy 0, 8, .inl (fun _ => 0))), ((a 42), .inl (cy 0, 8, .inl (fun _ => 0))), ((a 43), .inl (cy 0, 8, .inl (fun _ => 0))), ((a 44), .inl (cy 0, 8, .inl (fun _ => 0))), ((a 45), .inl (cy 0, 4, .inl (fun _ => 0)))] H := hP
  have hD : va_D A [((a 10), .inr (0, [.int 0, .int 1, .int 1, .int 0, .int 0, .ref (a 11), .ref (a 12), .ref (a 13), .null, .null])), ((a 5), .inr (1, [.ref (a 40), .int 0, .int 0, .ref (a 46), .ref (a 47)])), ((a 3), .inr (6, [.ref (a 10), .int 0, .ref (a 21), .ref (a 22), .ref (a 23), .ref (a 24), .ref (a 25), .int 0])), ((a 21), .inl (cy 0, 8, .inl (fun _ => 0))), ((a 22), .inl (cy 0, 8, .inl (fun _ => 0))), ((a 23), .inl (cy 0, 8, .inl (fun _ => 0))), ((a 24), .inl (cy 0, 8, .inl (fun _ => 0))), ((a 25), .inl (cy 0, 4, .inl (fun _ => 0))), ((a 40), .inr (6, [.ref (a 10), .int 0, .ref (a 41), .ref (a 42), .ref (a 43), .ref (a 44), .ref (a 45), .int 0])), ((a 41), .inl (cy 0, 8, .inl (fun _ => 0))), ((a 42), .inl (cy 0, 8, .inl (fun _ => 0))), ((a 43), .inl (cy 0, 8, .inl (fun _ => 0))), ((a 44), .inl (cy 0, 8, .inl (fun _ => 0))), ((a 45), .inl (cy 0, 4, .inl (fun _ => 0)))] := hD
  refine lv_aload_n hx hb dX1_look_8 rfl (lv_at hl 0 rfl) ?_
  refine lv_aload_n hx hb dX1_look_9 rfl (lv_at hl 1 rfl) ?_
  refine va_get (ci := 6) (v := .int 0) (C := RX6) (T := TX6) (N := 8) hx hb htA in_X6 hown hK hP 2 rfl rfl 1 (by decide) (htA _ wd_171) (fun _ h => h) rfl dX1_look_10 ?_
  refine va_put (ci := 1) (v := .int 0) (ty := .int) (C := RX1) (T := TX1) (N := 5) hx hb htA in_X1 tyX1 tyX1_ok nmX1 hown hK hP hD hS 1 rfl rfl 1 (by decide) (htA _ wd_270) (fun _ h => h) rfl (by decide +kernel) rfl rfl (Nat.le_of_ble_eq_true rfl) dX1_look_13 (fun H locs hP hD hS => ?_)
  have hP : va_P D vwCl [((a 10), .inr (0, [.int 0, .int 1, .int 1, .int 0, .int 0, .ref (a 11), .ref (a 12), .ref (a 13), .null, .null])), ((a 5), .inr (1, [.ref (a 40), .int 0, .int 0, .ref (a 46), .ref (a 47)])), ((a 3), .inr (6, [.ref (a 10), .int 0, .ref (a 21), .ref (a 22), .ref (a 23), .ref (a 24), .ref (a 25), .int 0])), ((a 21), .inl (cy 0, 8, .inl (fun _ => 0))), ((a 22), .inl (cy 0, 8, .inl (fun _ => 0))), ((a 23), .inl (cy 0, 8, .inl (fun _ => 0))), ((a 24), .inl (cy 0, 8, .inl (fun _ => 0))), ((a 25), .inl (cy 0, 4, .inl (fun _ => 0))), ((a 40), .inr (6, [.ref (a 10), .int 0, .ref (a 41), .ref (a 42), .ref (a 43), .ref (a 44), .ref (a 45), .int 0])), ((a 41), .inl (cy 0, 8, .inl (fun _ => 0))), ((a 42), .inl (cy 0, 8, .inl (fun _ => 0))), ((a 43), .inl (cy 0, 8, .inl (fun _ => 0))), ((a 44), .inl (cy 0, 8, .inl (fun _ => 0))), ((a 45), .inl (cy 0, 4, .inl (fun _ => 0)))] H := hP
  have hD : va_D A [((a 10), .inr (0, [.int 0, .int 1, .int 1, .int 0, .int 0, .ref (a 11), .ref (a 12), .ref (a 13), .null, .null])), ((a 5), .inr (1, [.ref (a 40), .int 0, .int 0, .ref (a 46), .ref (a 47)])), ((a 3), .inr (6, [.ref (a 10), .int 0, .ref (a 21), .ref (a 22), .ref (a 23), .ref (a 24), .ref (a 25), .int 0])), ((a 21), .inl (cy 0, 8, .inl (fun _ => 0))), ((a 22), .inl (cy 0, 8, .inl (fun _ => 0))), ((a 23), .inl (cy 0, 8, .inl (fun _ => 0))), ((a 24), .inl (cy 0, 8, .inl (fun _ => 0))), ((a 25), .inl (cy 0, 4, .inl (fun _ => 0))), ((a 40), .inr (6, [.ref (a 10), .int 0, .ref (a 41), .ref (a 42), .ref (a 43), .ref (a 44), .ref (a 45), .int 0])), ((a 41), .inl (cy 0, 8, .inl (fun _ => 0))), ((a 42), .inl (cy 0, 8, .inl (fun _ => 0))), ((a 43), .inl (cy 0, 8, .inl (fun _ => 0))), ((a 44), .inl (cy 0, 8, .inl (fun _ => 0))), ((a 45), .inl (cy 0, 4, .inl (fun _ => 0)))] := hD
  refine lv_aload_n hx hb dX1_look_16 rfl (lv_at hl 0 rfl) ?_
  refine lv_iconst (v := 0) hx hb dX1_look_17 (by decide) ?_
  refine va_put (ci := 1) (v := .int 0) (ty := .int) (C := RX1) (T := TX1) (N := 5) hx hb htA in_X1 tyX1 tyX1_ok nmX1 hown hK hP hD hS 1 rfl rfl 2 (by decide) (htA _ wd_271) (fun _ h => h) rfl (by decide +kernel) rfl rfl (Nat.le_of_ble_eq_true rfl) dX1_look_18 (fun H locs hP hD hS => ?_)
  have hP : va_P D vwCl [((a 10), .inr (0, [.int 0, .int 1, .int 1, .int 0, .int 0, .ref (a 11), .ref (a 12), .ref (a 13), .null, .null])), ((a 5), .inr (1, [.ref (a 40), .int 0, .int 0, .ref (a 46), .ref (a 47)])), ((a 3), .inr (6, [.ref (a 10), .int 0, .ref (a 21), .ref (a 22), .ref (a 23), .ref (a 24), .ref (a 25), .int 0])), ((a 21), .inl (cy 0, 8, .inl (fun _ => 0))), ((a 22), .inl (cy 0, 8, .inl (fun _ => 0))), ((a 23), .inl (cy 0, 8, .inl (fun _ => 0))), ((a 24), .inl (cy 0, 8, .inl (fun _ => 0))), ((a 25), .inl (cy 0, 4, .inl (fun _ => 0))), ((a 40), .inr (6, [.ref (a 10), .int 0, .ref (a 41), .ref (a 42), .ref (a 43), .ref (a 44), .ref (a 45), .int 0])), ((a 41), .inl (cy 0, 8, .inl (fun _ => 0))), ((a 42), .inl (cy 0, 8, .inl (fun _ => 0))), ((a 43), .inl (cy 0, 8, .inl (fun _ => 0))), ((a 44), .inl (cy 0, 8, .inl (fun _ => 0))), ((a 45), .inl (cy 0, 4, .inl (fun _ => 0)))] H := hP
  have hD : va_D A [((a 10), .inr (0, [.int 0, .int 1, .int 1, .int 0, .int 0, .ref (a 11), .ref (a 12), .ref (a 13), .null, .null])), ((a 5), .inr (1, [.ref (a 40), .int 0, .int 0, .ref (a 46), .ref (a 47)])), ((a 3), .inr (6, [.ref (a 10), .int 0, .ref (a 21), .ref (a 22), .ref (a 23), .ref (a 24), .ref (a 25), .int 0])), ((a 21), .inl (cy 0, 8, .inl (fun _ => 0))), ((a 22), .inl (cy 0, 8, .inl (fun _ => 0))), ((a 23), .inl (cy 0, 8, .inl (fun _ => 0))), ((a 24), .inl (cy 0, 8, .inl (fun _ => 0))), ((a 25), .inl (cy 0, 4, .inl (fun _ => 0))), ((a 40), .inr (6, [.ref (a 10), .int 0, .ref (a 41), .ref (a 42), .ref (a 43), .ref (a 44), .ref (a 45), .int 0])), ((a 41), .inl (cy 0, 8, .inl (fun _ => 0))), ((a 42), .inl (cy 0, 8, .inl (fun _ => 0))), ((a 43), .inl (cy 0, 8, .inl (fun _ => 0))), ((a 44), .inl (cy 0, 8, .inl (fun _ => 0))), ((a 45), .inl (cy 0, 4, .inl (fun _ => 0)))] := hD
  refine lv_iconst (v := 0) hx hb dX1_look_21 (by decide) ?_
  refine lv_istore_n (lv' := [(2, .int 0), (0, .ref (a 5)), (1, .ref (a 3))]) hx hb dX1_look_22 rfl hl (by decide) rfl (fun ls hl => ?_)
  refine lv_iload_n hx hb dX1_look_23 rfl (lv_at hl 0 rfl) ?_
  refine lv_bipush (v := 8) hx hb dX1_look_24 (by decide) ?_
  refine lv_icmp_ge (tgt := 88) hx hb dX1_look_26 (by decide) (fun q => absurd q (by decide)) (fun _ => ?_)
  refine lv_aload_n hx hb dX1_look_29 rfl (lv_at hl 1 rfl) ?_
  refine va_get (ci := 1) (v := .ref (a 40)) (C := RX1) (T := TX1) (N := 5) hx hb htA in_X1 hown hK hP 1 rfl rfl 0 (by decide) (htA _ wd_267) (fun _ h => h) rfl dX1_look_30 ?_
  refine lv_ldc hx hb hown (htA _ wd_490) dX1_look_33 ?_
  refine kVi (As := [.int 2147483647]) (rest := []) (wr := [((a 5), .inr (1, [.ref (a 40), .int 0, .int 0, .ref (a 46), .ref (a 47)])), ((a 3), .inr (6, [.ref (a 10), .int 0, .ref (a 21), .ref (a 22), .ref (a 23), .ref (a 24), .ref (a 25), .int 0])), ((a 21), .inl (cy 0, 8, .inl (fun _ => 0))), ((a 22), .inl (cy 0, 8, .inl (fun _ => 0))), ((a 23), .inl (cy 0, 8, .inl (fun _ => 0))), ((a 24), .inl (cy 0, 8, .inl (fun _ => 0))), ((a 25), .inl (cy 0, 4, .inl (fun _ => 0))), ((a 41), .inl (cy 0, 8, .inl (fun _ => 0))), ((a 42), .inl (cy 0, 8, .inl (fun _ => 0))), ((a 43), .inl (cy 0, 8, .inl (fun _ => 0))), ((a 44), .inl (cy 0, 8, .inl (fun _ => 0))), ((a 45), .inl (cy 0, 4, .inl (fun _ => 0)))]) hX hE (au_X6_nextFall_27 l D cy a) (cwVA 1 htA wd_494 wd_491 wd_6 wd_492 wd_493 (by decide +kernel) ⟨by decide, by decide⟩) hP hD hS [0, 8] [1, 2, 3, 4, 5, 6, 7, 9, 10, 11, 12, 13] rfl rfl (by decide) 1 rfl rfl rfl rfl hl.1 rfl (Nat.le_of_ble_eq_true rfl) dX1_look_35 (by decide) (fun r_ W1 H locs hw hP hD hS => ?_)
  refine W.widen (k := 0) (n := 0) (by decide) (by decide) ?_
  obtain ⟨rfl, rfl⟩ := hw
  have hP : va_P D vwCl [((a 5), .inr (1, [.ref (a 40), .int 0, .int 0, .ref (a 46), .ref (a 47)])), ((a 3), .inr (6, [.ref (a 10), .int 0, .ref (a 21), .ref (a 22), .ref (a 23), .ref (a 24), .ref (a 25), .int 0])), ((a 21), .inl (cy 0, 8, .inl (fun _ => 0))), ((a 22), .inl (cy 0, 8, .inl (fun _ => 0))), ((a 23), .inl (cy 0, 8, .inl (fun _ => 0))), ((a 24), .inl (cy 0, 8, .inl (fun _ => 0))), ((a 25), .inl (cy 0, 4, .inl (fun _ => 0))), ((a 41), .inl (cy 0, 8, .inl (fun _ => 0))), ((a 42), .inl (cy 0, 8, .inl (fun _ => 0))), ((a 43), .inl (cy 0, 8, .inl (fun _ => 0))), ((a 44), .inl (cy 0, 8, .inl (fun _ => 0))), ((a 45), .inl (cy 0, 4, .inl (fun _ => 0))), ((a 10), .inr (0, [.int 0, .int 1, .int 1, .int 0, .int 0, .ref (a 11), .ref (a 12), .ref (a 13), .null, .null])), ((a 40), .inr (6, [.ref (a 10), .int 0, .ref (a 41), .ref (a 42), .ref (a 43), .ref (a 44), .ref (a 45), .int 0]))] H := hP
  have hD : va_D A [((a 5), .inr (1, [.ref (a 40), .int 0, .int 0, .ref (a 46), .ref (a 47)])), ((a 3), .inr (6, [.ref (a 10), .int 0, .ref (a 21), .ref (a 22), .ref (a 23), .ref (a 24), .ref (a 25), .int 0])), ((a 21), .inl (cy 0, 8, .inl (fun _ => 0))), ((a 22), .inl (cy 0, 8, .inl (fun _ => 0))), ((a 23), .inl (cy 0, 8, .inl (fun _ => 0))), ((a 24), .inl (cy 0, 8, .inl (fun _ => 0))), ((a 25), .inl (cy 0, 4, .inl (fun _ => 0))), ((a 41), .inl (cy 0, 8, .inl (fun _ => 0))), ((a 42), .inl (cy 0, 8, .inl (fun _ => 0))), ((a 43), .inl (cy 0, 8, .inl (fun _ => 0))), ((a 44), .inl (cy 0, 8, .inl (fun _ => 0))), ((a 45), .inl (cy 0, 4, .inl (fun _ => 0))), ((a 10), .inr (0, [.int 0, .int 1, .int 1, .int 0, .int 0, .ref (a 11), .ref (a 12), .ref (a 13), .null, .null])), ((a 40), .inr (6, [.ref (a 10), .int 0, .ref (a 41), .ref (a 42), .ref (a 43), .ref (a 44), .ref (a 45), .int 0]))] := hD
  refine lv_if_ne (tgt := 44) hx hb dX1_look_38 (by decide) (fun q => absurd rfl q) (fun _ => ?_)
  refine lv_goto (tgt := 88) hx hb dX1_look_41 (by decide) ?_
  exact rV hX hE hP hD hS dX1_look_88 (by decide) (by decide) (rfl)
set_option maxHeartbeats 4000000 in
set_option maxRecDepth 100000 in
theorem m_next (l : Launch) (D : va_G) (cy : Nat → ClassId) (a : Nat → Nat) : Ci l yX10_next cX10_next 1 (some .int) { frames := 3, cells := 0, slots := 0, locals := 103 } D cy [.ref (a 0)] [((a 0), .inr (10, [.ref (a 1), .int 0, .int 0, .int (-1), .ref (a 2), .ref (a 3), .ref (a 4), .ref (a 5), .ref (a 6), .ref (a 7), .ref (a 8), .ref (a 9), .int 0])), ((a 3), .inr (6, [.ref (a 10), .int 0, .ref (a 21), .ref (a 22), .ref (a 23), .ref (a 24), .ref (a 25), .int 0])), ((a 21), .inl (cy 0, 8, .inl (fun _ => 0))), ((a 22), .inl (cy 0, 8, .inl (fun _ => 0))), ((a 23), .inl (cy 0, 8, .inl (fun _ => 0))), ((a 24), .inl (cy 0, 8, .inl (fun _ => 0))), ((a 25), .inl (cy 0, 4, .inl (fun _ => 0))), ((a 10), .inr (0, [.int 0, .int 1, .int 1, .int 0, .int 0, .ref (a 11), .ref (a 12), .ref (a 13), .null, .null])), ((a 5), .inr (1, [.ref (a 40), .int 0, .int 0, .ref (a 46), .ref (a 47)])), ((a 40), .inr (6, [.ref (a 10), .int 0, .ref (a 41), .ref (a 42), .ref (a 43), .ref (a 44), .ref (a 45), .int 0])), ((a 41), .inl (cy 0, 8, .inl (fun _ => 0))), ((a 42), .inl (cy 0, 8, .inl (fun _ => 0))), ((a 43), .inl (cy 0, 8, .inl (fun _ => 0))), ((a 44), .inl (cy 0, 8, .inl (fun _ => 0))), ((a 45), .inl (cy 0, 4, .inl (fun _ => 0)))] (fun r _ => r = vi_next) := by
  refine Ci.of (by decide) (Nat.le_of_ble_eq_true rfl) ?_
  intro p e s m below meth c A ls hX hE hP hD hl
  obtain ⟨hx, hb, hr, hml, hown, htA, hlk⟩ := id hX
  have hK := hE.1
  have hS : va_S A s.heap s.heap [] := va_S.rf
  have hl : lv_has ls 1 [(0, .ref (a 0))] := hl
  refine lv_aload_n hx hb dX10_next_0 rfl (lv_at hl 0 rfl) ?_
  refine va_get (ci := 10) (v := .ref (a 5)) (C := RX10) (T := TX10) (N := 13) hx hb htA in_X10 hown hK hP 0 rfl rfl 7 (by decide) (htA _ wd_315) (fun _ h => h) rfl dX10_next_1 ?_
  refine lv_aload_n hx hb dX10_next_4 rfl (lv_at hl 0 rfl) ?_
  refine va_get (ci := 10) (v := .ref (a 3)) (C := RX10) (T := TX10) (N := 13) hx hb htA in_X10 hown hK hP 0 rfl rfl 5 (by decide) (htA _ wd_313) (fun _ h => h) rfl dX10_next_5 ?_
  refine kVv (As := [.ref (a 3)]) (rest := []) (wr := [((a 0), .inr (10, [.ref (a 1), .int 0, .int 0, .int (-1), .ref (a 2), .ref (a 3), .ref (a 4), .ref (a 5), .ref (a 6), .ref (a 7), .ref (a 8), .ref (a 9), .int 0]))]) hX hE (au_X1_look_28 l D cy a) (cwVA 1 htA wd_488 wd_485 wd_8 wd_486 wd_487 (by decide +kernel) ⟨by decide, by decide⟩) hP hD hS [1, 2, 3, 4, 5, 6, 7, 8, 9, 10, 11, 12, 13, 14] [0] rfl rfl (by decide) 7 rfl rfl rfl rfl hl.1 rfl (Nat.le_of_ble_eq_true rfl) dX10_next_8 (by decide) (fun W1 H locs hw hP hD hS => ?_)
  refine W.widen (k := 0) (n := 0) (by decide) (by decide) ?_
  obtain rfl := hw
  have hP : va_P D vwCl [((a 0), .inr (10, [.ref (a 1), .int 0, .int 0, .int (-1), .ref (a 2), .ref (a 3), .ref (a 4), .ref (a 5), .ref (a 6), .ref (a 7), .ref (a 8), .ref (a 9), .int 0])), ((a 5), .inr (1, [.ref (a 40), .int 0, .int 0, .ref (a 46), .ref (a 47)])), ((a 3), .inr (6, [.ref (a 10), .int 0, .ref (a 21), .ref (a 22), .ref (a 23), .ref (a 24), .ref (a 25), .int 0])), ((a 21), .inl (cy 0, 8, .inl (fun _ => 0))), ((a 22), .inl (cy 0, 8, .inl (fun _ => 0))), ((a 23), .inl (cy 0, 8, .inl (fun _ => 0))), ((a 24), .inl (cy 0, 8, .inl (fun _ => 0))), ((a 25), .inl (cy 0, 4, .inl (fun _ => 0))), ((a 41), .inl (cy 0, 8, .inl (fun _ => 0))), ((a 42), .inl (cy 0, 8, .inl (fun _ => 0))), ((a 43), .inl (cy 0, 8, .inl (fun _ => 0))), ((a 44), .inl (cy 0, 8, .inl (fun _ => 0))), ((a 45), .inl (cy 0, 4, .inl (fun _ => 0))), ((a 10), .inr (0, [.int 0, .int 1, .int 1, .int 0, .int 0, .ref (a 11), .ref (a 12), .ref (a 13), .null, .null])), ((a 40), .inr (6, [.ref (a 10), .int 0, .ref (a 41), .ref (a 42), .ref (a 43), .ref (a 44), .ref (a 45), .int 0]))] H := hP
  have hD : va_D A [((a 0), .inr (10, [.ref (a 1), .int 0, .int 0, .int (-1), .ref (a 2), .ref (a 3), .ref (a 4), .ref (a 5), .ref (a 6), .ref (a 7), .ref (a 8), .ref (a 9), .int 0])), ((a 5), .inr (1, [.ref (a 40), .int 0, .int 0, .ref (a 46), .ref (a 47)])), ((a 3), .inr (6, [.ref (a 10), .int 0, .ref (a 21), .ref (a 22), .ref (a 23), .ref (a 24), .ref (a 25), .int 0])), ((a 21), .inl (cy 0, 8, .inl (fun _ => 0))), ((a 22), .inl (cy 0, 8, .inl (fun _ => 0))), ((a 23), .inl (cy 0, 8, .inl (fun _ => 0))), ((a 24), .inl (cy 0, 8, .inl (fun _ => 0))), ((a 25), .inl (cy 0, 4, .inl (fun _ => 0))), ((a 41), .inl (cy 0, 8, .inl (fun _ => 0))), ((a 42), .inl (cy 0, 8, .inl (fun _ => 0))), ((a 43), .inl (cy 0, 8, .inl (fun _ => 0))), ((a 44), .inl (cy 0, 8, .inl (fun _ => 0))), ((a 45), .inl (cy 0, 4, .inl (fun _ => 0))), ((a 10), .inr (0, [.int 0, .int 1, .int 1, .int 0, .int 0, .ref (a 11), .ref (a 12), .ref (a 13), .null, .null])), ((a 40), .inr (6, [.ref (a 10), .int 0, .ref (a 41), .ref (a 42), .ref (a 43), .ref (a 44), .ref (a 45), .int 0]))] := hD
  refine lv_aload_n hx hb dX10_next_11 rfl (lv_at hl 0 rfl) ?_
  refine va_get (ci := 10) (v := .ref (a 5)) (C := RX10) (T := TX10) (N := 13) hx hb htA in_X10 hown hK hP 0 rfl rfl 7 (by decide) (htA _ wd_315) (fun _ h => h) rfl dX10_next_12 ?_
  refine va_get (ci := 1) (v := .int 0) (C := RX1) (T := TX1) (N := 5) hx hb htA in_X1 hown hK hP 1 rfl rfl 2 (by decide) (htA _ wd_273) (fun _ h => h) rfl dX10_next_15 ?_
  refine lv_if_le (tgt := 33) hx hb dX10_next_18 (by decide) (fun _ => ?_) (fun q => absurd (by decide) q)
  refine lv_iconst (v := (-1)) hx hb dX10_next_33 (by decide) ?_
  exact rI hX hE hP hD hS dX10_next_34 (by decide) (by decide) ((by first | rfl | decide | (unfold vi_next; (repeat' split) <;> first | rfl | decide | (exfalso; omega))))
def vi_busiest : Int32 := -1
set_option maxHeartbeats 4000000 in
set_option maxRecDepth 100000 in
theorem m_busiest (l : Launch) (D : va_G) (cy : Nat → ClassId) (a : Nat → Nat) : Ci l yX10_busiest cX10_busiest 5 (some .int) { frames := 3, cells := 0, slots := 0, locals := 103 } D cy [.ref (a 0)] [((a 0), .inr (10, [.ref (a 1), .int 0, .int 0, .int (-1), .ref (a 2), .ref (a 3), .ref (a 4), .ref (a 5), .ref (a 6), .ref (a 7), .ref (a 8), .ref (a 9), .int 0])), ((a 3), .inr (6, [.ref (a 10), .int 0, .ref (a 21), .ref (a 22), .ref (a 23), .ref (a 24), .ref (a 25), .int 0])), ((a 21), .inl (cy 0, 8, .inl (fun _ => 0))), ((a 22), .inl (cy 0, 8, .inl (fun _ => 0))), ((a 23), .inl (cy 0, 8, .inl (fun _ => 0))), ((a 24), .inl (cy 0, 8, .inl (fun _ => 0))), ((a 25), .inl (cy 0, 4, .inl (fun _ => 0))), ((a 10), .inr (0, [.int 0, .int 1, .int 1, .int 0, .int 0, .ref (a 11), .ref (a 12), .ref (a 13), .null, .null])), ((a 5), .inr (1, [.ref (a 40), .int 0, .int 0, .ref (a 46), .ref (a 47)])), ((a 40), .inr (6, [.ref (a 10), .int 0, .ref (a 41), .ref (a 42), .ref (a 43), .ref (a 44), .ref (a 45), .int 0])), ((a 41), .inl (cy 0, 8, .inl (fun _ => 0))), ((a 42), .inl (cy 0, 8, .inl (fun _ => 0))), ((a 43), .inl (cy 0, 8, .inl (fun _ => 0))), ((a 44), .inl (cy 0, 8, .inl (fun _ => 0))), ((a 45), .inl (cy 0, 4, .inl (fun _ => 0)))] (fun r _ => r = vi_busiest) := by
  refine Ci.of (by decide) (Nat.le_of_ble_eq_true rfl) ?_
  intro p e s m below meth c A ls hX hE hP hD hl
  obtain ⟨hx, hb, hr, hml, hown, htA, hlk⟩ := id hX
  have hK := hE.1
  have hS : va_S A s.heap s.heap [] := va_S.rf
  have hl : lv_has ls 5 [(0, .ref (a 0))] := hl
  refine lv_aload_n hx hb dX10_busiest_0 rfl (lv_at hl 0 rfl) ?_
  refine va_get (ci := 10) (v := .ref (a 5)) (C := RX10) (T := TX10) (N := 13) hx hb htA in_X10 hown hK hP 0 rfl rfl 7 (by decide) (htA _ wd_315) (fun _ h => h) rfl dX10_busiest_1 ?_
  refine lv_aload_n hx hb dX10_busiest_4 rfl (lv_at hl 0 rfl) ?_
  refine va_get (ci := 10) (v := .ref (a 3)) (C := RX10) (T := TX10) (N := 13) hx hb htA in_X10 hown hK hP 0 rfl rfl 5 (by decide) (htA _ wd_313) (fun _ h => h) rfl dX10_busiest_5 ?_
  refine kVv (As := [.ref (a 3)]) (rest := []) (wr := [((a 0), .inr (10, [.ref (a 1), .int 0, .int 0, .int (-1), .ref (a 2), .ref (a 3), .ref (a 4), .ref (a 5), .ref (a 6), .ref (a 7), .ref (a 8), .ref (a 9), .int 0]))]) hX hE (au_X1_look_28 l D cy a) (cwVA 1 htA wd_488 wd_485 wd_8 wd_486 wd_487 (by decide +kernel) ⟨by decide, by decide⟩) hP hD hS [1, 2, 3, 4, 5, 6, 7, 8, 9, 10, 11, 12, 13, 14] [0] rfl rfl (by decide) 7 rfl rfl rfl rfl hl.1 rfl (Nat.le_of_ble_eq_true rfl) dX10_busiest_8 (by decide) (fun W1 H locs hw hP hD hS => ?_)
  refine W.widen (k := 0) (n := 0) (by decide) (by decide) ?_
  obtain rfl := hw
  have hP : va_P D vwCl [((a 0), .inr (10, [.ref (a 1), .int 0, .int 0, .int (-1), .ref (a 2), .ref (a 3), .ref (a 4), .ref (a 5), .ref (a 6), .ref (a 7), .ref (a 8), .ref (a 9), .int 0])), ((a 5), .inr (1, [.ref (a 40), .int 0, .int 0, .ref (a 46), .ref (a 47)])), ((a 3), .inr (6, [.ref (a 10), .int 0, .ref (a 21), .ref (a 22), .ref (a 23), .ref (a 24), .ref (a 25), .int 0])), ((a 21), .inl (cy 0, 8, .inl (fun _ => 0))), ((a 22), .inl (cy 0, 8, .inl (fun _ => 0))), ((a 23), .inl (cy 0, 8, .inl (fun _ => 0))), ((a 24), .inl (cy 0, 8, .inl (fun _ => 0))), ((a 25), .inl (cy 0, 4, .inl (fun _ => 0))), ((a 41), .inl (cy 0, 8, .inl (fun _ => 0))), ((a 42), .inl (cy 0, 8, .inl (fun _ => 0))), ((a 43), .inl (cy 0, 8, .inl (fun _ => 0))), ((a 44), .inl (cy 0, 8, .inl (fun _ => 0))), ((a 45), .inl (cy 0, 4, .inl (fun _ => 0))), ((a 10), .inr (0, [.int 0, .int 1, .int 1, .int 0, .int 0, .ref (a 11), .ref (a 12), .ref (a 13), .null, .null])), ((a 40), .inr (6, [.ref (a 10), .int 0, .ref (a 41), .ref (a 42), .ref (a 43), .ref (a 44), .ref (a 45), .int 0]))] H := hP
  have hD : va_D A [((a 0), .inr (10, [.ref (a 1), .int 0, .int 0, .int (-1), .ref (a 2), .ref (a 3), .ref (a 4), .ref (a 5), .ref (a 6), .ref (a 7), .ref (a 8), .ref (a 9), .int 0])), ((a 5), .inr (1, [.ref (a 40), .int 0, .int 0, .ref (a 46), .ref (a 47)])), ((a 3), .inr (6, [.ref (a 10), .int 0, .ref (a 21), .ref (a 22), .ref (a 23), .ref (a 24), .ref (a 25), .int 0])), ((a 21), .inl (cy 0, 8, .inl (fun _ => 0))), ((a 22), .inl (cy 0, 8, .inl (fun _ => 0))), ((a 23), .inl (cy 0, 8, .inl (fun _ => 0))), ((a 24), .inl (cy 0, 8, .inl (fun _ => 0))), ((a 25), .inl (cy 0, 4, .inl (fun _ => 0))), ((a 41), .inl (cy 0, 8, .inl (fun _ => 0))), ((a 42), .inl (cy 0, 8, .inl (fun _ => 0))), ((a 43), .inl (cy 0, 8, .inl (fun _ => 0))), ((a 44), .inl (cy 0, 8, .inl (fun _ => 0))), ((a 45), .inl (cy 0, 4, .inl (fun _ => 0))), ((a 10), .inr (0, [.int 0, .int 1, .int 1, .int 0, .int 0, .ref (a 11), .ref (a 12), .ref (a 13), .null, .null])), ((a 40), .inr (6, [.ref (a 10), .int 0, .ref (a 41), .ref (a 42), .ref (a 43), .ref (a 44), .ref (a 45), .int 0]))] := hD
  refine lv_iconst (v := 0) hx hb dX10_busiest_11 (by decide) ?_
  refine lv_istore_n (lv' := [(1, .int 0), (0, .ref (a 0))]) hx hb dX10_busiest_12 rfl hl (by decide) rfl (fun ls hl => ?_)
  refine lv_iconst (v := (-1)) hx hb dX10_busiest_13 (by decide) ?_
  refine lv_istore_n (lv' := [(2, .int (-1)), (1, .int 0), (0, .ref (a 0))]) hx hb dX10_busiest_14 rfl hl (by decide) rfl (fun ls hl => ?_)
  refine lv_iconst (v := 0) hx hb dX10_busiest_15 (by decide) ?_
  refine lv_istore_n (lv' := [(3, .int 0), (2, .int (-1)), (1, .int 0), (0, .ref (a 0))]) hx hb dX10_busiest_16 rfl hl (by decide) rfl (fun ls hl => ?_)
  refine lv_iload_n hx hb dX10_busiest_17 rfl (lv_at hl 0 rfl) ?_
  refine lv_aload_n hx hb dX10_busiest_18 rfl (lv_at hl 3 rfl) ?_
  refine va_get (ci := 10) (v := .ref (a 5)) (C := RX10) (T := TX10) (N := 13) hx hb htA in_X10 hown hK hP 0 rfl rfl 7 (by decide) (htA _ wd_315) (fun _ h => h) rfl dX10_busiest_19 ?_
  refine va_get (ci := 1) (v := .int 0) (C := RX1) (T := TX1) (N := 5) hx hb htA in_X1 hown hK hP 1 rfl rfl 2 (by decide) (htA _ wd_273) (fun _ h => h) rfl dX10_busiest_22 ?_
  refine lv_icmp_ge (tgt := 67) hx hb dX10_busiest_25 (by decide) (fun _ => ?_) (fun q => absurd (by decide) q)
  refine lv_iload_n hx hb dX10_busiest_67 rfl (lv_at hl 1 rfl) ?_
  exact rI hX hE hP hD hS dX10_busiest_68 (by decide) (by decide) ((by first | rfl | decide | (unfold vi_busiest; (repeat' split) <;> first | rfl | decide | (exfalso; omega))))
def kf_fallIn (p1 : Int32) : Int32 := if 1 ≤ p1.toInt ∧ p1.toInt ≤ 999 then 0 else 1
def vf_fallIn (p1 : Int32) : Int64 := 0
set_option maxHeartbeats 4000000 in
set_option maxRecDepth 100000 in
theorem au_X10_needWithin_29 (l : Launch) (hlt : l.stackTraces = false) (D : va_G) (cy : Nat → ClassId) (a : Nat → Nat) (v1_ : Int32) : Xv l yX10_needWithin cX10_needWithin 3 none { frames := 6, cells := 1, slots := 6, locals := 90 } D cy [.int v1_, .int 1, .int 999] [] (fun W1 => ((¬ v1_ < 1) ∧ (v1_ ≤ 999) ∧ W1 = [])) (fun E _ => ((v1_ < 1) ∧ E = "java/lang/IllegalArgumentException") ∨ ((¬ v1_ < 1) ∧ (¬ v1_ ≤ 999) ∧ E = "java/lang/IllegalArgumentException")) := by
  refine Xv.of (by decide) (Nat.le_of_ble_eq_true rfl) ?_
  intro p e s m below meth c A ls hX hE hP hD hl hxt
  obtain ⟨hx, hb, hr, hml, hown, htA, hlk⟩ := id hX
  have hK := hE.1
  have hS : va_S A s.heap s.heap [] := va_S.rf
  have hl : lv_has ls 3 [(0, .int v1_), (1, .int 1), (2, .int 999)] := hl
  refine lv_iload_n hx hb dX10_needWithin_0 rfl (lv_at hl 0 rfl) ?_
  refine lv_iload_n hx hb dX10_needWithin_1 rfl (lv_at hl 1 rfl) ?_
  refine lv_icmp_lt (tgt := 10) hx hb dX10_needWithin_2 (by decide) (fun c1 => ?_) (fun c1 => ?_)
  · exact k_throwS hlt hX hE hxt hP hD hS hl.1 (by decide) (htA _ wd_531) (htA _ wd_14) (xSW_in hE.2.2.2 "LateFalls" 202 "out of its bounds" (by decide)) (at_X10_87 htA hE.2.2.2) ot_X10_83_87 dX10_needWithin_10 dX10_needWithin_13 dX10_needWithin_14 dX10_needWithin_16 dX10_needWithin_19 (by decide) (by decide) (by decide) (by decide) (by decide) (by decide) (Or.inl (⟨c1, rfl⟩))
  · refine lv_iload_n hx hb dX10_needWithin_5 rfl (lv_at hl 0 rfl) ?_
    refine lv_iload_n hx hb dX10_needWithin_6 rfl (lv_at hl 2 rfl) ?_
    refine lv_icmp_le (tgt := 20) hx hb dX10_needWithin_7 (by decide) (fun c2 => ?_) (fun c2 => ?_)
    · exact vx_ret (rV hX hE hP hD hS dX10_needWithin_20 (by decide) (by decide) (⟨c1, c2, rfl⟩))
    · exact k_throwS hlt hX hE hxt hP hD hS hl.1 (by decide) (htA _ wd_531) (htA _ wd_14) (xSW_in hE.2.2.2 "LateFalls" 202 "out of its bounds" (by decide)) (at_X10_87 htA hE.2.2.2) ot_X10_83_87 dX10_needWithin_10 dX10_needWithin_13 dX10_needWithin_14 dX10_needWithin_16 dX10_needWithin_19 (by decide) (by decide) (by decide) (by decide) (by decide) (by decide) (Or.inr (⟨c1, c2, rfl⟩))
set_option maxHeartbeats 4000000 in
set_option maxRecDepth 100000 in
theorem m_fallIn (l : Launch) (hlt : l.stackTraces = false) (D : va_G) (cy : Nat → ClassId) (a : Nat → Nat) (p1 : Int32) : Xi l yX10_fallIn cX10_fallIn 4 (some .int) { frames := 7, cells := 1, slots := 6, locals := 112 } D cy [.ref (a 0), .int p1] [((a 0), .inr (10, [.ref (a 1), .int 0, .int 0, .int (-1), .ref (a 2), .ref (a 3), .ref (a 4), .ref (a 5), .ref (a 6), .ref (a 7), .ref (a 8), .ref (a 9), .int 0])), ((a 3), .inr (6, [.ref (a 10), .int 0, .ref (a 21), .ref (a 22), .ref (a 23), .ref (a 24), .ref (a 25), .int 0])), ((a 21), .inl (cy 0, 8, .inl (fun _ => 0))), ((a 22), .inl (cy 0, 8, .inl (fun _ => 0))), ((a 23), .inl (cy 0, 8, .inl (fun _ => 0))), ((a 24), .inl (cy 0, 8, .inl (fun _ => 0))), ((a 25), .inl (cy 0, 4, .inl (fun _ => 0))), ((a 10), .inr (0, [.int 0, .int 1, .int 1, .int 0, .int 0, .ref (a 11), .ref (a 12), .ref (a 13), .null, .null])), ((a 5), .inr (1, [.ref (a 40), .int 0, .int 0, .ref (a 46), .ref (a 47)])), ((a 40), .inr (6, [.ref (a 10), .int 0, .ref (a 41), .ref (a 42), .ref (a 43), .ref (a 44), .ref (a 45), .int 0])), ((a 41), .inl (cy 0, 8, .inl (fun _ => 0))), ((a 42), .inl (cy 0, 8, .inl (fun _ => 0))), ((a 43), .inl (cy 0, 8, .inl (fun _ => 0))), ((a 44), .inl (cy 0, 8, .inl (fun _ => 0))), ((a 45), .inl (cy 0, 4, .inl (fun _ => 0)))] (fun r _ => kf_fallIn p1 = 0 ∧ r.toInt64 = vf_fallIn p1) (fun E _ => (E = "java/lang/IllegalArgumentException" ∧ kf_fallIn p1 = 1)) := by
  refine Xi.of (by decide) (Nat.le_of_ble_eq_true rfl) ?_
  intro p e s m below meth c A ls hX hE hP hD hl hxt
  obtain ⟨hx, hb, hr, hml, hown, htA, hlk⟩ := id hX
  have hK := hE.1
  have hS : va_S A s.heap s.heap [] := va_S.rf
  have hl : lv_has ls 4 [(0, .ref (a 0)), (1, .int p1)] := hl
  refine lv_iload_n hx hb dX10_fallIn_0 rfl (lv_at hl 1 rfl) ?_
  refine lv_iconst (v := 1) hx hb dX10_fallIn_1 (by decide) ?_
  refine lv_sipush (v := 999) hx hb dX10_fallIn_2 (by decide) ?_
  refine xSv (As := [.int p1, .int 1, .int 999]) (rest := []) (wr := [((a 0), .inr (10, [.ref (a 1), .int 0, .int 0, .int (-1), .ref (a 2), .ref (a 3), .ref (a 4), .ref (a 5), .ref (a 6), .ref (a 7), .ref (a 8), .ref (a 9), .int 0])), ((a 3), .inr (6, [.ref (a 10), .int 0, .ref (a 21), .ref (a 22), .ref (a 23), .ref (a 24), .ref (a 25), .int 0])), ((a 21), .inl (cy 0, 8, .inl (fun _ => 0))), ((a 22), .inl (cy 0, 8, .inl (fun _ => 0))), ((a 23), .inl (cy 0, 8, .inl (fun _ => 0))), ((a 24), .inl (cy 0, 8, .inl (fun _ => 0))), ((a 25), .inl (cy 0, 4, .inl (fun _ => 0))), ((a 10), .inr (0, [.int 0, .int 1, .int 1, .int 0, .int 0, .ref (a 11), .ref (a 12), .ref (a 13), .null, .null])), ((a 5), .inr (1, [.ref (a 40), .int 0, .int 0, .ref (a 46), .ref (a 47)])), ((a 40), .inr (6, [.ref (a 10), .int 0, .ref (a 41), .ref (a 42), .ref (a 43), .ref (a 44), .ref (a 45), .int 0])), ((a 41), .inl (cy 0, 8, .inl (fun _ => 0))), ((a 42), .inl (cy 0, 8, .inl (fun _ => 0))), ((a 43), .inl (cy 0, 8, .inl (fun _ => 0))), ((a 44), .inl (cy 0, 8, .inl (fun _ => 0))), ((a 45), .inl (cy 0, 4, .inl (fun _ => 0)))]) hX hE (au_X10_needWithin_29 l hlt D cy a p1) (cwSA 3 htA wd_935 wd_933 wd_1 wd_934 (by decide +kernel) ⟨by decide, by decide⟩) hP hD hS [] [0, 1, 2, 3, 4, 5, 6, 7, 8, 9, 10, 11, 12, 13, 14] rfl rfl (by decide) rfl hl.1 rfl (Nat.le_of_ble_eq_true rfl) dX10_fallIn_5 (by decide) (fun E ce q9 W1 H locs hw hP hD hS hce hcv hcl => ?_) (fun W1 H locs hw hP hD hS => ?_)
  · rcases hw with ⟨g3, rfl⟩ | ⟨g4, g5, rfl⟩
    · exact xO hX hE hxt hP hD hS hce hcv hcl (by decide) (by decide) (⟨rfl, (by have kg3 := g3; (try simp only [lg_cmp_lt, lg_cmp_le, lg_cmp_ge, lg_cmp_gt, lg_cmp_eq, fa_lt, fa_le, fa_eq, fa_lt64, fa_le64, fa_eq64, Int32.toInt_toInt64, li_1, lj_1] at kg3); first | rfl | (unfold kf_fallIn; (repeat' split) <;> first | rfl | (exfalso; omega)))⟩)
    · exact xO hX hE hxt hP hD hS hce hcv hcl (by decide) (by decide) (⟨rfl, (by have kg4 := g4; have kg5 := g5; (try simp only [lg_cmp_lt, lg_cmp_le, lg_cmp_ge, lg_cmp_gt, lg_cmp_eq, fa_lt, fa_le, fa_eq, fa_lt64, fa_le64, fa_eq64, Int32.toInt_toInt64, li_1, lj_1, li_999, lj_999] at kg4); (try simp only [lg_cmp_lt, lg_cmp_le, lg_cmp_ge, lg_cmp_gt, lg_cmp_eq, fa_lt, fa_le, fa_eq, fa_lt64, fa_le64, fa_eq64, Int32.toInt_toInt64, li_1, lj_1, li_999, lj_999] at kg5); first | rfl | (unfold kf_fallIn; (repeat' split) <;> first | rfl | (exfalso; omega)))⟩)
  · refine W.widen (k := 1) (n := 6) (by decide) (by decide) ?_
    obtain ⟨g1, g2, rfl⟩ := hw
    have hP : va_P D vwCl [((a 0), .inr (10, [.ref (a 1), .int 0, .int 0, .int (-1), .ref (a 2), .ref (a 3), .ref (a 4), .ref (a 5), .ref (a 6), .ref (a 7), .ref (a 8), .ref (a 9), .int 0])), ((a 3), .inr (6, [.ref (a 10), .int 0, .ref (a 21), .ref (a 22), .ref (a 23), .ref (a 24), .ref (a 25), .int 0])), ((a 21), .inl (cy 0, 8, .inl (fun _ => 0))), ((a 22), .inl (cy 0, 8, .inl (fun _ => 0))), ((a 23), .inl (cy 0, 8, .inl (fun _ => 0))), ((a 24), .inl (cy 0, 8, .inl (fun _ => 0))), ((a 25), .inl (cy 0, 4, .inl (fun _ => 0))), ((a 10), .inr (0, [.int 0, .int 1, .int 1, .int 0, .int 0, .ref (a 11), .ref (a 12), .ref (a 13), .null, .null])), ((a 5), .inr (1, [.ref (a 40), .int 0, .int 0, .ref (a 46), .ref (a 47)])), ((a 40), .inr (6, [.ref (a 10), .int 0, .ref (a 41), .ref (a 42), .ref (a 43), .ref (a 44), .ref (a 45), .int 0])), ((a 41), .inl (cy 0, 8, .inl (fun _ => 0))), ((a 42), .inl (cy 0, 8, .inl (fun _ => 0))), ((a 43), .inl (cy 0, 8, .inl (fun _ => 0))), ((a 44), .inl (cy 0, 8, .inl (fun _ => 0))), ((a 45), .inl (cy 0, 4, .inl (fun _ => 0)))] H := hP
    have hD : va_D A [((a 0), .inr (10, [.ref (a 1), .int 0, .int 0, .int (-1), .ref (a 2), .ref (a 3), .ref (a 4), .ref (a 5), .ref (a 6), .ref (a 7), .ref (a 8), .ref (a 9), .int 0])), ((a 3), .inr (6, [.ref (a 10), .int 0, .ref (a 21), .ref (a 22), .ref (a 23), .ref (a 24), .ref (a 25), .int 0])), ((a 21), .inl (cy 0, 8, .inl (fun _ => 0))), ((a 22), .inl (cy 0, 8, .inl (fun _ => 0))), ((a 23), .inl (cy 0, 8, .inl (fun _ => 0))), ((a 24), .inl (cy 0, 8, .inl (fun _ => 0))), ((a 25), .inl (cy 0, 4, .inl (fun _ => 0))), ((a 10), .inr (0, [.int 0, .int 1, .int 1, .int 0, .int 0, .ref (a 11), .ref (a 12), .ref (a 13), .null, .null])), ((a 5), .inr (1, [.ref (a 40), .int 0, .int 0, .ref (a 46), .ref (a 47)])), ((a 40), .inr (6, [.ref (a 10), .int 0, .ref (a 41), .ref (a 42), .ref (a 43), .ref (a 44), .ref (a 45), .int 0])), ((a 41), .inl (cy 0, 8, .inl (fun _ => 0))), ((a 42), .inl (cy 0, 8, .inl (fun _ => 0))), ((a 43), .inl (cy 0, 8, .inl (fun _ => 0))), ((a 44), .inl (cy 0, 8, .inl (fun _ => 0))), ((a 45), .inl (cy 0, 4, .inl (fun _ => 0)))] := hD
    refine lv_aload_n hx hb dX10_fallIn_8 rfl (lv_at hl 0 rfl) ?_
    refine va_get (ci := 10) (v := .ref (a 5)) (C := RX10) (T := TX10) (N := 13) hx hb htA in_X10 hown hK hP 0 rfl rfl 7 (by decide) (htA _ wd_315) (fun _ h => h) rfl dX10_fallIn_9 ?_
    refine lv_aload_n hx hb dX10_fallIn_12 rfl (lv_at hl 0 rfl) ?_
    refine va_get (ci := 10) (v := .ref (a 3)) (C := RX10) (T := TX10) (N := 13) hx hb htA in_X10 hown hK hP 0 rfl rfl 5 (by decide) (htA _ wd_313) (fun _ h => h) rfl dX10_fallIn_13 ?_
    refine kVv (As := [.ref (a 3)]) (rest := []) (wr := [((a 0), .inr (10, [.ref (a 1), .int 0, .int 0, .int (-1), .ref (a 2), .ref (a 3), .ref (a 4), .ref (a 5), .ref (a 6), .ref (a 7), .ref (a 8), .ref (a 9), .int 0]))]) hX hE (au_X1_look_28 l D cy a) (cwVA 1 htA wd_488 wd_485 wd_8 wd_486 wd_487 (by decide +kernel) ⟨by decide, by decide⟩) hP hD hS [1, 2, 3, 4, 5, 6, 7, 8, 9, 10, 11, 12, 13, 14] [0] rfl rfl (by decide) 7 rfl rfl rfl rfl hl.1 rfl (Nat.le_of_ble_eq_true rfl) dX10_fallIn_16 (by decide) (fun W1 H locs hw hP hD hS => ?_)
    refine W.widen (k := 1) (n := 6) (by decide) (by decide) ?_
    obtain rfl := hw
    have hP : va_P D vwCl [((a 0), .inr (10, [.ref (a 1), .int 0, .int 0, .int (-1), .ref (a 2), .ref (a 3), .ref (a 4), .ref (a 5), .ref (a 6), .ref (a 7), .ref (a 8), .ref (a 9), .int 0])), ((a 5), .inr (1, [.ref (a 40), .int 0, .int 0, .ref (a 46), .ref (a 47)])), ((a 3), .inr (6, [.ref (a 10), .int 0, .ref (a 21), .ref (a 22), .ref (a 23), .ref (a 24), .ref (a 25), .int 0])), ((a 21), .inl (cy 0, 8, .inl (fun _ => 0))), ((a 22), .inl (cy 0, 8, .inl (fun _ => 0))), ((a 23), .inl (cy 0, 8, .inl (fun _ => 0))), ((a 24), .inl (cy 0, 8, .inl (fun _ => 0))), ((a 25), .inl (cy 0, 4, .inl (fun _ => 0))), ((a 41), .inl (cy 0, 8, .inl (fun _ => 0))), ((a 42), .inl (cy 0, 8, .inl (fun _ => 0))), ((a 43), .inl (cy 0, 8, .inl (fun _ => 0))), ((a 44), .inl (cy 0, 8, .inl (fun _ => 0))), ((a 45), .inl (cy 0, 4, .inl (fun _ => 0))), ((a 10), .inr (0, [.int 0, .int 1, .int 1, .int 0, .int 0, .ref (a 11), .ref (a 12), .ref (a 13), .null, .null])), ((a 40), .inr (6, [.ref (a 10), .int 0, .ref (a 41), .ref (a 42), .ref (a 43), .ref (a 44), .ref (a 45), .int 0]))] H := hP
    have hD : va_D A [((a 0), .inr (10, [.ref (a 1), .int 0, .int 0, .int (-1), .ref (a 2), .ref (a 3), .ref (a 4), .ref (a 5), .ref (a 6), .ref (a 7), .ref (a 8), .ref (a 9), .int 0])), ((a 5), .inr (1, [.ref (a 40), .int 0, .int 0, .ref (a 46), .ref (a 47)])), ((a 3), .inr (6, [.ref (a 10), .int 0, .ref (a 21), .ref (a 22), .ref (a 23), .ref (a 24), .ref (a 25), .int 0])), ((a 21), .inl (cy 0, 8, .inl (fun _ => 0))), ((a 22), .inl (cy 0, 8, .inl (fun _ => 0))), ((a 23), .inl (cy 0, 8, .inl (fun _ => 0))), ((a 24), .inl (cy 0, 8, .inl (fun _ => 0))), ((a 25), .inl (cy 0, 4, .inl (fun _ => 0))), ((a 41), .inl (cy 0, 8, .inl (fun _ => 0))), ((a 42), .inl (cy 0, 8, .inl (fun _ => 0))), ((a 43), .inl (cy 0, 8, .inl (fun _ => 0))), ((a 44), .inl (cy 0, 8, .inl (fun _ => 0))), ((a 45), .inl (cy 0, 4, .inl (fun _ => 0))), ((a 10), .inr (0, [.int 0, .int 1, .int 1, .int 0, .int 0, .ref (a 11), .ref (a 12), .ref (a 13), .null, .null])), ((a 40), .inr (6, [.ref (a 10), .int 0, .ref (a 41), .ref (a 42), .ref (a 43), .ref (a 44), .ref (a 45), .int 0]))] := hD
    refine lv_iconst (v := 0) hx hb dX10_fallIn_19 (by decide) ?_
    refine lv_istore_n (lv' := [(2, .int 0), (0, .ref (a 0)), (1, .int p1)]) hx hb dX10_fallIn_20 rfl hl (by decide) rfl (fun ls hl => ?_)
    refine lv_iconst (v := 0) hx hb dX10_fallIn_21 (by decide) ?_
    refine lv_istore_n (lv' := [(3, .int 0), (2, .int 0), (0, .ref (a 0)), (1, .int p1)]) hx hb dX10_fallIn_22 rfl hl (by decide) rfl (fun ls hl => ?_)
    refine lv_iload_n hx hb dX10_fallIn_23 rfl (lv_at hl 0 rfl) ?_
    refine lv_aload_n hx hb dX10_fallIn_24 rfl (lv_at hl 2 rfl) ?_
    refine va_get (ci := 10) (v := .ref (a 5)) (C := RX10) (T := TX10) (N := 13) hx hb htA in_X10 hown hK hP 0 rfl rfl 7 (by decide) (htA _ wd_315) (fun _ h => h) rfl dX10_fallIn_25 ?_
    refine va_get (ci := 1) (v := .int 0) (C := RX1) (T := TX1) (N := 5) hx hb htA in_X1 hown hK hP 1 rfl rfl 2 (by decide) (htA _ wd_273) (fun _ h => h) rfl dX10_fallIn_28 ?_
    refine lv_icmp_ge (tgt := 65) hx hb dX10_fallIn_31 (by decide) (fun _ => ?_) (fun q => absurd (by decide) q)
    refine lv_iload_n hx hb dX10_fallIn_65 rfl (lv_at hl 1 rfl) ?_
    exact vx_ret (rI hX hE hP hD hS dX10_fallIn_66 (by decide) (by decide) (⟨(by have kg1 := g1; have kg2 := g2; (try simp only [lg_cmp_lt, lg_cmp_le, lg_cmp_ge, lg_cmp_gt, lg_cmp_eq, fa_lt, fa_le, fa_eq, fa_lt64, fa_le64, fa_eq64, Int32.toInt_toInt64, li_1, lj_1, li_999, lj_999] at kg1); (try simp only [lg_cmp_lt, lg_cmp_le, lg_cmp_ge, lg_cmp_gt, lg_cmp_eq, fa_lt, fa_le, fa_eq, fa_lt64, fa_le64, fa_eq64, Int32.toInt_toInt64, li_1, lj_1, li_999, lj_999] at kg2); first | rfl | (unfold kf_fallIn; (repeat' split) <;> first | rfl | (exfalso; omega))), (by have kg1 := g1; have kg2 := g2; (try simp only [lg_cmp_lt, lg_cmp_le, lg_cmp_ge, lg_cmp_gt, lg_cmp_eq, fa_lt, fa_le, fa_eq, fa_lt64, fa_le64, fa_eq64, Int32.toInt_toInt64, li_1, lj_1, li_999, lj_999] at kg1); (try simp only [lg_cmp_lt, lg_cmp_le, lg_cmp_ge, lg_cmp_gt, lg_cmp_eq, fa_lt, fa_le, fa_eq, fa_lt64, fa_le64, fa_eq64, Int32.toInt_toInt64, li_1, lj_1, li_999, lj_999] at kg2); first | rfl | decide | (unfold vf_fallIn; (repeat' split) <;> first | rfl | decide | (exfalso; omega)))⟩))
def kf_heightIn (p1 : Int32) (p2 : Int32) : Int32 := if p1.toInt = 0 then (if 0 ≤ p2.toInt ∧ p2.toInt ≤ 999 then 0 else 2) else 1
def vf_heightIn (p1 : Int32) (p2 : Int32) : Int64 := 0
set_option maxHeartbeats 4000000 in
set_option maxRecDepth 100000 in
theorem au_X10_needWithin_30 (l : Launch) (hlt : l.stackTraces = false) (D : va_G) (cy : Nat → ClassId) (a : Nat → Nat) (v1_ : Int32) : Xv l yX10_needWithin cX10_needWithin 3 none { frames := 6, cells := 1, slots := 6, locals := 90 } D cy [.int v1_, .int 0, .int 999] [] (fun W1 => ((¬ v1_ < 0) ∧ (v1_ ≤ 999) ∧ W1 = [])) (fun E _ => ((v1_ < 0) ∧ E = "java/lang/IllegalArgumentException") ∨ ((¬ v1_ < 0) ∧ (¬ v1_ ≤ 999) ∧ E = "java/lang/IllegalArgumentException")) := by
  refine Xv.of (by decide) (Nat.le_of_ble_eq_true rfl) ?_
  intro p e s m below meth c A ls hX hE hP hD hl hxt
  obtain ⟨hx, hb, hr, hml, hown, htA, hlk⟩ := id hX
  have hK := hE.1
  have hS : va_S A s.heap s.heap [] := va_S.rf
  have hl : lv_has ls 3 [(0, .int v1_), (1, .int 0), (2, .int 999)] := hl
  refine lv_iload_n hx hb dX10_needWithin_0 rfl (lv_at hl 0 rfl) ?_
  refine lv_iload_n hx hb dX10_needWithin_1 rfl (lv_at hl 1 rfl) ?_
  refine lv_icmp_lt (tgt := 10) hx hb dX10_needWithin_2 (by decide) (fun c1 => ?_) (fun c1 => ?_)
  · exact k_throwS hlt hX hE hxt hP hD hS hl.1 (by decide) (htA _ wd_531) (htA _ wd_14) (xSW_in hE.2.2.2 "LateFalls" 202 "out of its bounds" (by decide)) (at_X10_87 htA hE.2.2.2) ot_X10_83_87 dX10_needWithin_10 dX10_needWithin_13 dX10_needWithin_14 dX10_needWithin_16 dX10_needWithin_19 (by decide) (by decide) (by decide) (by decide) (by decide) (by decide) (Or.inl (⟨c1, rfl⟩))
  · refine lv_iload_n hx hb dX10_needWithin_5 rfl (lv_at hl 0 rfl) ?_
    refine lv_iload_n hx hb dX10_needWithin_6 rfl (lv_at hl 2 rfl) ?_
    refine lv_icmp_le (tgt := 20) hx hb dX10_needWithin_7 (by decide) (fun c2 => ?_) (fun c2 => ?_)
    · exact vx_ret (rV hX hE hP hD hS dX10_needWithin_20 (by decide) (by decide) (⟨c1, c2, rfl⟩))
    · exact k_throwS hlt hX hE hxt hP hD hS hl.1 (by decide) (htA _ wd_531) (htA _ wd_14) (xSW_in hE.2.2.2 "LateFalls" 202 "out of its bounds" (by decide)) (at_X10_87 htA hE.2.2.2) ot_X10_83_87 dX10_needWithin_10 dX10_needWithin_13 dX10_needWithin_14 dX10_needWithin_16 dX10_needWithin_19 (by decide) (by decide) (by decide) (by decide) (by decide) (by decide) (Or.inr (⟨c1, c2, rfl⟩))
set_option maxHeartbeats 4000000 in
set_option maxRecDepth 100000 in
theorem au_X6_copyFrom_31 (l : Launch) (D : va_G) (cy : Nat → ClassId) (a : Nat → Nat) : Cv l yX6_copyFrom cX6_copyFrom 2 none { frames := 1, cells := 0, slots := 0, locals := 60 } D cy [.ref (a 40), .ref (a 3)] [((a 21), .inl (cy 0, 8, .inl (fun _ => 0))), ((a 22), .inl (cy 0, 8, .inl (fun _ => 0))), ((a 23), .inl (cy 0, 8, .inl (fun _ => 0))), ((a 24), .inl (cy 0, 8, .inl (fun _ => 0))), ((a 25), .inl (cy 0, 4, .inl (fun _ => 0))), ((a 40), .inr (6, [.ref (a 10), .int 0, .ref (a 41), .ref (a 42), .ref (a 43), .ref (a 44), .ref (a 45), .int 0])), ((a 41), .inl (cy 0, 8, .inl (fun _ => 0))), ((a 42), .inl (cy 0, 8, .inl (fun _ => 0))), ((a 43), .inl (cy 0, 8, .inl (fun _ => 0))), ((a 44), .inl (cy 0, 8, .inl (fun _ => 0))), ((a 45), .inl (cy 0, 4, .inl (fun _ => 0))), ((a 3), .inr (6, [.ref (a 10), .int 0, .ref (a 21), .ref (a 22), .ref (a 23), .ref (a 24), .ref (a 25), .int 0]))] (fun W1 => (W1 = [((a 21), .inl (cy 0, 8, .inl (fun _ => 0))), ((a 22), .inl (cy 0, 8, .inl (fun _ => 0))), ((a 23), .inl (cy 0, 8, .inl (fun _ => 0))), ((a 24), .inl (cy 0, 8, .inl (fun _ => 0))), ((a 25), .inl (cy 0, 4, .inl (fun _ => 0))), ((a 40), .inr (6, [.ref (a 10), .int 0, .ref (a 41), .ref (a 42), .ref (a 43), .ref (a 44), .ref (a 45), .int 0])), ((a 41), .inl (cy 0, 8, .inl (fun _ => 0))), ((a 42), .inl (cy 0, 8, .inl (fun _ => 0))), ((a 43), .inl (cy 0, 8, .inl (fun _ => 0))), ((a 44), .inl (cy 0, 8, .inl (fun _ => 0))), ((a 45), .inl (cy 0, 4, .inl (fun _ => 0))), ((a 3), .inr (6, [.ref (a 10), .int 0, .ref (a 21), .ref (a 22), .ref (a 23), .ref (a 24), .ref (a 25), .int 0]))])) := by
  refine Cv.of (by decide) (Nat.le_of_ble_eq_true rfl) ?_
  intro p e s m below meth c A ls hX hE hP hD hl hin
  obtain ⟨hx, hb, hr, hml, hown, htA, hlk⟩ := id hX
  have hK := hE.1
  have hS : va_S A s.heap s.heap [] := va_S.rf
  have hl : lv_has ls 2 [(0, .ref (a 40)), (1, .ref (a 3))] := hl
  refine lv_aload_n hx hb dX6_copyFrom_0 rfl (lv_at hl 0 rfl) ?_
  refine lv_aload_n hx hb dX6_copyFrom_1 rfl (lv_at hl 1 rfl) ?_
  refine va_get (ci := 6) (v := .ref (a 10)) (C := RX6) (T := TX6) (N := 8) hx hb htA in_X6 hown hK hP 11 rfl rfl 0 (by decide) (htA _ wd_166) (fun _ h => h) rfl dX6_copyFrom_2 ?_
  refine va_put (ci := 6) (v := .ref (a 10)) (ty := tyX6 0) (C := RX6) (T := TX6) (N := 8) hx hb htA in_X6 tyX6 tyX6_ok nmX6 hown hK hP hD hS 5 rfl rfl 0 (by decide) (htA _ wd_166) (fun _ h => h) rfl (by decide +kernel) rfl rfl (Nat.le_of_ble_eq_true rfl) dX6_copyFrom_5 (fun H locs hP hD hS => ?_)
  have hP : va_P D vwCl [((a 21), .inl (cy 0, 8, .inl (fun _ => 0))), ((a 22), .inl (cy 0, 8, .inl (fun _ => 0))), ((a 23), .inl (cy 0, 8, .inl (fun _ => 0))), ((a 24), .inl (cy 0, 8, .inl (fun _ => 0))), ((a 25), .inl (cy 0, 4, .inl (fun _ => 0))), ((a 40), .inr (6, [.ref (a 10), .int 0, .ref (a 41), .ref (a 42), .ref (a 43), .ref (a 44), .ref (a 45), .int 0])), ((a 41), .inl (cy 0, 8, .inl (fun _ => 0))), ((a 42), .inl (cy 0, 8, .inl (fun _ => 0))), ((a 43), .inl (cy 0, 8, .inl (fun _ => 0))), ((a 44), .inl (cy 0, 8, .inl (fun _ => 0))), ((a 45), .inl (cy 0, 4, .inl (fun _ => 0))), ((a 3), .inr (6, [.ref (a 10), .int 0, .ref (a 21), .ref (a 22), .ref (a 23), .ref (a 24), .ref (a 25), .int 0]))] H := hP
  have hD : va_D A [((a 21), .inl (cy 0, 8, .inl (fun _ => 0))), ((a 22), .inl (cy 0, 8, .inl (fun _ => 0))), ((a 23), .inl (cy 0, 8, .inl (fun _ => 0))), ((a 24), .inl (cy 0, 8, .inl (fun _ => 0))), ((a 25), .inl (cy 0, 4, .inl (fun _ => 0))), ((a 40), .inr (6, [.ref (a 10), .int 0, .ref (a 41), .ref (a 42), .ref (a 43), .ref (a 44), .ref (a 45), .int 0])), ((a 41), .inl (cy 0, 8, .inl (fun _ => 0))), ((a 42), .inl (cy 0, 8, .inl (fun _ => 0))), ((a 43), .inl (cy 0, 8, .inl (fun _ => 0))), ((a 44), .inl (cy 0, 8, .inl (fun _ => 0))), ((a 45), .inl (cy 0, 4, .inl (fun _ => 0))), ((a 3), .inr (6, [.ref (a 10), .int 0, .ref (a 21), .ref (a 22), .ref (a 23), .ref (a 24), .ref (a 25), .int 0]))] := hD
  refine lv_aload_n hx hb dX6_copyFrom_8 rfl (lv_at hl 0 rfl) ?_
  refine lv_aload_n hx hb dX6_copyFrom_9 rfl (lv_at hl 1 rfl) ?_
  refine va_get (ci := 6) (v := .int 0) (C := RX6) (T := TX6) (N := 8) hx hb htA in_X6 hown hK hP 11 rfl rfl 1 (by decide) (htA _ wd_170) (fun _ h => h) rfl dX6_copyFrom_10 ?_
  refine va_put (ci := 6) (v := .int 0) (ty := .int) (C := RX6) (T := TX6) (N := 8) hx hb htA in_X6 tyX6 tyX6_ok nmX6 hown hK hP hD hS 5 rfl rfl 1 (by decide) (htA _ wd_170) (fun _ h => h) rfl (by decide +kernel) rfl rfl (Nat.le_of_ble_eq_true rfl) dX6_copyFrom_13 (fun H locs hP hD hS => ?_)
  have hP : va_P D vwCl [((a 21), .inl (cy 0, 8, .inl (fun _ => 0))), ((a 22), .inl (cy 0, 8, .inl (fun _ => 0))), ((a 23), .inl (cy 0, 8, .inl (fun _ => 0))), ((a 24), .inl (cy 0, 8, .inl (fun _ => 0))), ((a 25), .inl (cy 0, 4, .inl (fun _ => 0))), ((a 40), .inr (6, [.ref (a 10), .int 0, .ref (a 41), .ref (a 42), .ref (a 43), .ref (a 44), .ref (a 45), .int 0])), ((a 41), .inl (cy 0, 8, .inl (fun _ => 0))), ((a 42), .inl (cy 0, 8, .inl (fun _ => 0))), ((a 43), .inl (cy 0, 8, .inl (fun _ => 0))), ((a 44), .inl (cy 0, 8, .inl (fun _ => 0))), ((a 45), .inl (cy 0, 4, .inl (fun _ => 0))), ((a 3), .inr (6, [.ref (a 10), .int 0, .ref (a 21), .ref (a 22), .ref (a 23), .ref (a 24), .ref (a 25), .int 0]))] H := hP
  have hD : va_D A [((a 21), .inl (cy 0, 8, .inl (fun _ => 0))), ((a 22), .inl (cy 0, 8, .inl (fun _ => 0))), ((a 23), .inl (cy 0, 8, .inl (fun _ => 0))), ((a 24), .inl (cy 0, 8, .inl (fun _ => 0))), ((a 25), .inl (cy 0, 4, .inl (fun _ => 0))), ((a 40), .inr (6, [.ref (a 10), .int 0, .ref (a 41), .ref (a 42), .ref (a 43), .ref (a 44), .ref (a 45), .int 0])), ((a 41), .inl (cy 0, 8, .inl (fun _ => 0))), ((a 42), .inl (cy 0, 8, .inl (fun _ => 0))), ((a 43), .inl (cy 0, 8, .inl (fun _ => 0))), ((a 44), .inl (cy 0, 8, .inl (fun _ => 0))), ((a 45), .inl (cy 0, 4, .inl (fun _ => 0))), ((a 3), .inr (6, [.ref (a 10), .int 0, .ref (a 21), .ref (a 22), .ref (a 23), .ref (a 24), .ref (a 25), .int 0]))] := hD
  refine lv_aload_n hx hb dX6_copyFrom_16 rfl (lv_at hl 0 rfl) ?_
  refine lv_aload_n hx hb dX6_copyFrom_17 rfl (lv_at hl 1 rfl) ?_
  refine va_get (ci := 6) (v := .int 0) (C := RX6) (T := TX6) (N := 8) hx hb htA in_X6 hown hK hP 11 rfl rfl 7 (by decide) (htA _ wd_189) (fun _ h => h) rfl dX6_copyFrom_18 ?_
  refine va_put (ci := 6) (v := .int 0) (ty := .int) (C := RX6) (T := TX6) (N := 8) hx hb htA in_X6 tyX6 tyX6_ok nmX6 hown hK hP hD hS 5 rfl rfl 7 (by decide) (htA _ wd_189) (fun _ h => h) rfl (by decide +kernel) rfl rfl (Nat.le_of_ble_eq_true rfl) dX6_copyFrom_21 (fun H locs hP hD hS => ?_)
  have hP : va_P D vwCl [((a 21), .inl (cy 0, 8, .inl (fun _ => 0))), ((a 22), .inl (cy 0, 8, .inl (fun _ => 0))), ((a 23), .inl (cy 0, 8, .inl (fun _ => 0))), ((a 24), .inl (cy 0, 8, .inl (fun _ => 0))), ((a 25), .inl (cy 0, 4, .inl (fun _ => 0))), ((a 40), .inr (6, [.ref (a 10), .int 0, .ref (a 41), .ref (a 42), .ref (a 43), .ref (a 44), .ref (a 45), .int 0])), ((a 41), .inl (cy 0, 8, .inl (fun _ => 0))), ((a 42), .inl (cy 0, 8, .inl (fun _ => 0))), ((a 43), .inl (cy 0, 8, .inl (fun _ => 0))), ((a 44), .inl (cy 0, 8, .inl (fun _ => 0))), ((a 45), .inl (cy 0, 4, .inl (fun _ => 0))), ((a 3), .inr (6, [.ref (a 10), .int 0, .ref (a 21), .ref (a 22), .ref (a 23), .ref (a 24), .ref (a 25), .int 0]))] H := hP
  have hD : va_D A [((a 21), .inl (cy 0, 8, .inl (fun _ => 0))), ((a 22), .inl (cy 0, 8, .inl (fun _ => 0))), ((a 23), .inl (cy 0, 8, .inl (fun _ => 0))), ((a 24), .inl (cy 0, 8, .inl (fun _ => 0))), ((a 25), .inl (cy 0, 4, .inl (fun _ => 0))), ((a 40), .inr (6, [.ref (a 10), .int 0, .ref (a 41), .ref (a 42), .ref (a 43), .ref (a 44), .ref (a 45), .int 0])), ((a 41), .inl (cy 0, 8, .inl (fun _ => 0))), ((a 42), .inl (cy 0, 8, .inl (fun _ => 0))), ((a 43), .inl (cy 0, 8, .inl (fun _ => 0))), ((a 44), .inl (cy 0, 8, .inl (fun _ => 0))), ((a 45), .inl (cy 0, 4, .inl (fun _ => 0))), ((a 3), .inr (6, [.ref (a 10), .int 0, .ref (a 21), .ref (a 22), .ref (a 23), .ref (a 24), .ref (a 25), .int 0]))] := hD
  refine lv_aload_n hx hb dX6_copyFrom_24 rfl (lv_at hl 1 rfl) ?_
  refine va_get (ci := 6) (v := .ref (a 21)) (C := RX6) (T := TX6) (N := 8) hx hb htA in_X6 hown hK hP 11 rfl rfl 2 (by decide) (htA _ wd_174) (fun _ h => h) rfl dX6_copyFrom_25 ?_
  refine lv_iconst (v := 0) hx hb dX6_copyFrom_28 (by decide) ?_
  refine lv_aload_n hx hb dX6_copyFrom_29 rfl (lv_at hl 0 rfl) ?_
  refine va_get (ci := 6) (v := .ref (a 41)) (C := RX6) (T := TX6) (N := 8) hx hb htA in_X6 hown hK hP 5 rfl rfl 2 (by decide) (htA _ wd_174) (fun _ h => h) rfl dX6_copyFrom_30 ?_
  refine lv_iconst (v := 0) hx hb dX6_copyFrom_33 (by decide) ?_
  refine lv_bipush (v := 8) hx hb dX6_copyFrom_34 (by decide) ?_
  refine va_copyi hx hb (hml.trans hl.1.symm) hown (htA _ wd_392) (htA _ wd_394) (htA _ wd_393) (htA _ wd_22) hK hP hD hS 0 6 0 0 rfl rfl rfl rfl rfl (by decide) (by decide) (by decide) (by decide) (by decide) (fun _ _ => rfl) (by decide) (by decide) dX6_copyFrom_36 (fun H locs hP hD hS => ?_)
  rw [va_cpy_same] at hP hD
  have hP : va_P D vwCl [((a 21), .inl (cy 0, 8, .inl (fun _ => 0))), ((a 22), .inl (cy 0, 8, .inl (fun _ => 0))), ((a 23), .inl (cy 0, 8, .inl (fun _ => 0))), ((a 24), .inl (cy 0, 8, .inl (fun _ => 0))), ((a 25), .inl (cy 0, 4, .inl (fun _ => 0))), ((a 40), .inr (6, [.ref (a 10), .int 0, .ref (a 41), .ref (a 42), .ref (a 43), .ref (a 44), .ref (a 45), .int 0])), ((a 41), .inl (cy 0, 8, .inl (fun _ => 0))), ((a 42), .inl (cy 0, 8, .inl (fun _ => 0))), ((a 43), .inl (cy 0, 8, .inl (fun _ => 0))), ((a 44), .inl (cy 0, 8, .inl (fun _ => 0))), ((a 45), .inl (cy 0, 4, .inl (fun _ => 0))), ((a 3), .inr (6, [.ref (a 10), .int 0, .ref (a 21), .ref (a 22), .ref (a 23), .ref (a 24), .ref (a 25), .int 0]))] H := hP
  have hD : va_D A [((a 21), .inl (cy 0, 8, .inl (fun _ => 0))), ((a 22), .inl (cy 0, 8, .inl (fun _ => 0))), ((a 23), .inl (cy 0, 8, .inl (fun _ => 0))), ((a 24), .inl (cy 0, 8, .inl (fun _ => 0))), ((a 25), .inl (cy 0, 4, .inl (fun _ => 0))), ((a 40), .inr (6, [.ref (a 10), .int 0, .ref (a 41), .ref (a 42), .ref (a 43), .ref (a 44), .ref (a 45), .int 0])), ((a 41), .inl (cy 0, 8, .inl (fun _ => 0))), ((a 42), .inl (cy 0, 8, .inl (fun _ => 0))), ((a 43), .inl (cy 0, 8, .inl (fun _ => 0))), ((a 44), .inl (cy 0, 8, .inl (fun _ => 0))), ((a 45), .inl (cy 0, 4, .inl (fun _ => 0))), ((a 3), .inr (6, [.ref (a 10), .int 0, .ref (a 21), .ref (a 22), .ref (a 23), .ref (a 24), .ref (a 25), .int 0]))] := hD
  refine lv_aload_n hx hb dX6_copyFrom_39 rfl (lv_at hl 1 rfl) ?_
  refine va_get (ci := 6) (v := .ref (a 22)) (C := RX6) (T := TX6) (N := 8) hx hb htA in_X6 hown hK hP 11 rfl rfl 3 (by decide) (htA _ wd_178) (fun _ h => h) rfl dX6_copyFrom_40 ?_
  refine lv_iconst (v := 0) hx hb dX6_copyFrom_43 (by decide) ?_
  refine lv_aload_n hx hb dX6_copyFrom_44 rfl (lv_at hl 0 rfl) ?_
  refine va_get (ci := 6) (v := .ref (a 42)) (C := RX6) (T := TX6) (N := 8) hx hb htA in_X6 hown hK hP 5 rfl rfl 3 (by decide) (htA _ wd_178) (fun _ h => h) rfl dX6_copyFrom_45 ?_
  refine lv_iconst (v := 0) hx hb dX6_copyFrom_48 (by decide) ?_
  refine lv_bipush (v := 8) hx hb dX6_copyFrom_49 (by decide) ?_
  refine va_copyi hx hb (hml.trans hl.1.symm) hown (htA _ wd_392) (htA _ wd_394) (htA _ wd_393) (htA _ wd_22) hK hP hD hS 1 7 0 0 rfl rfl rfl rfl rfl (by decide) (by decide) (by decide) (by decide) (by decide) (fun _ _ => rfl) (by decide) (by decide) dX6_copyFrom_51 (fun H locs hP hD hS => ?_)
  rw [va_cpy_same] at hP hD
  have hP : va_P D vwCl [((a 21), .inl (cy 0, 8, .inl (fun _ => 0))), ((a 22), .inl (cy 0, 8, .inl (fun _ => 0))), ((a 23), .inl (cy 0, 8, .inl (fun _ => 0))), ((a 24), .inl (cy 0, 8, .inl (fun _ => 0))), ((a 25), .inl (cy 0, 4, .inl (fun _ => 0))), ((a 40), .inr (6, [.ref (a 10), .int 0, .ref (a 41), .ref (a 42), .ref (a 43), .ref (a 44), .ref (a 45), .int 0])), ((a 41), .inl (cy 0, 8, .inl (fun _ => 0))), ((a 42), .inl (cy 0, 8, .inl (fun _ => 0))), ((a 43), .inl (cy 0, 8, .inl (fun _ => 0))), ((a 44), .inl (cy 0, 8, .inl (fun _ => 0))), ((a 45), .inl (cy 0, 4, .inl (fun _ => 0))), ((a 3), .inr (6, [.ref (a 10), .int 0, .ref (a 21), .ref (a 22), .ref (a 23), .ref (a 24), .ref (a 25), .int 0]))] H := hP
  have hD : va_D A [((a 21), .inl (cy 0, 8, .inl (fun _ => 0))), ((a 22), .inl (cy 0, 8, .inl (fun _ => 0))), ((a 23), .inl (cy 0, 8, .inl (fun _ => 0))), ((a 24), .inl (cy 0, 8, .inl (fun _ => 0))), ((a 25), .inl (cy 0, 4, .inl (fun _ => 0))), ((a 40), .inr (6, [.ref (a 10), .int 0, .ref (a 41), .ref (a 42), .ref (a 43), .ref (a 44), .ref (a 45), .int 0])), ((a 41), .inl (cy 0, 8, .inl (fun _ => 0))), ((a 42), .inl (cy 0, 8, .inl (fun _ => 0))), ((a 43), .inl (cy 0, 8, .inl (fun _ => 0))), ((a 44), .inl (cy 0, 8, .inl (fun _ => 0))), ((a 45), .inl (cy 0, 4, .inl (fun _ => 0))), ((a 3), .inr (6, [.ref (a 10), .int 0, .ref (a 21), .ref (a 22), .ref (a 23), .ref (a 24), .ref (a 25), .int 0]))] := hD
  refine lv_aload_n hx hb dX6_copyFrom_54 rfl (lv_at hl 1 rfl) ?_
  refine va_get (ci := 6) (v := .ref (a 23)) (C := RX6) (T := TX6) (N := 8) hx hb htA in_X6 hown hK hP 11 rfl rfl 4 (by decide) (htA _ wd_181) (fun _ h => h) rfl dX6_copyFrom_55 ?_
  refine lv_iconst (v := 0) hx hb dX6_copyFrom_58 (by decide) ?_
  refine lv_aload_n hx hb dX6_copyFrom_59 rfl (lv_at hl 0 rfl) ?_
  refine va_get (ci := 6) (v := .ref (a 43)) (C := RX6) (T := TX6) (N := 8) hx hb htA in_X6 hown hK hP 5 rfl rfl 4 (by decide) (htA _ wd_181) (fun _ h => h) rfl dX6_copyFrom_60 ?_
  refine lv_iconst (v := 0) hx hb dX6_copyFrom_63 (by decide) ?_
  refine lv_bipush (v := 8) hx hb dX6_copyFrom_64 (by decide) ?_
  refine va_copyi hx hb (hml.trans hl.1.symm) hown (htA _ wd_392) (htA _ wd_394) (htA _ wd_393) (htA _ wd_22) hK hP hD hS 2 8 0 0 rfl rfl rfl rfl rfl (by decide) (by decide) (by decide) (by decide) (by decide) (fun _ _ => rfl) (by decide) (by decide) dX6_copyFrom_66 (fun H locs hP hD hS => ?_)
  rw [va_cpy_same] at hP hD
  have hP : va_P D vwCl [((a 21), .inl (cy 0, 8, .inl (fun _ => 0))), ((a 22), .inl (cy 0, 8, .inl (fun _ => 0))), ((a 23), .inl (cy 0, 8, .inl (fun _ => 0))), ((a 24), .inl (cy 0, 8, .inl (fun _ => 0))), ((a 25), .inl (cy 0, 4, .inl (fun _ => 0))), ((a 40), .inr (6, [.ref (a 10), .int 0, .ref (a 41), .ref (a 42), .ref (a 43), .ref (a 44), .ref (a 45), .int 0])), ((a 41), .inl (cy 0, 8, .inl (fun _ => 0))), ((a 42), .inl (cy 0, 8, .inl (fun _ => 0))), ((a 43), .inl (cy 0, 8, .inl (fun _ => 0))), ((a 44), .inl (cy 0, 8, .inl (fun _ => 0))), ((a 45), .inl (cy 0, 4, .inl (fun _ => 0))), ((a 3), .inr (6, [.ref (a 10), .int 0, .ref (a 21), .ref (a 22), .ref (a 23), .ref (a 24), .ref (a 25), .int 0]))] H := hP
  have hD : va_D A [((a 21), .inl (cy 0, 8, .inl (fun _ => 0))), ((a 22), .inl (cy 0, 8, .inl (fun _ => 0))), ((a 23), .inl (cy 0, 8, .inl (fun _ => 0))), ((a 24), .inl (cy 0, 8, .inl (fun _ => 0))), ((a 25), .inl (cy 0, 4, .inl (fun _ => 0))), ((a 40), .inr (6, [.ref (a 10), .int 0, .ref (a 41), .ref (a 42), .ref (a 43), .ref (a 44), .ref (a 45), .int 0])), ((a 41), .inl (cy 0, 8, .inl (fun _ => 0))), ((a 42), .inl (cy 0, 8, .inl (fun _ => 0))), ((a 43), .inl (cy 0, 8, .inl (fun _ => 0))), ((a 44), .inl (cy 0, 8, .inl (fun _ => 0))), ((a 45), .inl (cy 0, 4, .inl (fun _ => 0))), ((a 3), .inr (6, [.ref (a 10), .int 0, .ref (a 21), .ref (a 22), .ref (a 23), .ref (a 24), .ref (a 25), .int 0]))] := hD
  refine lv_aload_n hx hb dX6_copyFrom_69 rfl (lv_at hl 1 rfl) ?_
  refine va_get (ci := 6) (v := .ref (a 24)) (C := RX6) (T := TX6) (N := 8) hx hb htA in_X6 hown hK hP 11 rfl rfl 5 (by decide) (htA _ wd_184) (fun _ h => h) rfl dX6_copyFrom_70 ?_
  refine lv_iconst (v := 0) hx hb dX6_copyFrom_73 (by decide) ?_
  refine lv_aload_n hx hb dX6_copyFrom_74 rfl (lv_at hl 0 rfl) ?_
  refine va_get (ci := 6) (v := .ref (a 44)) (C := RX6) (T := TX6) (N := 8) hx hb htA in_X6 hown hK hP 5 rfl rfl 5 (by decide) (htA _ wd_184) (fun _ h => h) rfl dX6_copyFrom_75 ?_
  refine lv_iconst (v := 0) hx hb dX6_copyFrom_78 (by decide) ?_
  refine lv_bipush (v := 8) hx hb dX6_copyFrom_79 (by decide) ?_
  refine va_copyi hx hb (hml.trans hl.1.symm) hown (htA _ wd_392) (htA _ wd_394) (htA _ wd_393) (htA _ wd_22) hK hP hD hS 3 9 0 0 rfl rfl rfl rfl rfl (by decide) (by decide) (by decide) (by decide) (by decide) (fun _ _ => rfl) (by decide) (by decide) dX6_copyFrom_81 (fun H locs hP hD hS => ?_)
  rw [va_cpy_same] at hP hD
  have hP : va_P D vwCl [((a 21), .inl (cy 0, 8, .inl (fun _ => 0))), ((a 22), .inl (cy 0, 8, .inl (fun _ => 0))), ((a 23), .inl (cy 0, 8, .inl (fun _ => 0))), ((a 24), .inl (cy 0, 8, .inl (fun _ => 0))), ((a 25), .inl (cy 0, 4, .inl (fun _ => 0))), ((a 40), .inr (6, [.ref (a 10), .int 0, .ref (a 41), .ref (a 42), .ref (a 43), .ref (a 44), .ref (a 45), .int 0])), ((a 41), .inl (cy 0, 8, .inl (fun _ => 0))), ((a 42), .inl (cy 0, 8, .inl (fun _ => 0))), ((a 43), .inl (cy 0, 8, .inl (fun _ => 0))), ((a 44), .inl (cy 0, 8, .inl (fun _ => 0))), ((a 45), .inl (cy 0, 4, .inl (fun _ => 0))), ((a 3), .inr (6, [.ref (a 10), .int 0, .ref (a 21), .ref (a 22), .ref (a 23), .ref (a 24), .ref (a 25), .int 0]))] H := hP
  have hD : va_D A [((a 21), .inl (cy 0, 8, .inl (fun _ => 0))), ((a 22), .inl (cy 0, 8, .inl (fun _ => 0))), ((a 23), .inl (cy 0, 8, .inl (fun _ => 0))), ((a 24), .inl (cy 0, 8, .inl (fun _ => 0))), ((a 25), .inl (cy 0, 4, .inl (fun _ => 0))), ((a 40), .inr (6, [.ref (a 10), .int 0, .ref (a 41), .ref (a 42), .ref (a 43), .ref (a 44), .ref (a 45), .int 0])), ((a 41), .inl (cy 0, 8, .inl (fun _ => 0))), ((a 42), .inl (cy 0, 8, .inl (fun _ => 0))), ((a 43), .inl (cy 0, 8, .inl (fun _ => 0))), ((a 44), .inl (cy 0, 8, .inl (fun _ => 0))), ((a 45), .inl (cy 0, 4, .inl (fun _ => 0))), ((a 3), .inr (6, [.ref (a 10), .int 0, .ref (a 21), .ref (a 22), .ref (a 23), .ref (a 24), .ref (a 25), .int 0]))] := hD
  refine lv_aload_n hx hb dX6_copyFrom_84 rfl (lv_at hl 1 rfl) ?_
  refine va_get (ci := 6) (v := .ref (a 25)) (C := RX6) (T := TX6) (N := 8) hx hb htA in_X6 hown hK hP 11 rfl rfl 6 (by decide) (htA _ wd_187) (fun _ h => h) rfl dX6_copyFrom_85 ?_
  refine lv_iconst (v := 0) hx hb dX6_copyFrom_88 (by decide) ?_
  refine lv_aload_n hx hb dX6_copyFrom_89 rfl (lv_at hl 0 rfl) ?_
  refine va_get (ci := 6) (v := .ref (a 45)) (C := RX6) (T := TX6) (N := 8) hx hb htA in_X6 hown hK hP 5 rfl rfl 6 (by decide) (htA _ wd_187) (fun _ h => h) rfl dX6_copyFrom_90 ?_
  refine lv_iconst (v := 0) hx hb dX6_copyFrom_93 (by decide) ?_
  refine lv_iconst (v := 4) hx hb dX6_copyFrom_94 (by decide) ?_
  refine va_copyi hx hb (hml.trans hl.1.symm) hown (htA _ wd_392) (htA _ wd_394) (htA _ wd_393) (htA _ wd_22) hK hP hD hS 4 10 0 0 rfl rfl rfl rfl rfl (by decide) (by decide) (by decide) (by decide) (by decide) (fun _ _ => rfl) (by decide) (by decide) dX6_copyFrom_95 (fun H locs hP hD hS => ?_)
  rw [va_cpy_same] at hP hD
  have hP : va_P D vwCl [((a 21), .inl (cy 0, 8, .inl (fun _ => 0))), ((a 22), .inl (cy 0, 8, .inl (fun _ => 0))), ((a 23), .inl (cy 0, 8, .inl (fun _ => 0))), ((a 24), .inl (cy 0, 8, .inl (fun _ => 0))), ((a 25), .inl (cy 0, 4, .inl (fun _ => 0))), ((a 40), .inr (6, [.ref (a 10), .int 0, .ref (a 41), .ref (a 42), .ref (a 43), .ref (a 44), .ref (a 45), .int 0])), ((a 41), .inl (cy 0, 8, .inl (fun _ => 0))), ((a 42), .inl (cy 0, 8, .inl (fun _ => 0))), ((a 43), .inl (cy 0, 8, .inl (fun _ => 0))), ((a 44), .inl (cy 0, 8, .inl (fun _ => 0))), ((a 45), .inl (cy 0, 4, .inl (fun _ => 0))), ((a 3), .inr (6, [.ref (a 10), .int 0, .ref (a 21), .ref (a 22), .ref (a 23), .ref (a 24), .ref (a 25), .int 0]))] H := hP
  have hD : va_D A [((a 21), .inl (cy 0, 8, .inl (fun _ => 0))), ((a 22), .inl (cy 0, 8, .inl (fun _ => 0))), ((a 23), .inl (cy 0, 8, .inl (fun _ => 0))), ((a 24), .inl (cy 0, 8, .inl (fun _ => 0))), ((a 25), .inl (cy 0, 4, .inl (fun _ => 0))), ((a 40), .inr (6, [.ref (a 10), .int 0, .ref (a 41), .ref (a 42), .ref (a 43), .ref (a 44), .ref (a 45), .int 0])), ((a 41), .inl (cy 0, 8, .inl (fun _ => 0))), ((a 42), .inl (cy 0, 8, .inl (fun _ => 0))), ((a 43), .inl (cy 0, 8, .inl (fun _ => 0))), ((a 44), .inl (cy 0, 8, .inl (fun _ => 0))), ((a 45), .inl (cy 0, 4, .inl (fun _ => 0))), ((a 3), .inr (6, [.ref (a 10), .int 0, .ref (a 21), .ref (a 22), .ref (a 23), .ref (a 24), .ref (a 25), .int 0]))] := hD
  exact rV hX hE hP hD hS dX6_copyFrom_98 (by decide) (by decide) (rfl)
set_option maxHeartbeats 4000000 in
set_option maxRecDepth 100000 in
theorem au_X6_nextFall_32 (l : Launch) (D : va_G) (cy : Nat → ClassId) (a : Nat → Nat) (v1_ : Int32) : Ci l yX6_nextFall cX6_nextFall 4 (some .boolean) { frames := 0, cells := 0, slots := 0, locals := 0 } D cy [.ref (a 40), .int v1_] [((a 10), .inr (0, [.int 0, .int 1, .int 1, .int 0, .int 0, .ref (a 11), .ref (a 12), .ref (a 13), .null, .null])), ((a 40), .inr (6, [.ref (a 10), .int 0, .ref (a 41), .ref (a 42), .ref (a 43), .ref (a 44), .ref (a 45), .int 0]))] (fun r W1 => (W1 = [((a 10), .inr (0, [.int 0, .int 1, .int 1, .int 0, .int 0, .ref (a 11), .ref (a 12), .ref (a 13), .null, .null])), ((a 40), .inr (6, [.ref (a 10), .int 0, .ref (a 41), .ref (a 42), .ref (a 43), .ref (a 44), .ref (a 45), .int 0]))] ∧ r = 0)) := by
  refine Ci.of (by decide) (Nat.le_of_ble_eq_true rfl) ?_
  intro p e s m below meth c A ls hX hE hP hD hl
  obtain ⟨hx, hb, hr, hml, hown, htA, hlk⟩ := id hX
  have hK := hE.1
  have hS : va_S A s.heap s.heap [] := va_S.rf
  have hl : lv_has ls 4 [(0, .ref (a 40)), (1, .int v1_)] := hl
  refine lv_ldc hx hb hown (htA _ wd_476) dX6_nextFall_0 ?_
  refine lv_istore_n (lv' := [(2, .int 2147483647), (0, .ref (a 40)), (1, .int v1_)]) hx hb dX6_nextFall_2 rfl hl (by decide) rfl (fun ls hl => ?_)
  refine lv_iconst (v := 0) hx hb dX6_nextFall_3 (by decide) ?_
  refine lv_istore_n (lv' := [(3, .int 0), (2, .int 2147483647), (0, .ref (a 40)), (1, .int v1_)]) hx hb dX6_nextFall_4 rfl hl (by decide) rfl (fun ls hl => ?_)
  refine lv_iload_n hx hb dX6_nextFall_5 rfl (lv_at hl 0 rfl) ?_
  refine lv_aload_n hx hb dX6_nextFall_6 rfl (lv_at hl 2 rfl) ?_
  refine va_get (ci := 6) (v := .ref (a 10)) (C := RX6) (T := TX6) (N := 8) hx hb htA in_X6 hown hK hP 1 rfl rfl 0 (by decide) (htA _ wd_166) (fun _ h => h) rfl dX6_nextFall_7 ?_
  refine va_get (ci := 0) (v := .int 0) (C := RX0) (T := TX0) (N := 10) hx hb htA in_X0 hown hK hP 0 rfl rfl 3 (by decide) (htA _ wd_86) (fun _ h => h) rfl dX6_nextFall_10 ?_
  refine lv_icmp_ge (tgt := 43) hx hb dX6_nextFall_13 (by decide) (fun _ => ?_) (fun q => absurd (by decide) q)
  refine lv_iload_n hx hb dX6_nextFall_43 rfl (lv_at hl 1 rfl) ?_
  refine lv_ldc hx hb hown (htA _ wd_476) dX6_nextFall_44 ?_
  refine lv_icmp_eq (tgt := 54) hx hb dX6_nextFall_46 (by decide) (fun _ => ?_) (fun q => absurd (by decide) q)
  refine lv_iconst (v := 0) hx hb dX6_nextFall_54 (by decide) ?_
  exact rZ hX (by decide) hE hP hD hS dX6_nextFall_55 (by decide) (by decide) (⟨rfl, rfl⟩)
set_option maxHeartbeats 4000000 in
set_option maxRecDepth 100000 in
theorem au_X6_passTo_33 (l : Launch) (D : va_G) (cy : Nat → ClassId) (a : Nat → Nat) (v1_ : Int32) : Ci l yX6_passTo cX6_passTo 4 (some .int) { frames := 1, cells := 0, slots := 0, locals := 23 } D cy [.ref (a 40), .int v1_] [((a 10), .inr (0, [.int 0, .int 1, .int 1, .int 0, .int 0, .ref (a 11), .ref (a 12), .ref (a 13), .null, .null])), ((a 40), .inr (6, [.ref (a 10), .int 0, .ref (a 41), .ref (a 42), .ref (a 43), .ref (a 44), .ref (a 45), .int 0]))] (fun r W1 => (W1 = [((a 10), .inr (0, [.int 0, .int 1, .int 1, .int 0, .int 0, .ref (a 11), .ref (a 12), .ref (a 13), .null, .null])), ((a 40), .inr (6, [.ref (a 10), .int v1_, .ref (a 41), .ref (a 42), .ref (a 43), .ref (a 44), .ref (a 45), .int 0]))] ∧ r = 0)) := by
  refine Ci.of (by decide) (Nat.le_of_ble_eq_true rfl) ?_
  intro p e s m below meth c A ls hX hE hP hD hl
  obtain ⟨hx, hb, hr, hml, hown, htA, hlk⟩ := id hX
  have hK := hE.1
  have hS : va_S A s.heap s.heap [] := va_S.rf
  have hl : lv_has ls 4 [(0, .ref (a 40)), (1, .int v1_)] := hl
  refine lv_iconst (v := 0) hx hb dX6_passTo_0 (by decide) ?_
  refine lv_istore_n (lv' := [(2, .int 0), (0, .ref (a 40)), (1, .int v1_)]) hx hb dX6_passTo_1 rfl hl (by decide) rfl (fun ls hl => ?_)
  refine lv_iconst (v := 0) hx hb dX6_passTo_2 (by decide) ?_
  refine lv_istore_n (lv' := [(3, .int 0), (2, .int 0), (0, .ref (a 40)), (1, .int v1_)]) hx hb dX6_passTo_3 rfl hl (by decide) rfl (fun ls hl => ?_)
  refine lv_iload_n hx hb dX6_passTo_4 rfl (lv_at hl 0 rfl) ?_
  refine lv_bipush (v := 8) hx hb dX6_passTo_5 (by decide) ?_
  refine lv_icmp_ge (tgt := 37) hx hb dX6_passTo_7 (by decide) (fun q => absurd q (by decide)) (fun _ => ?_)
  refine lv_aload_n hx hb dX6_passTo_10 rfl (lv_at hl 2 rfl) ?_
  refine lv_iload_n hx hb dX6_passTo_11 rfl (lv_at hl 3 rfl) ?_
  refine kVi (As := [.int v1_]) (rest := []) (wr := []) hX hE (au_X6_nextFall_32 l D cy a v1_) (cwVA 1 htA wd_494 wd_949 wd_6 wd_492 wd_493 (by decide +kernel) ⟨by decide, by decide⟩) hP hD hS [0, 1] [] rfl rfl (by decide) 1 rfl rfl rfl rfl hl.1 rfl (Nat.le_of_ble_eq_true rfl) dX6_passTo_12 (by decide) (fun r_ W1 H locs hw hP hD hS => ?_)
  refine W.widen (k := 0) (n := 0) (by decide) (by decide) ?_
  obtain ⟨rfl, rfl⟩ := hw
  have hP : va_P D vwCl [((a 10), .inr (0, [.int 0, .int 1, .int 1, .int 0, .int 0, .ref (a 11), .ref (a 12), .ref (a 13), .null, .null])), ((a 40), .inr (6, [.ref (a 10), .int 0, .ref (a 41), .ref (a 42), .ref (a 43), .ref (a 44), .ref (a 45), .int 0]))] H := hP
  have hD : va_D A [((a 10), .inr (0, [.int 0, .int 1, .int 1, .int 0, .int 0, .ref (a 11), .ref (a 12), .ref (a 13), .null, .null])), ((a 40), .inr (6, [.ref (a 10), .int 0, .ref (a 41), .ref (a 42), .ref (a 43), .ref (a 44), .ref (a 45), .int 0]))] := hD
  refine lv_if_ne (tgt := 21) hx hb dX6_passTo_15 (by decide) (fun q => absurd rfl q) (fun _ => ?_)
  refine lv_goto (tgt := 37) hx hb dX6_passTo_18 (by decide) ?_
  refine lv_aload_n hx hb dX6_passTo_37 rfl (lv_at hl 2 rfl) ?_
  refine lv_iload_n hx hb dX6_passTo_38 rfl (lv_at hl 3 rfl) ?_
  refine va_put (ci := 6) (v := .int v1_) (ty := .int) (C := RX6) (T := TX6) (N := 8) hx hb htA in_X6 tyX6 tyX6_ok nmX6 hown hK hP hD hS 1 rfl rfl 1 (by decide) (htA _ wd_170) (fun _ h => h) rfl (by decide +kernel) rfl rfl (Nat.le_of_ble_eq_true rfl) dX6_passTo_39 (fun H locs hP hD hS => ?_)
  have hP : va_P D vwCl [((a 10), .inr (0, [.int 0, .int 1, .int 1, .int 0, .int 0, .ref (a 11), .ref (a 12), .ref (a 13), .null, .null])), ((a 40), .inr (6, [.ref (a 10), .int v1_, .ref (a 41), .ref (a 42), .ref (a 43), .ref (a 44), .ref (a 45), .int 0]))] H := hP
  have hD : va_D A [((a 10), .inr (0, [.int 0, .int 1, .int 1, .int 0, .int 0, .ref (a 11), .ref (a 12), .ref (a 13), .null, .null])), ((a 40), .inr (6, [.ref (a 10), .int v1_, .ref (a 41), .ref (a 42), .ref (a 43), .ref (a 44), .ref (a 45), .int 0]))] := hD
  refine lv_iload_n hx hb dX6_passTo_42 rfl (lv_at hl 1 rfl) ?_
  exact rI hX hE hP hD hS dX6_passTo_43 (by decide) (by decide) (⟨rfl, rfl⟩)
set_option maxHeartbeats 4000000 in
set_option maxRecDepth 100000 in
theorem au_X6_lying_34 (l : Launch) (D : va_G) (cy : Nat → ClassId) (a : Nat → Nat) (v1_ : Int32) : Ci l yX6_lying cX6_lying 4 (some .int) { frames := 0, cells := 0, slots := 0, locals := 0 } D cy [.ref (a 40), .int 0] [((a 10), .inr (0, [.int 0, .int 1, .int 1, .int 0, .int 0, .ref (a 11), .ref (a 12), .ref (a 13), .null, .null])), ((a 40), .inr (6, [.ref (a 10), .int v1_, .ref (a 41), .ref (a 42), .ref (a 43), .ref (a 44), .ref (a 45), .int 0]))] (fun r W1 => (W1 = [((a 10), .inr (0, [.int 0, .int 1, .int 1, .int 0, .int 0, .ref (a 11), .ref (a 12), .ref (a 13), .null, .null])), ((a 40), .inr (6, [.ref (a 10), .int v1_, .ref (a 41), .ref (a 42), .ref (a 43), .ref (a 44), .ref (a 45), .int 0]))] ∧ r = 0)) := by
  refine Ci.of (by decide) (Nat.le_of_ble_eq_true rfl) ?_
  intro p e s m below meth c A ls hX hE hP hD hl
  obtain ⟨hx, hb, hr, hml, hown, htA, hlk⟩ := id hX
  have hK := hE.1
  have hS : va_S A s.heap s.heap [] := va_S.rf
  have hl : lv_has ls 4 [(0, .ref (a 40)), (1, .int 0)] := hl
  refine lv_iconst (v := 0) hx hb dX6_lying_0 (by decide) ?_
  refine lv_istore_n (lv' := [(2, .int 0), (0, .ref (a 40)), (1, .int 0)]) hx hb dX6_lying_1 rfl hl (by decide) rfl (fun ls hl => ?_)
  refine lv_iconst (v := 0) hx hb dX6_lying_2 (by decide) ?_
  refine lv_istore_n (lv' := [(3, .int 0), (2, .int 0), (0, .ref (a 40)), (1, .int 0)]) hx hb dX6_lying_3 rfl hl (by decide) rfl (fun ls hl => ?_)
  refine lv_iload_n hx hb dX6_lying_4 rfl (lv_at hl 0 rfl) ?_
  refine lv_aload_n hx hb dX6_lying_5 rfl (lv_at hl 2 rfl) ?_
  refine va_get (ci := 6) (v := .ref (a 10)) (C := RX6) (T := TX6) (N := 8) hx hb htA in_X6 hown hK hP 1 rfl rfl 0 (by decide) (htA _ wd_166) (fun _ h => h) rfl dX6_lying_6 ?_
  refine va_get (ci := 0) (v := .int 0) (C := RX0) (T := TX0) (N := 10) hx hb htA in_X0 hown hK hP 0 rfl rfl 3 (by decide) (htA _ wd_86) (fun _ h => h) rfl dX6_lying_9 ?_
  refine lv_icmp_ge (tgt := 44) hx hb dX6_lying_12 (by decide) (fun _ => ?_) (fun q => absurd (by decide) q)
  refine lv_iload_n hx hb dX6_lying_44 rfl (lv_at hl 1 rfl) ?_
  exact rI hX hE hP hD hS dX6_lying_45 (by decide) (by decide) (⟨rfl, rfl⟩)
set_option maxHeartbeats 4000000 in
set_option maxRecDepth 100000 in
theorem m_heightIn (l : Launch) (hlt : l.stackTraces = false) (D : va_G) (cy : Nat → ClassId) (a : Nat → Nat) (p1 : Int32) (p2 : Int32) : Xi l yX10_heightIn cX10_heightIn 4 (some .int) { frames := 7, cells := 2, slots := 12, locals := 112 } D cy [.ref (a 0), .int p1, .int p2] [((a 0), .inr (10, [.ref (a 1), .int 0, .int 0, .int (-1), .ref (a 2), .ref (a 3), .ref (a 4), .ref (a 5), .ref (a 6), .ref (a 7), .ref (a 8), .ref (a 9), .int 0])), ((a 3), .inr (6, [.ref (a 10), .int 0, .ref (a 21), .ref (a 22), .ref (a 23), .ref (a 24), .ref (a 25), .int 0])), ((a 21), .inl (cy 0, 8, .inl (fun _ => 0))), ((a 22), .inl (cy 0, 8, .inl (fun _ => 0))), ((a 23), .inl (cy 0, 8, .inl (fun _ => 0))), ((a 24), .inl (cy 0, 8, .inl (fun _ => 0))), ((a 25), .inl (cy 0, 4, .inl (fun _ => 0))), ((a 10), .inr (0, [.int 0, .int 1, .int 1, .int 0, .int 0, .ref (a 11), .ref (a 12), .ref (a 13), .null, .null])), ((a 5), .inr (1, [.ref (a 40), .int 0, .int 0, .ref (a 46), .ref (a 47)])), ((a 40), .inr (6, [.ref (a 10), .int 0, .ref (a 41), .ref (a 42), .ref (a 43), .ref (a 44), .ref (a 45), .int 0])), ((a 41), .inl (cy 0, 8, .inl (fun _ => 0))), ((a 42), .inl (cy 0, 8, .inl (fun _ => 0))), ((a 43), .inl (cy 0, 8, .inl (fun _ => 0))), ((a 44), .inl (cy 0, 8, .inl (fun _ => 0))), ((a 45), .inl (cy 0, 4, .inl (fun _ => 0)))] (fun r _ => kf_heightIn p1 p2 = 0 ∧ r.toInt64 = vf_heightIn p1 p2) (fun E _ => (E = "java/util/NoSuchElementException" ∧ kf_heightIn p1 p2 = 1) ∨ (E = "java/lang/IllegalArgumentException" ∧ kf_heightIn p1 p2 = 2)) := by
  refine Xi.of (by decide) (Nat.le_of_ble_eq_true rfl) ?_
  intro p e s m below meth c A ls hX hE hP hD hl hxt
  obtain ⟨hx, hb, hr, hml, hown, htA, hlk⟩ := id hX
  have hK := hE.1
  have hS : va_S A s.heap s.heap [] := va_S.rf
  have hl : lv_has ls 4 [(0, .ref (a 0)), (1, .int p1), (2, .int p2)] := hl
  refine lv_aload_n hx hb dX10_heightIn_0 rfl (lv_at hl 0 rfl) ?_
  refine lv_iload_n hx hb dX10_heightIn_1 rfl (lv_at hl 1 rfl) ?_
  refine xVv (As := [.int p1]) (rest := []) (wr := [((a 21), .inl (cy 0, 8, .inl (fun _ => 0))), ((a 22), .inl (cy 0, 8, .inl (fun _ => 0))), ((a 23), .inl (cy 0, 8, .inl (fun _ => 0))), ((a 24), .inl (cy 0, 8, .inl (fun _ => 0))), ((a 25), .inl (cy 0, 4, .inl (fun _ => 0))), ((a 5), .inr (1, [.ref (a 40), .int 0, .int 0, .ref (a 46), .ref (a 47)])), ((a 40), .inr (6, [.ref (a 10), .int 0, .ref (a 41), .ref (a 42), .ref (a 43), .ref (a 44), .ref (a 45), .int 0])), ((a 41), .inl (cy 0, 8, .inl (fun _ => 0))), ((a 42), .inl (cy 0, 8, .inl (fun _ => 0))), ((a 43), .inl (cy 0, 8, .inl (fun _ => 0))), ((a 44), .inl (cy 0, 8, .inl (fun _ => 0))), ((a 45), .inl (cy 0, 4, .inl (fun _ => 0)))]) hX hE (au_X10_needColumn_3 l hlt D cy a p1) (cwVA 1 htA wd_909 wd_906 wd_1 wd_908 wp_28 (by decide +kernel) ⟨by decide, by decide⟩) hP hD hS [0, 1, 7] [2, 3, 4, 5, 6, 8, 9, 10, 11, 12, 13, 14] rfl rfl (by decide) 0 rfl rfl rfl rfl hl.1 rfl (Nat.le_of_ble_eq_true rfl) dX10_heightIn_2 (by decide) (fun E ce q9 W1 H locs hw hP hD hS hce hcv hcl => ?_) (fun W1 H locs hw hP hD hS => ?_)
  · rcases hw with ⟨g4, rfl⟩ | ⟨g5, g6, rfl⟩
    · exact xO hX hE hxt hP hD hS hce hcv hcl (by decide) (by decide) (Or.inl (⟨rfl, (by have kg4 := g4; (try simp only [lg_cmp_lt, lg_cmp_le, lg_cmp_ge, lg_cmp_gt, lg_cmp_eq, fa_lt, fa_le, fa_eq, fa_lt64, fa_le64, fa_eq64, Int32.toInt_toInt64, li_0, lj_0] at kg4); first | rfl | (unfold kf_heightIn; (repeat' split) <;> first | rfl | (exfalso; omega)))⟩))
    · exact xO hX hE hxt hP hD hS hce hcv hcl (by decide) (by decide) (Or.inl (⟨rfl, (by have kg5 := g5; have kg6 := g6; (try simp only [lg_cmp_lt, lg_cmp_le, lg_cmp_ge, lg_cmp_gt, lg_cmp_eq, fa_lt, fa_le, fa_eq, fa_lt64, fa_le64, fa_eq64, Int32.toInt_toInt64, li_0, lj_0, li_1, lj_1] at kg5); (try simp only [lg_cmp_lt, lg_cmp_le, lg_cmp_ge, lg_cmp_gt, lg_cmp_eq, fa_lt, fa_le, fa_eq, fa_lt64, fa_le64, fa_eq64, Int32.toInt_toInt64, li_0, lj_0, li_1, lj_1] at kg6); first | rfl | (unfold kf_heightIn; (repeat' split) <;> first | rfl | (exfalso; omega)))⟩))
  · refine W.widen (k := 1) (n := 6) (by decide) (by decide) ?_
    obtain ⟨g1, g2, g3, rfl⟩ := hw
    have hP : va_P D vwCl [((a 21), .inl (cy 0, 8, .inl (fun _ => 0))), ((a 22), .inl (cy 0, 8, .inl (fun _ => 0))), ((a 23), .inl (cy 0, 8, .inl (fun _ => 0))), ((a 24), .inl (cy 0, 8, .inl (fun _ => 0))), ((a 25), .inl (cy 0, 4, .inl (fun _ => 0))), ((a 5), .inr (1, [.ref (a 40), .int 0, .int 0, .ref (a 46), .ref (a 47)])), ((a 40), .inr (6, [.ref (a 10), .int 0, .ref (a 41), .ref (a 42), .ref (a 43), .ref (a 44), .ref (a 45), .int 0])), ((a 41), .inl (cy 0, 8, .inl (fun _ => 0))), ((a 42), .inl (cy 0, 8, .inl (fun _ => 0))), ((a 43), .inl (cy 0, 8, .inl (fun _ => 0))), ((a 44), .inl (cy 0, 8, .inl (fun _ => 0))), ((a 45), .inl (cy 0, 4, .inl (fun _ => 0))), ((a 0), .inr (10, [.ref (a 1), .int 0, .int 0, .int (-1), .ref (a 2), .ref (a 3), .ref (a 4), .ref (a 5), .ref (a 6), .ref (a 7), .ref (a 8), .ref (a 9), .int 0])), ((a 3), .inr (6, [.ref (a 10), .int 0, .ref (a 21), .ref (a 22), .ref (a 23), .ref (a 24), .ref (a 25), .int 0])), ((a 10), .inr (0, [.int 0, .int 1, .int 1, .int 0, .int 0, .ref (a 11), .ref (a 12), .ref (a 13), .null, .null]))] H := hP
    have hD : va_D A [((a 21), .inl (cy 0, 8, .inl (fun _ => 0))), ((a 22), .inl (cy 0, 8, .inl (fun _ => 0))), ((a 23), .inl (cy 0, 8, .inl (fun _ => 0))), ((a 24), .inl (cy 0, 8, .inl (fun _ => 0))), ((a 25), .inl (cy 0, 4, .inl (fun _ => 0))), ((a 5), .inr (1, [.ref (a 40), .int 0, .int 0, .ref (a 46), .ref (a 47)])), ((a 40), .inr (6, [.ref (a 10), .int 0, .ref (a 41), .ref (a 42), .ref (a 43), .ref (a 44), .ref (a 45), .int 0])), ((a 41), .inl (cy 0, 8, .inl (fun _ => 0))), ((a 42), .inl (cy 0, 8, .inl (fun _ => 0))), ((a 43), .inl (cy 0, 8, .inl (fun _ => 0))), ((a 44), .inl (cy 0, 8, .inl (fun _ => 0))), ((a 45), .inl (cy 0, 4, .inl (fun _ => 0))), ((a 0), .inr (10, [.ref (a 1), .int 0, .int 0, .int (-1), .ref (a 2), .ref (a 3), .ref (a 4), .ref (a 5), .ref (a 6), .ref (a 7), .ref (a 8), .ref (a 9), .int 0])), ((a 3), .inr (6, [.ref (a 10), .int 0, .ref (a 21), .ref (a 22), .ref (a 23), .ref (a 24), .ref (a 25), .int 0])), ((a 10), .inr (0, [.int 0, .int 1, .int 1, .int 0, .int 0, .ref (a 11), .ref (a 12), .ref (a 13), .null, .null]))] := hD
    obtain rfl : p1 = 0 := (by have kg1 := g1; have kg2 := g2; have kg3 := g3; (try simp only [lg_cmp_lt, lg_cmp_le, lg_cmp_ge, lg_cmp_gt, lg_cmp_eq, fa_lt, fa_le, fa_eq, fa_lt64, fa_le64, fa_eq64, Int32.toInt_toInt64, li_0, lj_0, li_1, lj_1] at kg1); (try simp only [lg_cmp_lt, lg_cmp_le, lg_cmp_ge, lg_cmp_gt, lg_cmp_eq, fa_lt, fa_le, fa_eq, fa_lt64, fa_le64, fa_eq64, Int32.toInt_toInt64, li_0, lj_0, li_1, lj_1] at kg2); (try simp only [lg_cmp_lt, lg_cmp_le, lg_cmp_ge, lg_cmp_gt, lg_cmp_eq, fa_lt, fa_le, fa_eq, fa_lt64, fa_le64, fa_eq64, Int32.toInt_toInt64, li_0, lj_0, li_1, lj_1] at kg3); rw [fa_eq, li_0]; omega)
    refine lv_iload_n hx hb dX10_heightIn_5 rfl (lv_at hl 2 rfl) ?_
    refine lv_iconst (v := 0) hx hb dX10_heightIn_6 (by decide) ?_
    refine lv_sipush (v := 999) hx hb dX10_heightIn_7 (by decide) ?_
    refine xSv (As := [.int p2, .int 0, .int 999]) (rest := []) (wr := [((a 21), .inl (cy 0, 8, .inl (fun _ => 0))), ((a 22), .inl (cy 0, 8, .inl (fun _ => 0))), ((a 23), .inl (cy 0, 8, .inl (fun _ => 0))), ((a 24), .inl (cy 0, 8, .inl (fun _ => 0))), ((a 25), .inl (cy 0, 4, .inl (fun _ => 0))), ((a 5), .inr (1, [.ref (a 40), .int 0, .int 0, .ref (a 46), .ref (a 47)])), ((a 40), .inr (6, [.ref (a 10), .int 0, .ref (a 41), .ref (a 42), .ref (a 43), .ref (a 44), .ref (a 45), .int 0])), ((a 41), .inl (cy 0, 8, .inl (fun _ => 0))), ((a 42), .inl (cy 0, 8, .inl (fun _ => 0))), ((a 43), .inl (cy 0, 8, .inl (fun _ => 0))), ((a 44), .inl (cy 0, 8, .inl (fun _ => 0))), ((a 45), .inl (cy 0, 4, .inl (fun _ => 0))), ((a 0), .inr (10, [.ref (a 1), .int 0, .int 0, .int (-1), .ref (a 2), .ref (a 3), .ref (a 4), .ref (a 5), .ref (a 6), .ref (a 7), .ref (a 8), .ref (a 9), .int 0])), ((a 3), .inr (6, [.ref (a 10), .int 0, .ref (a 21), .ref (a 22), .ref (a 23), .ref (a 24), .ref (a 25), .int 0])), ((a 10), .inr (0, [.int 0, .int 1, .int 1, .int 0, .int 0, .ref (a 11), .ref (a 12), .ref (a 13), .null, .null]))]) hX hE (au_X10_needWithin_30 l hlt D cy a p2) (cwSA 3 htA wd_935 wd_933 wd_1 wd_934 (by decide +kernel) ⟨by decide, by decide⟩) hP hD hS [] [0, 1, 2, 3, 4, 5, 6, 7, 8, 9, 10, 11, 12, 13, 14] rfl rfl (by decide) rfl hl.1 rfl (Nat.le_of_ble_eq_true rfl) dX10_heightIn_10 (by decide) (fun E ce q9 W1 H locs hw hP hD hS hce hcv hcl => ?_) (fun W1 H locs hw hP hD hS => ?_)
    · rcases hw with ⟨g9, rfl⟩ | ⟨g10, g11, rfl⟩
      · exact xO hX hE hxt hP hD hS hce hcv hcl (by decide) (by decide) (Or.inr (⟨rfl, (by have kg1 := g1; have kg2 := g2; have kg3 := g3; have kg9 := g9; (try simp only [lg_cmp_lt, lg_cmp_le, lg_cmp_ge, lg_cmp_gt, lg_cmp_eq, fa_lt, fa_le, fa_eq, fa_lt64, fa_le64, fa_eq64, Int32.toInt_toInt64, li_0, lj_0, li_1, lj_1] at kg1); (try simp only [lg_cmp_lt, lg_cmp_le, lg_cmp_ge, lg_cmp_gt, lg_cmp_eq, fa_lt, fa_le, fa_eq, fa_lt64, fa_le64, fa_eq64, Int32.toInt_toInt64, li_0, lj_0, li_1, lj_1] at kg2); (try simp only [lg_cmp_lt, lg_cmp_le, lg_cmp_ge, lg_cmp_gt, lg_cmp_eq, fa_lt, fa_le, fa_eq, fa_lt64, fa_le64, fa_eq64, Int32.toInt_toInt64, li_0, lj_0, li_1, lj_1] at kg3); (try simp only [lg_cmp_lt, lg_cmp_le, lg_cmp_ge, lg_cmp_gt, lg_cmp_eq, fa_lt, fa_le, fa_eq, fa_lt64, fa_le64, fa_eq64, Int32.toInt_toInt64, li_0, lj_0, li_1, lj_1] at kg9); first | rfl | (unfold kf_heightIn; (try simp only [li_0, and_self, and_true, true_and, if_true]); (repeat' split) <;> first | rfl | (exfalso; omega)))⟩))
      · exact xO hX hE hxt hP hD hS hce hcv hcl (by decide) (by decide) (Or.inr (⟨rfl, (by have kg1 := g1; have kg2 := g2; have kg3 := g3; have kg10 := g10; have kg11 := g11; (try simp only [lg_cmp_lt, lg_cmp_le, lg_cmp_ge, lg_cmp_gt, lg_cmp_eq, fa_lt, fa_le, fa_eq, fa_lt64, fa_le64, fa_eq64, Int32.toInt_toInt64, li_0, lj_0, li_1, lj_1, li_999, lj_999] at kg1); (try simp only [lg_cmp_lt, lg_cmp_le, lg_cmp_ge, lg_cmp_gt, lg_cmp_eq, fa_lt, fa_le, fa_eq, fa_lt64, fa_le64, fa_eq64, Int32.toInt_toInt64, li_0, lj_0, li_1, lj_1, li_999, lj_999] at kg2); (try simp only [lg_cmp_lt, lg_cmp_le, lg_cmp_ge, lg_cmp_gt, lg_cmp_eq, fa_lt, fa_le, fa_eq, fa_lt64, fa_le64, fa_eq64, Int32.toInt_toInt64, li_0, lj_0, li_1, lj_1, li_999, lj_999] at kg3); (try simp only [lg_cmp_lt, lg_cmp_le, lg_cmp_ge, lg_cmp_gt, lg_cmp_eq, fa_lt, fa_le, fa_eq, fa_lt64, fa_le64, fa_eq64, Int32.toInt_toInt64, li_0, lj_0, li_1, lj_1, li_999, lj_999] at kg10); (try simp only [lg_cmp_lt, lg_cmp_le, lg_cmp_ge, lg_cmp_gt, lg_cmp_eq, fa_lt, fa_le, fa_eq, fa_lt64, fa_le64, fa_eq64, Int32.toInt_toInt64, li_0, lj_0, li_1, lj_1, li_999, lj_999] at kg11); first | rfl | (unfold kf_heightIn; (try simp only [li_0, and_self, and_true, true_and, if_true]); (repeat' split) <;> first | rfl | (exfalso; omega)))⟩))
    · refine W.widen (k := 2) (n := 12) (by decide) (by decide) ?_
      obtain ⟨g7, g8, rfl⟩ := hw
      have hP : va_P D vwCl [((a 21), .inl (cy 0, 8, .inl (fun _ => 0))), ((a 22), .inl (cy 0, 8, .inl (fun _ => 0))), ((a 23), .inl (cy 0, 8, .inl (fun _ => 0))), ((a 24), .inl (cy 0, 8, .inl (fun _ => 0))), ((a 25), .inl (cy 0, 4, .inl (fun _ => 0))), ((a 5), .inr (1, [.ref (a 40), .int 0, .int 0, .ref (a 46), .ref (a 47)])), ((a 40), .inr (6, [.ref (a 10), .int 0, .ref (a 41), .ref (a 42), .ref (a 43), .ref (a 44), .ref (a 45), .int 0])), ((a 41), .inl (cy 0, 8, .inl (fun _ => 0))), ((a 42), .inl (cy 0, 8, .inl (fun _ => 0))), ((a 43), .inl (cy 0, 8, .inl (fun _ => 0))), ((a 44), .inl (cy 0, 8, .inl (fun _ => 0))), ((a 45), .inl (cy 0, 4, .inl (fun _ => 0))), ((a 0), .inr (10, [.ref (a 1), .int 0, .int 0, .int (-1), .ref (a 2), .ref (a 3), .ref (a 4), .ref (a 5), .ref (a 6), .ref (a 7), .ref (a 8), .ref (a 9), .int 0])), ((a 3), .inr (6, [.ref (a 10), .int 0, .ref (a 21), .ref (a 22), .ref (a 23), .ref (a 24), .ref (a 25), .int 0])), ((a 10), .inr (0, [.int 0, .int 1, .int 1, .int 0, .int 0, .ref (a 11), .ref (a 12), .ref (a 13), .null, .null]))] H := hP
      have hD : va_D A [((a 21), .inl (cy 0, 8, .inl (fun _ => 0))), ((a 22), .inl (cy 0, 8, .inl (fun _ => 0))), ((a 23), .inl (cy 0, 8, .inl (fun _ => 0))), ((a 24), .inl (cy 0, 8, .inl (fun _ => 0))), ((a 25), .inl (cy 0, 4, .inl (fun _ => 0))), ((a 5), .inr (1, [.ref (a 40), .int 0, .int 0, .ref (a 46), .ref (a 47)])), ((a 40), .inr (6, [.ref (a 10), .int 0, .ref (a 41), .ref (a 42), .ref (a 43), .ref (a 44), .ref (a 45), .int 0])), ((a 41), .inl (cy 0, 8, .inl (fun _ => 0))), ((a 42), .inl (cy 0, 8, .inl (fun _ => 0))), ((a 43), .inl (cy 0, 8, .inl (fun _ => 0))), ((a 44), .inl (cy 0, 8, .inl (fun _ => 0))), ((a 45), .inl (cy 0, 4, .inl (fun _ => 0))), ((a 0), .inr (10, [.ref (a 1), .int 0, .int 0, .int (-1), .ref (a 2), .ref (a 3), .ref (a 4), .ref (a 5), .ref (a 6), .ref (a 7), .ref (a 8), .ref (a 9), .int 0])), ((a 3), .inr (6, [.ref (a 10), .int 0, .ref (a 21), .ref (a 22), .ref (a 23), .ref (a 24), .ref (a 25), .int 0])), ((a 10), .inr (0, [.int 0, .int 1, .int 1, .int 0, .int 0, .ref (a 11), .ref (a 12), .ref (a 13), .null, .null]))] := hD
      refine lv_aload_n hx hb dX10_heightIn_13 rfl (lv_at hl 0 rfl) ?_
      refine va_get (ci := 10) (v := .ref (a 5)) (C := RX10) (T := TX10) (N := 13) hx hb htA in_X10 hown hK hP 12 rfl rfl 7 (by decide) (htA _ wd_315) (fun _ h => h) rfl dX10_heightIn_14 ?_
      refine va_get (ci := 1) (v := .ref (a 40)) (C := RX1) (T := TX1) (N := 5) hx hb htA in_X1 hown hK hP 5 rfl rfl 0 (by decide) (htA _ wd_269) (fun _ h => h) rfl dX10_heightIn_17 ?_
      refine lv_astore_n (lv' := [(3, .ref (a 40)), (0, .ref (a 0)), (1, .int 0), (2, .int p2)]) hx hb dX10_heightIn_20 rfl hl (by decide) rfl (fun ls hl => ?_)
      refine lv_aload_n hx hb dX10_heightIn_21 rfl (lv_at hl 0 rfl) ?_
      refine lv_aload_n hx hb dX10_heightIn_22 rfl (lv_at hl 1 rfl) ?_
      refine va_get (ci := 10) (v := .ref (a 3)) (C := RX10) (T := TX10) (N := 13) hx hb htA in_X10 hown hK hP 12 rfl rfl 5 (by decide) (htA _ wd_313) (fun _ h => h) rfl dX10_heightIn_23 ?_
      refine kVv (As := [.ref (a 3)]) (rest := []) (wr := [((a 5), .inr (1, [.ref (a 40), .int 0, .int 0, .ref (a 46), .ref (a 47)])), ((a 0), .inr (10, [.ref (a 1), .int 0, .int 0, .int (-1), .ref (a 2), .ref (a 3), .ref (a 4), .ref (a 5), .ref (a 6), .ref (a 7), .ref (a 8), .ref (a 9), .int 0])), ((a 10), .inr (0, [.int 0, .int 1, .int 1, .int 0, .int 0, .ref (a 11), .ref (a 12), .ref (a 13), .null, .null]))]) hX hE (au_X6_copyFrom_31 l D cy a) (cwVA 1 htA wd_391 wd_852 wd_6 wd_389 wd_390 (by decide +kernel) ⟨by decide, by decide⟩) hP hD hS [0, 1, 2, 3, 4, 6, 7, 8, 9, 10, 11, 13] [5, 12, 14] rfl rfl (by decide) 5 rfl rfl rfl rfl hl.1 rfl (Nat.le_of_ble_eq_true rfl) dX10_heightIn_26 (by decide) (fun W1 H locs hw hP hD hS => ?_)
      refine W.widen (k := 2) (n := 12) (by decide) (by decide) ?_
      obtain rfl := hw
      have hP : va_P D vwCl [((a 5), .inr (1, [.ref (a 40), .int 0, .int 0, .ref (a 46), .ref (a 47)])), ((a 0), .inr (10, [.ref (a 1), .int 0, .int 0, .int (-1), .ref (a 2), .ref (a 3), .ref (a 4), .ref (a 5), .ref (a 6), .ref (a 7), .ref (a 8), .ref (a 9), .int 0])), ((a 10), .inr (0, [.int 0, .int 1, .int 1, .int 0, .int 0, .ref (a 11), .ref (a 12), .ref (a 13), .null, .null])), ((a 21), .inl (cy 0, 8, .inl (fun _ => 0))), ((a 22), .inl (cy 0, 8, .inl (fun _ => 0))), ((a 23), .inl (cy 0, 8, .inl (fun _ => 0))), ((a 24), .inl (cy 0, 8, .inl (fun _ => 0))), ((a 25), .inl (cy 0, 4, .inl (fun _ => 0))), ((a 40), .inr (6, [.ref (a 10), .int 0, .ref (a 41), .ref (a 42), .ref (a 43), .ref (a 44), .ref (a 45), .int 0])), ((a 41), .inl (cy 0, 8, .inl (fun _ => 0))), ((a 42), .inl (cy 0, 8, .inl (fun _ => 0))), ((a 43), .inl (cy 0, 8, .inl (fun _ => 0))), ((a 44), .inl (cy 0, 8, .inl (fun _ => 0))), ((a 45), .inl (cy 0, 4, .inl (fun _ => 0))), ((a 3), .inr (6, [.ref (a 10), .int 0, .ref (a 21), .ref (a 22), .ref (a 23), .ref (a 24), .ref (a 25), .int 0]))] H := hP
      have hD : va_D A [((a 5), .inr (1, [.ref (a 40), .int 0, .int 0, .ref (a 46), .ref (a 47)])), ((a 0), .inr (10, [.ref (a 1), .int 0, .int 0, .int (-1), .ref (a 2), .ref (a 3), .ref (a 4), .ref (a 5), .ref (a 6), .ref (a 7), .ref (a 8), .ref (a 9), .int 0])), ((a 10), .inr (0, [.int 0, .int 1, .int 1, .int 0, .int 0, .ref (a 11), .ref (a 12), .ref (a 13), .null, .null])), ((a 21), .inl (cy 0, 8, .inl (fun _ => 0))), ((a 22), .inl (cy 0, 8, .inl (fun _ => 0))), ((a 23), .inl (cy 0, 8, .inl (fun _ => 0))), ((a 24), .inl (cy 0, 8, .inl (fun _ => 0))), ((a 25), .inl (cy 0, 4, .inl (fun _ => 0))), ((a 40), .inr (6, [.ref (a 10), .int 0, .ref (a 41), .ref (a 42), .ref (a 43), .ref (a 44), .ref (a 45), .int 0])), ((a 41), .inl (cy 0, 8, .inl (fun _ => 0))), ((a 42), .inl (cy 0, 8, .inl (fun _ => 0))), ((a 43), .inl (cy 0, 8, .inl (fun _ => 0))), ((a 44), .inl (cy 0, 8, .inl (fun _ => 0))), ((a 45), .inl (cy 0, 4, .inl (fun _ => 0))), ((a 3), .inr (6, [.ref (a 10), .int 0, .ref (a 21), .ref (a 22), .ref (a 23), .ref (a 24), .ref (a 25), .int 0]))] := hD
      refine lv_aload_n hx hb dX10_heightIn_29 rfl (lv_at hl 0 rfl) ?_
      refine lv_aload_n hx hb dX10_heightIn_30 rfl (lv_at hl 1 rfl) ?_
      refine va_get (ci := 10) (v := .ref (a 3)) (C := RX10) (T := TX10) (N := 13) hx hb htA in_X10 hown hK hP 1 rfl rfl 5 (by decide) (htA _ wd_313) (fun _ h => h) rfl dX10_heightIn_31 ?_
      refine va_get (ci := 6) (v := .int 0) (C := RX6) (T := TX6) (N := 8) hx hb htA in_X6 hown hK hP 14 rfl rfl 1 (by decide) (htA _ wd_173) (fun _ h => h) rfl dX10_heightIn_34 ?_
      refine lv_iload_n hx hb dX10_heightIn_37 rfl (lv_at hl 3 rfl) ?_
      refine lv_iadd hx hb dX10_heightIn_38 ?_
      refine kVi (As := [.int (0 + p2)]) (rest := []) (wr := [((a 5), .inr (1, [.ref (a 40), .int 0, .int 0, .ref (a 46), .ref (a 47)])), ((a 0), .inr (10, [.ref (a 1), .int 0, .int 0, .int (-1), .ref (a 2), .ref (a 3), .ref (a 4), .ref (a 5), .ref (a 6), .ref (a 7), .ref (a 8), .ref (a 9), .int 0])), ((a 21), .inl (cy 0, 8, .inl (fun _ => 0))), ((a 22), .inl (cy 0, 8, .inl (fun _ => 0))), ((a 23), .inl (cy 0, 8, .inl (fun _ => 0))), ((a 24), .inl (cy 0, 8, .inl (fun _ => 0))), ((a 25), .inl (cy 0, 4, .inl (fun _ => 0))), ((a 41), .inl (cy 0, 8, .inl (fun _ => 0))), ((a 42), .inl (cy 0, 8, .inl (fun _ => 0))), ((a 43), .inl (cy 0, 8, .inl (fun _ => 0))), ((a 44), .inl (cy 0, 8, .inl (fun _ => 0))), ((a 45), .inl (cy 0, 4, .inl (fun _ => 0))), ((a 3), .inr (6, [.ref (a 10), .int 0, .ref (a 21), .ref (a 22), .ref (a 23), .ref (a 24), .ref (a 25), .int 0]))]) hX hE (au_X6_passTo_33 l D cy a (0 + p2)) (cwVA 1 htA wd_948 wd_945 wd_6 wd_946 wd_947 (by decide +kernel) ⟨by decide, by decide⟩) hP hD hS [2, 8] [0, 1, 3, 4, 5, 6, 7, 9, 10, 11, 12, 13, 14] rfl rfl (by decide) 1 rfl rfl rfl rfl hl.1 rfl (Nat.le_of_ble_eq_true rfl) dX10_heightIn_39 (by decide) (fun r_ W1 H locs hw hP hD hS => ?_)
      refine W.widen (k := 2) (n := 12) (by decide) (by decide) ?_
      obtain ⟨rfl, rfl⟩ := hw
      have hP : va_P D vwCl [((a 5), .inr (1, [.ref (a 40), .int 0, .int 0, .ref (a 46), .ref (a 47)])), ((a 0), .inr (10, [.ref (a 1), .int 0, .int 0, .int (-1), .ref (a 2), .ref (a 3), .ref (a 4), .ref (a 5), .ref (a 6), .ref (a 7), .ref (a 8), .ref (a 9), .int 0])), ((a 21), .inl (cy 0, 8, .inl (fun _ => 0))), ((a 22), .inl (cy 0, 8, .inl (fun _ => 0))), ((a 23), .inl (cy 0, 8, .inl (fun _ => 0))), ((a 24), .inl (cy 0, 8, .inl (fun _ => 0))), ((a 25), .inl (cy 0, 4, .inl (fun _ => 0))), ((a 41), .inl (cy 0, 8, .inl (fun _ => 0))), ((a 42), .inl (cy 0, 8, .inl (fun _ => 0))), ((a 43), .inl (cy 0, 8, .inl (fun _ => 0))), ((a 44), .inl (cy 0, 8, .inl (fun _ => 0))), ((a 45), .inl (cy 0, 4, .inl (fun _ => 0))), ((a 3), .inr (6, [.ref (a 10), .int 0, .ref (a 21), .ref (a 22), .ref (a 23), .ref (a 24), .ref (a 25), .int 0])), ((a 10), .inr (0, [.int 0, .int 1, .int 1, .int 0, .int 0, .ref (a 11), .ref (a 12), .ref (a 13), .null, .null])), ((a 40), .inr (6, [.ref (a 10), .int (0 + p2), .ref (a 41), .ref (a 42), .ref (a 43), .ref (a 44), .ref (a 45), .int 0]))] H := hP
      have hD : va_D A [((a 5), .inr (1, [.ref (a 40), .int 0, .int 0, .ref (a 46), .ref (a 47)])), ((a 0), .inr (10, [.ref (a 1), .int 0, .int 0, .int (-1), .ref (a 2), .ref (a 3), .ref (a 4), .ref (a 5), .ref (a 6), .ref (a 7), .ref (a 8), .ref (a 9), .int 0])), ((a 21), .inl (cy 0, 8, .inl (fun _ => 0))), ((a 22), .inl (cy 0, 8, .inl (fun _ => 0))), ((a 23), .inl (cy 0, 8, .inl (fun _ => 0))), ((a 24), .inl (cy 0, 8, .inl (fun _ => 0))), ((a 25), .inl (cy 0, 4, .inl (fun _ => 0))), ((a 41), .inl (cy 0, 8, .inl (fun _ => 0))), ((a 42), .inl (cy 0, 8, .inl (fun _ => 0))), ((a 43), .inl (cy 0, 8, .inl (fun _ => 0))), ((a 44), .inl (cy 0, 8, .inl (fun _ => 0))), ((a 45), .inl (cy 0, 4, .inl (fun _ => 0))), ((a 3), .inr (6, [.ref (a 10), .int 0, .ref (a 21), .ref (a 22), .ref (a 23), .ref (a 24), .ref (a 25), .int 0])), ((a 10), .inr (0, [.int 0, .int 1, .int 1, .int 0, .int 0, .ref (a 11), .ref (a 12), .ref (a 13), .null, .null])), ((a 40), .inr (6, [.ref (a 10), .int (0 + p2), .ref (a 41), .ref (a 42), .ref (a 43), .ref (a 44), .ref (a 45), .int 0]))] := hD
      refine lv_pop hx hb dX10_heightIn_42 rfl ?_
      refine lv_aload_n hx hb dX10_heightIn_43 rfl (lv_at hl 0 rfl) ?_
      refine lv_iload_n hx hb dX10_heightIn_44 rfl (lv_at hl 2 rfl) ?_
      refine kVi (As := [.int 0]) (rest := []) (wr := [((a 5), .inr (1, [.ref (a 40), .int 0, .int 0, .ref (a 46), .ref (a 47)])), ((a 0), .inr (10, [.ref (a 1), .int 0, .int 0, .int (-1), .ref (a 2), .ref (a 3), .ref (a 4), .ref (a 5), .ref (a 6), .ref (a 7), .ref (a 8), .ref (a 9), .int 0])), ((a 21), .inl (cy 0, 8, .inl (fun _ => 0))), ((a 22), .inl (cy 0, 8, .inl (fun _ => 0))), ((a 23), .inl (cy 0, 8, .inl (fun _ => 0))), ((a 24), .inl (cy 0, 8, .inl (fun _ => 0))), ((a 25), .inl (cy 0, 4, .inl (fun _ => 0))), ((a 41), .inl (cy 0, 8, .inl (fun _ => 0))), ((a 42), .inl (cy 0, 8, .inl (fun _ => 0))), ((a 43), .inl (cy 0, 8, .inl (fun _ => 0))), ((a 44), .inl (cy 0, 8, .inl (fun _ => 0))), ((a 45), .inl (cy 0, 4, .inl (fun _ => 0))), ((a 3), .inr (6, [.ref (a 10), .int 0, .ref (a 21), .ref (a 22), .ref (a 23), .ref (a 24), .ref (a 25), .int 0]))]) hX hE (au_X6_lying_34 l D cy a (0 + p2)) (cwVA 1 htA wd_379 wd_911 wd_6 wd_377 wd_378 (by decide +kernel) ⟨by decide, by decide⟩) hP hD hS [13, 14] [0, 1, 2, 3, 4, 5, 6, 7, 8, 9, 10, 11, 12] rfl rfl (by decide) 1 rfl rfl rfl rfl hl.1 rfl (Nat.le_of_ble_eq_true rfl) dX10_heightIn_45 (by decide) (fun r_ W1 H locs hw hP hD hS => ?_)
      refine W.widen (k := 2) (n := 12) (by decide) (by decide) ?_
      obtain ⟨rfl, rfl⟩ := hw
      have hP : va_P D vwCl [((a 5), .inr (1, [.ref (a 40), .int 0, .int 0, .ref (a 46), .ref (a 47)])), ((a 0), .inr (10, [.ref (a 1), .int 0, .int 0, .int (-1), .ref (a 2), .ref (a 3), .ref (a 4), .ref (a 5), .ref (a 6), .ref (a 7), .ref (a 8), .ref (a 9), .int 0])), ((a 21), .inl (cy 0, 8, .inl (fun _ => 0))), ((a 22), .inl (cy 0, 8, .inl (fun _ => 0))), ((a 23), .inl (cy 0, 8, .inl (fun _ => 0))), ((a 24), .inl (cy 0, 8, .inl (fun _ => 0))), ((a 25), .inl (cy 0, 4, .inl (fun _ => 0))), ((a 41), .inl (cy 0, 8, .inl (fun _ => 0))), ((a 42), .inl (cy 0, 8, .inl (fun _ => 0))), ((a 43), .inl (cy 0, 8, .inl (fun _ => 0))), ((a 44), .inl (cy 0, 8, .inl (fun _ => 0))), ((a 45), .inl (cy 0, 4, .inl (fun _ => 0))), ((a 3), .inr (6, [.ref (a 10), .int 0, .ref (a 21), .ref (a 22), .ref (a 23), .ref (a 24), .ref (a 25), .int 0])), ((a 10), .inr (0, [.int 0, .int 1, .int 1, .int 0, .int 0, .ref (a 11), .ref (a 12), .ref (a 13), .null, .null])), ((a 40), .inr (6, [.ref (a 10), .int (0 + p2), .ref (a 41), .ref (a 42), .ref (a 43), .ref (a 44), .ref (a 45), .int 0]))] H := hP
      have hD : va_D A [((a 5), .inr (1, [.ref (a 40), .int 0, .int 0, .ref (a 46), .ref (a 47)])), ((a 0), .inr (10, [.ref (a 1), .int 0, .int 0, .int (-1), .ref (a 2), .ref (a 3), .ref (a 4), .ref (a 5), .ref (a 6), .ref (a 7), .ref (a 8), .ref (a 9), .int 0])), ((a 21), .inl (cy 0, 8, .inl (fun _ => 0))), ((a 22), .inl (cy 0, 8, .inl (fun _ => 0))), ((a 23), .inl (cy 0, 8, .inl (fun _ => 0))), ((a 24), .inl (cy 0, 8, .inl (fun _ => 0))), ((a 25), .inl (cy 0, 4, .inl (fun _ => 0))), ((a 41), .inl (cy 0, 8, .inl (fun _ => 0))), ((a 42), .inl (cy 0, 8, .inl (fun _ => 0))), ((a 43), .inl (cy 0, 8, .inl (fun _ => 0))), ((a 44), .inl (cy 0, 8, .inl (fun _ => 0))), ((a 45), .inl (cy 0, 4, .inl (fun _ => 0))), ((a 3), .inr (6, [.ref (a 10), .int 0, .ref (a 21), .ref (a 22), .ref (a 23), .ref (a 24), .ref (a 25), .int 0])), ((a 10), .inr (0, [.int 0, .int 1, .int 1, .int 0, .int 0, .ref (a 11), .ref (a 12), .ref (a 13), .null, .null])), ((a 40), .inr (6, [.ref (a 10), .int (0 + p2), .ref (a 41), .ref (a 42), .ref (a 43), .ref (a 44), .ref (a 45), .int 0]))] := hD
      exact vx_ret (rI hX hE hP hD hS dX10_heightIn_48 (by decide) (by decide) (⟨(by have kg1 := g1; have kg2 := g2; have kg3 := g3; have kg7 := g7; have kg8 := g8; (try simp only [lg_cmp_lt, lg_cmp_le, lg_cmp_ge, lg_cmp_gt, lg_cmp_eq, fa_lt, fa_le, fa_eq, fa_lt64, fa_le64, fa_eq64, Int32.toInt_toInt64, li_0, lj_0, li_1, lj_1, li_999, lj_999] at kg1); (try simp only [lg_cmp_lt, lg_cmp_le, lg_cmp_ge, lg_cmp_gt, lg_cmp_eq, fa_lt, fa_le, fa_eq, fa_lt64, fa_le64, fa_eq64, Int32.toInt_toInt64, li_0, lj_0, li_1, lj_1, li_999, lj_999] at kg2); (try simp only [lg_cmp_lt, lg_cmp_le, lg_cmp_ge, lg_cmp_gt, lg_cmp_eq, fa_lt, fa_le, fa_eq, fa_lt64, fa_le64, fa_eq64, Int32.toInt_toInt64, li_0, lj_0, li_1, lj_1, li_999, lj_999] at kg3); (try simp only [lg_cmp_lt, lg_cmp_le, lg_cmp_ge, lg_cmp_gt, lg_cmp_eq, fa_lt, fa_le, fa_eq, fa_lt64, fa_le64, fa_eq64, Int32.toInt_toInt64, li_0, lj_0, li_1, lj_1, li_999, lj_999] at kg7); (try simp only [lg_cmp_lt, lg_cmp_le, lg_cmp_ge, lg_cmp_gt, lg_cmp_eq, fa_lt, fa_le, fa_eq, fa_lt64, fa_le64, fa_eq64, Int32.toInt_toInt64, li_0, lj_0, li_1, lj_1, li_999, lj_999] at kg8); first | rfl | (unfold kf_heightIn; (try simp only [li_0, and_self, and_true, true_and, if_true]); (repeat' split) <;> first | rfl | (exfalso; omega))), (by have kg1 := g1; have kg2 := g2; have kg3 := g3; have kg7 := g7; have kg8 := g8; (try simp only [lg_cmp_lt, lg_cmp_le, lg_cmp_ge, lg_cmp_gt, lg_cmp_eq, fa_lt, fa_le, fa_eq, fa_lt64, fa_le64, fa_eq64, Int32.toInt_toInt64, li_0, lj_0, li_1, lj_1, li_999, lj_999] at kg1); (try simp only [lg_cmp_lt, lg_cmp_le, lg_cmp_ge, lg_cmp_gt, lg_cmp_eq, fa_lt, fa_le, fa_eq, fa_lt64, fa_le64, fa_eq64, Int32.toInt_toInt64, li_0, lj_0, li_1, lj_1, li_999, lj_999] at kg2); (try simp only [lg_cmp_lt, lg_cmp_le, lg_cmp_ge, lg_cmp_gt, lg_cmp_eq, fa_lt, fa_le, fa_eq, fa_lt64, fa_le64, fa_eq64, Int32.toInt_toInt64, li_0, lj_0, li_1, lj_1, li_999, lj_999] at kg3); (try simp only [lg_cmp_lt, lg_cmp_le, lg_cmp_ge, lg_cmp_gt, lg_cmp_eq, fa_lt, fa_le, fa_eq, fa_lt64, fa_le64, fa_eq64, Int32.toInt_toInt64, li_0, lj_0, li_1, lj_1, li_999, lj_999] at kg7); (try simp only [lg_cmp_lt, lg_cmp_le, lg_cmp_ge, lg_cmp_gt, lg_cmp_eq, fa_lt, fa_le, fa_eq, fa_lt64, fa_le64, fa_eq64, Int32.toInt_toInt64, li_0, lj_0, li_1, lj_1, li_999, lj_999] at kg8); first | rfl | decide | (unfold vf_heightIn; (try simp only [li_0, and_self, and_true, true_and, if_true]); (repeat' split) <;> first | rfl | decide | (exfalso; omega)))⟩))
def vi_count (p1 : Int32) : Int32 := if p1.toInt = 1 ∨ p1.toInt = 2 then 1 else if 0 ≤ p1.toInt ∧ p1.toInt ≤ 11 then 0 else -1
set_option maxHeartbeats 4000000 in
set_option maxRecDepth 100000 in
theorem au_X6_countOf_35 (l : Launch) (D : va_G) (cy : Nat → ClassId) (a : Nat → Nat) : Ci l yX6_countOf cX6_countOf 4 (some .int) { frames := 0, cells := 0, slots := 0, locals := 0 } D cy [.ref (a 3), .int 0] [((a 3), .inr (6, [.ref (a 10), .int 0, .ref (a 21), .ref (a 22), .ref (a 23), .ref (a 24), .ref (a 25), .int 0])), ((a 10), .inr (0, [.int 0, .int 1, .int 1, .int 0, .int 0, .ref (a 11), .ref (a 12), .ref (a 13), .null, .null]))] (fun r W1 => (W1 = [((a 3), .inr (6, [.ref (a 10), .int 0, .ref (a 21), .ref (a 22), .ref (a 23), .ref (a 24), .ref (a 25), .int 0])), ((a 10), .inr (0, [.int 0, .int 1, .int 1, .int 0, .int 0, .ref (a 11), .ref (a 12), .ref (a 13), .null, .null]))] ∧ r = 0)) := by
  refine Ci.of (by decide) (Nat.le_of_ble_eq_true rfl) ?_
  intro p e s m below meth c A ls hX hE hP hD hl
  obtain ⟨hx, hb, hr, hml, hown, htA, hlk⟩ := id hX
  have hK := hE.1
  have hS : va_S A s.heap s.heap [] := va_S.rf
  have hl : lv_has ls 4 [(0, .ref (a 3)), (1, .int 0)] := hl
  refine lv_iconst (v := 0) hx hb dX6_countOf_0 (by decide) ?_
  refine lv_istore_n (lv' := [(2, .int 0), (0, .ref (a 3)), (1, .int 0)]) hx hb dX6_countOf_1 rfl hl (by decide) rfl (fun ls hl => ?_)
  refine lv_iconst (v := 0) hx hb dX6_countOf_2 (by decide) ?_
  refine lv_istore_n (lv' := [(3, .int 0), (2, .int 0), (0, .ref (a 3)), (1, .int 0)]) hx hb dX6_countOf_3 rfl hl (by decide) rfl (fun ls hl => ?_)
  refine lv_iload_n hx hb dX6_countOf_4 rfl (lv_at hl 0 rfl) ?_
  refine lv_aload_n hx hb dX6_countOf_5 rfl (lv_at hl 2 rfl) ?_
  refine va_get (ci := 6) (v := .ref (a 10)) (C := RX6) (T := TX6) (N := 8) hx hb htA in_X6 hown hK hP 0 rfl rfl 0 (by decide) (htA _ wd_166) (fun _ h => h) rfl dX6_countOf_6 ?_
  refine va_get (ci := 0) (v := .int 0) (C := RX0) (T := TX0) (N := 10) hx hb htA in_X0 hown hK hP 1 rfl rfl 3 (by decide) (htA _ wd_86) (fun _ h => h) rfl dX6_countOf_9 ?_
  refine lv_icmp_ge (tgt := 34) hx hb dX6_countOf_12 (by decide) (fun _ => ?_) (fun q => absurd (by decide) q)
  refine lv_iload_n hx hb dX6_countOf_34 rfl (lv_at hl 1 rfl) ?_
  exact rI hX hE hP hD hS dX6_countOf_35 (by decide) (by decide) (⟨rfl, rfl⟩)
set_option maxHeartbeats 4000000 in
set_option maxRecDepth 100000 in
theorem au_X6_countOf_36 (l : Launch) (D : va_G) (cy : Nat → ClassId) (a : Nat → Nat) : Ci l yX6_countOf cX6_countOf 4 (some .int) { frames := 0, cells := 0, slots := 0, locals := 0 } D cy [.ref (a 3), .int 1] [((a 3), .inr (6, [.ref (a 10), .int 0, .ref (a 21), .ref (a 22), .ref (a 23), .ref (a 24), .ref (a 25), .int 0])), ((a 10), .inr (0, [.int 0, .int 1, .int 1, .int 0, .int 0, .ref (a 11), .ref (a 12), .ref (a 13), .null, .null]))] (fun r W1 => (W1 = [((a 3), .inr (6, [.ref (a 10), .int 0, .ref (a 21), .ref (a 22), .ref (a 23), .ref (a 24), .ref (a 25), .int 0])), ((a 10), .inr (0, [.int 0, .int 1, .int 1, .int 0, .int 0, .ref (a 11), .ref (a 12), .ref (a 13), .null, .null]))] ∧ r = 0)) := by
  refine Ci.of (by decide) (Nat.le_of_ble_eq_true rfl) ?_
  intro p e s m below meth c A ls hX hE hP hD hl
  obtain ⟨hx, hb, hr, hml, hown, htA, hlk⟩ := id hX
  have hK := hE.1
  have hS : va_S A s.heap s.heap [] := va_S.rf
  have hl : lv_has ls 4 [(0, .ref (a 3)), (1, .int 1)] := hl
  refine lv_iconst (v := 0) hx hb dX6_countOf_0 (by decide) ?_
  refine lv_istore_n (lv' := [(2, .int 0), (0, .ref (a 3)), (1, .int 1)]) hx hb dX6_countOf_1 rfl hl (by decide) rfl (fun ls hl => ?_)
  refine lv_iconst (v := 0) hx hb dX6_countOf_2 (by decide) ?_
  refine lv_istore_n (lv' := [(3, .int 0), (2, .int 0), (0, .ref (a 3)), (1, .int 1)]) hx hb dX6_countOf_3 rfl hl (by decide) rfl (fun ls hl => ?_)
  refine lv_iload_n hx hb dX6_countOf_4 rfl (lv_at hl 0 rfl) ?_
  refine lv_aload_n hx hb dX6_countOf_5 rfl (lv_at hl 2 rfl) ?_
  refine va_get (ci := 6) (v := .ref (a 10)) (C := RX6) (T := TX6) (N := 8) hx hb htA in_X6 hown hK hP 0 rfl rfl 0 (by decide) (htA _ wd_166) (fun _ h => h) rfl dX6_countOf_6 ?_
  refine va_get (ci := 0) (v := .int 0) (C := RX0) (T := TX0) (N := 10) hx hb htA in_X0 hown hK hP 1 rfl rfl 3 (by decide) (htA _ wd_86) (fun _ h => h) rfl dX6_countOf_9 ?_
  refine lv_icmp_ge (tgt := 34) hx hb dX6_countOf_12 (by decide) (fun _ => ?_) (fun q => absurd (by decide) q)
  refine lv_iload_n hx hb dX6_countOf_34 rfl (lv_at hl 1 rfl) ?_
  exact rI hX hE hP hD hS dX6_countOf_35 (by decide) (by decide) (⟨rfl, rfl⟩)
set_option maxHeartbeats 4000000 in
set_option maxRecDepth 100000 in
theorem au_X6_countOf_37 (l : Launch) (D : va_G) (cy : Nat → ClassId) (a : Nat → Nat) : Ci l yX6_countOf cX6_countOf 4 (some .int) { frames := 0, cells := 0, slots := 0, locals := 0 } D cy [.ref (a 3), .int 2] [((a 3), .inr (6, [.ref (a 10), .int 0, .ref (a 21), .ref (a 22), .ref (a 23), .ref (a 24), .ref (a 25), .int 0])), ((a 10), .inr (0, [.int 0, .int 1, .int 1, .int 0, .int 0, .ref (a 11), .ref (a 12), .ref (a 13), .null, .null]))] (fun r W1 => (W1 = [((a 3), .inr (6, [.ref (a 10), .int 0, .ref (a 21), .ref (a 22), .ref (a 23), .ref (a 24), .ref (a 25), .int 0])), ((a 10), .inr (0, [.int 0, .int 1, .int 1, .int 0, .int 0, .ref (a 11), .ref (a 12), .ref (a 13), .null, .null]))] ∧ r = 0)) := by
  refine Ci.of (by decide) (Nat.le_of_ble_eq_true rfl) ?_
  intro p e s m below meth c A ls hX hE hP hD hl
  obtain ⟨hx, hb, hr, hml, hown, htA, hlk⟩ := id hX
  have hK := hE.1
  have hS : va_S A s.heap s.heap [] := va_S.rf
  have hl : lv_has ls 4 [(0, .ref (a 3)), (1, .int 2)] := hl
  refine lv_iconst (v := 0) hx hb dX6_countOf_0 (by decide) ?_
  refine lv_istore_n (lv' := [(2, .int 0), (0, .ref (a 3)), (1, .int 2)]) hx hb dX6_countOf_1 rfl hl (by decide) rfl (fun ls hl => ?_)
  refine lv_iconst (v := 0) hx hb dX6_countOf_2 (by decide) ?_
  refine lv_istore_n (lv' := [(3, .int 0), (2, .int 0), (0, .ref (a 3)), (1, .int 2)]) hx hb dX6_countOf_3 rfl hl (by decide) rfl (fun ls hl => ?_)
  refine lv_iload_n hx hb dX6_countOf_4 rfl (lv_at hl 0 rfl) ?_
  refine lv_aload_n hx hb dX6_countOf_5 rfl (lv_at hl 2 rfl) ?_
  refine va_get (ci := 6) (v := .ref (a 10)) (C := RX6) (T := TX6) (N := 8) hx hb htA in_X6 hown hK hP 0 rfl rfl 0 (by decide) (htA _ wd_166) (fun _ h => h) rfl dX6_countOf_6 ?_
  refine va_get (ci := 0) (v := .int 0) (C := RX0) (T := TX0) (N := 10) hx hb htA in_X0 hown hK hP 1 rfl rfl 3 (by decide) (htA _ wd_86) (fun _ h => h) rfl dX6_countOf_9 ?_
  refine lv_icmp_ge (tgt := 34) hx hb dX6_countOf_12 (by decide) (fun _ => ?_) (fun q => absurd (by decide) q)
  refine lv_iload_n hx hb dX6_countOf_34 rfl (lv_at hl 1 rfl) ?_
  exact rI hX hE hP hD hS dX6_countOf_35 (by decide) (by decide) (⟨rfl, rfl⟩)
set_option maxHeartbeats 4000000 in
set_option maxRecDepth 100000 in
theorem au_X6_totalHurt_38 (l : Launch) (D : va_G) (cy : Nat → ClassId) (a : Nat → Nat) : Ci l yX6_totalHurt cX6_totalHurt 3 (some .int) { frames := 0, cells := 0, slots := 0, locals := 0 } D cy [.ref (a 3)] [((a 3), .inr (6, [.ref (a 10), .int 0, .ref (a 21), .ref (a 22), .ref (a 23), .ref (a 24), .ref (a 25), .int 0])), ((a 10), .inr (0, [.int 0, .int 1, .int 1, .int 0, .int 0, .ref (a 11), .ref (a 12), .ref (a 13), .null, .null]))] (fun r W1 => (W1 = [((a 3), .inr (6, [.ref (a 10), .int 0, .ref (a 21), .ref (a 22), .ref (a 23), .ref (a 24), .ref (a 25), .int 0])), ((a 10), .inr (0, [.int 0, .int 1, .int 1, .int 0, .int 0, .ref (a 11), .ref (a 12), .ref (a 13), .null, .null]))] ∧ r = 0)) := by
  refine Ci.of (by decide) (Nat.le_of_ble_eq_true rfl) ?_
  intro p e s m below meth c A ls hX hE hP hD hl
  obtain ⟨hx, hb, hr, hml, hown, htA, hlk⟩ := id hX
  have hK := hE.1
  have hS : va_S A s.heap s.heap [] := va_S.rf
  have hl : lv_has ls 3 [(0, .ref (a 3))] := hl
  refine lv_iconst (v := 0) hx hb dX6_totalHurt_0 (by decide) ?_
  refine lv_istore_n (lv' := [(1, .int 0), (0, .ref (a 3))]) hx hb dX6_totalHurt_1 rfl hl (by decide) rfl (fun ls hl => ?_)
  refine lv_iconst (v := 0) hx hb dX6_totalHurt_2 (by decide) ?_
  refine lv_istore_n (lv' := [(2, .int 0), (1, .int 0), (0, .ref (a 3))]) hx hb dX6_totalHurt_3 rfl hl (by decide) rfl (fun ls hl => ?_)
  refine lv_iload_n hx hb dX6_totalHurt_4 rfl (lv_at hl 0 rfl) ?_
  refine lv_aload_n hx hb dX6_totalHurt_5 rfl (lv_at hl 2 rfl) ?_
  refine va_get (ci := 6) (v := .ref (a 10)) (C := RX6) (T := TX6) (N := 8) hx hb htA in_X6 hown hK hP 0 rfl rfl 0 (by decide) (htA _ wd_166) (fun _ h => h) rfl dX6_totalHurt_6 ?_
  refine va_get (ci := 0) (v := .int 0) (C := RX0) (T := TX0) (N := 10) hx hb htA in_X0 hown hK hP 1 rfl rfl 4 (by decide) (htA _ wd_90) (fun _ h => h) rfl dX6_totalHurt_9 ?_
  refine lv_icmp_ge (tgt := 30) hx hb dX6_totalHurt_12 (by decide) (fun _ => ?_) (fun q => absurd (by decide) q)
  refine lv_iload_n hx hb dX6_totalHurt_30 rfl (lv_at hl 1 rfl) ?_
  exact rI hX hE hP hD hS dX6_totalHurt_31 (by decide) (by decide) (⟨rfl, rfl⟩)
set_option maxHeartbeats 4000000 in
set_option maxRecDepth 100000 in
theorem m_count (l : Launch) (D : va_G) (cy : Nat → ClassId) (a : Nat → Nat) (p1 : Int32) : Ci l yX10_count cX10_count 3 (some .int) { frames := 1, cells := 0, slots := 0, locals := 23 } D cy [.ref (a 0), .int p1] [((a 0), .inr (10, [.ref (a 1), .int 0, .int 0, .int (-1), .ref (a 2), .ref (a 3), .ref (a 4), .ref (a 5), .ref (a 6), .ref (a 7), .ref (a 8), .ref (a 9), .int 0])), ((a 4), .inr (2, [.ref (a 70), .int 0, .int 0])), ((a 3), .inr (6, [.ref (a 10), .int 0, .ref (a 21), .ref (a 22), .ref (a 23), .ref (a 24), .ref (a 25), .int 0])), ((a 10), .inr (0, [.int 0, .int 1, .int 1, .int 0, .int 0, .ref (a 11), .ref (a 12), .ref (a 13), .null, .null]))] (fun r _ => r = vi_count p1) := by
  refine Ci.of (by decide) (Nat.le_of_ble_eq_true rfl) ?_
  intro p e s m below meth c A ls hX hE hP hD hl
  obtain ⟨hx, hb, hr, hml, hown, htA, hlk⟩ := id hX
  have hK := hE.1
  have hS : va_S A s.heap s.heap [] := va_S.rf
  have hl : lv_has ls 3 [(0, .ref (a 0)), (1, .int p1)] := hl
  refine lv_aload_n hx hb dX10_count_0 rfl (lv_at hl 0 rfl) ?_
  refine va_get (ci := 10) (v := .ref (a 3)) (C := RX10) (T := TX10) (N := 13) hx hb htA in_X10 hown hK hP 0 rfl rfl 5 (by decide) (htA _ wd_313) (fun _ h => h) rfl dX10_count_1 ?_
  refine va_get (ci := 6) (v := .ref (a 10)) (C := RX6) (T := TX6) (N := 8) hx hb htA in_X6 hown hK hP 2 rfl rfl 0 (by decide) (htA _ wd_168) (fun _ h => h) rfl dX10_count_4 ?_
  refine lv_astore_n (lv' := [(2, .ref (a 10)), (0, .ref (a 0)), (1, .int p1)]) hx hb dX10_count_7 rfl hl (by decide) rfl (fun ls hl => ?_)
  refine lv_iload_n hx hb dX10_count_8 rfl (lv_at hl 2 rfl) ?_
  rcases sw_0_11 p1 with rfl | rfl | rfl | rfl | rfl | rfl | rfl | rfl | rfl | rfl | rfl | rfl | c1
  · refine lv_tableIn (tgt := 72) hx hb dX10_count_9 (by decide) (by decide) rfl (by decide) ?_
    refine lv_aload_n hx hb dX10_count_72 rfl (lv_at hl 0 rfl) ?_
    refine va_get (ci := 0) (v := .int 0) (C := RX0) (T := TX0) (N := 10) hx hb htA in_X0 hown hK hP 3 rfl rfl 0 (by decide) (htA _ wd_75) (fun _ h => h) rfl dX10_count_73 ?_
    exact rI hX hE hP hD hS dX10_count_76 (by decide) (by decide) ((by first | rfl | decide | (unfold vi_count; (repeat' split) <;> first | rfl | decide | (exfalso; omega))))
  · refine lv_tableIn (tgt := 77) hx hb dX10_count_9 (by decide) (by decide) rfl (by decide) ?_
    refine lv_aload_n hx hb dX10_count_77 rfl (lv_at hl 0 rfl) ?_
    refine va_get (ci := 0) (v := .int 1) (C := RX0) (T := TX0) (N := 10) hx hb htA in_X0 hown hK hP 3 rfl rfl 1 (by decide) (htA _ wd_80) (fun _ h => h) rfl dX10_count_78 ?_
    exact rI hX hE hP hD hS dX10_count_81 (by decide) (by decide) ((by first | rfl | decide | (unfold vi_count; (repeat' split) <;> first | rfl | decide | (exfalso; omega))))
  · refine lv_tableIn (tgt := 82) hx hb dX10_count_9 (by decide) (by decide) rfl (by decide) ?_
    refine lv_aload_n hx hb dX10_count_82 rfl (lv_at hl 0 rfl) ?_
    refine va_get (ci := 0) (v := .int 1) (C := RX0) (T := TX0) (N := 10) hx hb htA in_X0 hown hK hP 3 rfl rfl 2 (by decide) (htA _ wd_85) (fun _ h => h) rfl dX10_count_83 ?_
    exact rI hX hE hP hD hS dX10_count_86 (by decide) (by decide) ((by first | rfl | decide | (unfold vi_count; (repeat' split) <;> first | rfl | decide | (exfalso; omega))))
  · refine lv_tableIn (tgt := 87) hx hb dX10_count_9 (by decide) (by decide) rfl (by decide) ?_
    refine lv_aload_n hx hb dX10_count_87 rfl (lv_at hl 0 rfl) ?_
    refine va_get (ci := 0) (v := .int 0) (C := RX0) (T := TX0) (N := 10) hx hb htA in_X0 hown hK hP 3 rfl rfl 3 (by decide) (htA _ wd_88) (fun _ h => h) rfl dX10_count_88 ?_
    exact rI hX hE hP hD hS dX10_count_91 (by decide) (by decide) ((by first | rfl | decide | (unfold vi_count; (repeat' split) <;> first | rfl | decide | (exfalso; omega))))
  · refine lv_tableIn (tgt := 92) hx hb dX10_count_9 (by decide) (by decide) rfl (by decide) ?_
    refine lv_aload_n hx hb dX10_count_92 rfl (lv_at hl 1 rfl) ?_
    refine va_get (ci := 10) (v := .ref (a 3)) (C := RX10) (T := TX10) (N := 13) hx hb htA in_X10 hown hK hP 0 rfl rfl 5 (by decide) (htA _ wd_313) (fun _ h => h) rfl dX10_count_93 ?_
    refine lv_iconst (v := 0) hx hb dX10_count_96 (by decide) ?_
    refine kVi (As := [.int 0]) (rest := []) (wr := [((a 0), .inr (10, [.ref (a 1), .int 0, .int 0, .int (-1), .ref (a 2), .ref (a 3), .ref (a 4), .ref (a 5), .ref (a 6), .ref (a 7), .ref (a 8), .ref (a 9), .int 0])), ((a 4), .inr (2, [.ref (a 70), .int 0, .int 0]))]) hX hE (au_X6_countOf_35 l D cy a) (cwVA 1 htA wd_518 wd_515 wd_6 wd_516 wd_517 (by decide +kernel) ⟨by decide, by decide⟩) hP hD hS [2, 3] [0, 1] rfl rfl (by decide) 0 rfl rfl rfl rfl hl.1 rfl (Nat.le_of_ble_eq_true rfl) dX10_count_97 (by decide) (fun r_ W1 H locs hw hP hD hS => ?_)
    refine W.widen (k := 0) (n := 0) (by decide) (by decide) ?_
    obtain ⟨rfl, rfl⟩ := hw
    have hP : va_P D vwCl [((a 0), .inr (10, [.ref (a 1), .int 0, .int 0, .int (-1), .ref (a 2), .ref (a 3), .ref (a 4), .ref (a 5), .ref (a 6), .ref (a 7), .ref (a 8), .ref (a 9), .int 0])), ((a 4), .inr (2, [.ref (a 70), .int 0, .int 0])), ((a 3), .inr (6, [.ref (a 10), .int 0, .ref (a 21), .ref (a 22), .ref (a 23), .ref (a 24), .ref (a 25), .int 0])), ((a 10), .inr (0, [.int 0, .int 1, .int 1, .int 0, .int 0, .ref (a 11), .ref (a 12), .ref (a 13), .null, .null]))] H := hP
    have hD : va_D A [((a 0), .inr (10, [.ref (a 1), .int 0, .int 0, .int (-1), .ref (a 2), .ref (a 3), .ref (a 4), .ref (a 5), .ref (a 6), .ref (a 7), .ref (a 8), .ref (a 9), .int 0])), ((a 4), .inr (2, [.ref (a 70), .int 0, .int 0])), ((a 3), .inr (6, [.ref (a 10), .int 0, .ref (a 21), .ref (a 22), .ref (a 23), .ref (a 24), .ref (a 25), .int 0])), ((a 10), .inr (0, [.int 0, .int 1, .int 1, .int 0, .int 0, .ref (a 11), .ref (a 12), .ref (a 13), .null, .null]))] := hD
    exact rI hX hE hP hD hS dX10_count_100 (by decide) (by decide) ((by first | rfl | decide | (unfold vi_count; (repeat' split) <;> first | rfl | decide | (exfalso; omega))))
  · refine lv_tableIn (tgt := 101) hx hb dX10_count_9 (by decide) (by decide) rfl (by decide) ?_
    refine lv_aload_n hx hb dX10_count_101 rfl (lv_at hl 1 rfl) ?_
    refine va_get (ci := 10) (v := .ref (a 3)) (C := RX10) (T := TX10) (N := 13) hx hb htA in_X10 hown hK hP 0 rfl rfl 5 (by decide) (htA _ wd_313) (fun _ h => h) rfl dX10_count_102 ?_
    refine lv_iconst (v := 1) hx hb dX10_count_105 (by decide) ?_
    refine kVi (As := [.int 1]) (rest := []) (wr := [((a 0), .inr (10, [.ref (a 1), .int 0, .int 0, .int (-1), .ref (a 2), .ref (a 3), .ref (a 4), .ref (a 5), .ref (a 6), .ref (a 7), .ref (a 8), .ref (a 9), .int 0])), ((a 4), .inr (2, [.ref (a 70), .int 0, .int 0]))]) hX hE (au_X6_countOf_36 l D cy a) (cwVA 1 htA wd_518 wd_515 wd_6 wd_516 wd_517 (by decide +kernel) ⟨by decide, by decide⟩) hP hD hS [2, 3] [0, 1] rfl rfl (by decide) 0 rfl rfl rfl rfl hl.1 rfl (Nat.le_of_ble_eq_true rfl) dX10_count_106 (by decide) (fun r_ W1 H locs hw hP hD hS => ?_)
    refine W.widen (k := 0) (n := 0) (by decide) (by decide) ?_
    obtain ⟨rfl, rfl⟩ := hw
    have hP : va_P D vwCl [((a 0), .inr (10, [.ref (a 1), .int 0, .int 0, .int (-1), .ref (a 2), .ref (a 3), .ref (a 4), .ref (a 5), .ref (a 6), .ref (a 7), .ref (a 8), .ref (a 9), .int 0])), ((a 4), .inr (2, [.ref (a 70), .int 0, .int 0])), ((a 3), .inr (6, [.ref (a 10), .int 0, .ref (a 21), .ref (a 22), .ref (a 23), .ref (a 24), .ref (a 25), .int 0])), ((a 10), .inr (0, [.int 0, .int 1, .int 1, .int 0, .int 0, .ref (a 11), .ref (a 12), .ref (a 13), .null, .null]))] H := hP
    have hD : va_D A [((a 0), .inr (10, [.ref (a 1), .int 0, .int 0, .int (-1), .ref (a 2), .ref (a 3), .ref (a 4), .ref (a 5), .ref (a 6), .ref (a 7), .ref (a 8), .ref (a 9), .int 0])), ((a 4), .inr (2, [.ref (a 70), .int 0, .int 0])), ((a 3), .inr (6, [.ref (a 10), .int 0, .ref (a 21), .ref (a 22), .ref (a 23), .ref (a 24), .ref (a 25), .int 0])), ((a 10), .inr (0, [.int 0, .int 1, .int 1, .int 0, .int 0, .ref (a 11), .ref (a 12), .ref (a 13), .null, .null]))] := hD
    exact rI hX hE hP hD hS dX10_count_109 (by decide) (by decide) ((by first | rfl | decide | (unfold vi_count; (repeat' split) <;> first | rfl | decide | (exfalso; omega))))
  · refine lv_tableIn (tgt := 110) hx hb dX10_count_9 (by decide) (by decide) rfl (by decide) ?_
    refine lv_aload_n hx hb dX10_count_110 rfl (lv_at hl 1 rfl) ?_
    refine va_get (ci := 10) (v := .ref (a 3)) (C := RX10) (T := TX10) (N := 13) hx hb htA in_X10 hown hK hP 0 rfl rfl 5 (by decide) (htA _ wd_313) (fun _ h => h) rfl dX10_count_111 ?_
    refine lv_iconst (v := 2) hx hb dX10_count_114 (by decide) ?_
    refine kVi (As := [.int 2]) (rest := []) (wr := [((a 0), .inr (10, [.ref (a 1), .int 0, .int 0, .int (-1), .ref (a 2), .ref (a 3), .ref (a 4), .ref (a 5), .ref (a 6), .ref (a 7), .ref (a 8), .ref (a 9), .int 0])), ((a 4), .inr (2, [.ref (a 70), .int 0, .int 0]))]) hX hE (au_X6_countOf_37 l D cy a) (cwVA 1 htA wd_518 wd_515 wd_6 wd_516 wd_517 (by decide +kernel) ⟨by decide, by decide⟩) hP hD hS [2, 3] [0, 1] rfl rfl (by decide) 0 rfl rfl rfl rfl hl.1 rfl (Nat.le_of_ble_eq_true rfl) dX10_count_115 (by decide) (fun r_ W1 H locs hw hP hD hS => ?_)
    refine W.widen (k := 0) (n := 0) (by decide) (by decide) ?_
    obtain ⟨rfl, rfl⟩ := hw
    have hP : va_P D vwCl [((a 0), .inr (10, [.ref (a 1), .int 0, .int 0, .int (-1), .ref (a 2), .ref (a 3), .ref (a 4), .ref (a 5), .ref (a 6), .ref (a 7), .ref (a 8), .ref (a 9), .int 0])), ((a 4), .inr (2, [.ref (a 70), .int 0, .int 0])), ((a 3), .inr (6, [.ref (a 10), .int 0, .ref (a 21), .ref (a 22), .ref (a 23), .ref (a 24), .ref (a 25), .int 0])), ((a 10), .inr (0, [.int 0, .int 1, .int 1, .int 0, .int 0, .ref (a 11), .ref (a 12), .ref (a 13), .null, .null]))] H := hP
    have hD : va_D A [((a 0), .inr (10, [.ref (a 1), .int 0, .int 0, .int (-1), .ref (a 2), .ref (a 3), .ref (a 4), .ref (a 5), .ref (a 6), .ref (a 7), .ref (a 8), .ref (a 9), .int 0])), ((a 4), .inr (2, [.ref (a 70), .int 0, .int 0])), ((a 3), .inr (6, [.ref (a 10), .int 0, .ref (a 21), .ref (a 22), .ref (a 23), .ref (a 24), .ref (a 25), .int 0])), ((a 10), .inr (0, [.int 0, .int 1, .int 1, .int 0, .int 0, .ref (a 11), .ref (a 12), .ref (a 13), .null, .null]))] := hD
    exact rI hX hE hP hD hS dX10_count_118 (by decide) (by decide) ((by first | rfl | decide | (unfold vi_count; (repeat' split) <;> first | rfl | decide | (exfalso; omega))))
  · refine lv_tableIn (tgt := 119) hx hb dX10_count_9 (by decide) (by decide) rfl (by decide) ?_
    refine lv_aload_n hx hb dX10_count_119 rfl (lv_at hl 0 rfl) ?_
    refine va_get (ci := 0) (v := .int 0) (C := RX0) (T := TX0) (N := 10) hx hb htA in_X0 hown hK hP 3 rfl rfl 4 (by decide) (htA _ wd_92) (fun _ h => h) rfl dX10_count_120 ?_
    exact rI hX hE hP hD hS dX10_count_123 (by decide) (by decide) ((by first | rfl | decide | (unfold vi_count; (repeat' split) <;> first | rfl | decide | (exfalso; omega))))
  · refine lv_tableIn (tgt := 124) hx hb dX10_count_9 (by decide) (by decide) rfl (by decide) ?_
    refine lv_aload_n hx hb dX10_count_124 rfl (lv_at hl 1 rfl) ?_
    refine va_get (ci := 10) (v := .ref (a 3)) (C := RX10) (T := TX10) (N := 13) hx hb htA in_X10 hown hK hP 0 rfl rfl 5 (by decide) (htA _ wd_313) (fun _ h => h) rfl dX10_count_125 ?_
    refine va_get (ci := 6) (v := .int 0) (C := RX6) (T := TX6) (N := 8) hx hb htA in_X6 hown hK hP 2 rfl rfl 1 (by decide) (htA _ wd_173) (fun _ h => h) rfl dX10_count_128 ?_
    exact rI hX hE hP hD hS dX10_count_131 (by decide) (by decide) ((by first | rfl | decide | (unfold vi_count; (repeat' split) <;> first | rfl | decide | (exfalso; omega))))
  · refine lv_tableIn (tgt := 132) hx hb dX10_count_9 (by decide) (by decide) rfl (by decide) ?_
    refine lv_aload_n hx hb dX10_count_132 rfl (lv_at hl 1 rfl) ?_
    refine va_get (ci := 10) (v := .ref (a 4)) (C := RX10) (T := TX10) (N := 13) hx hb htA in_X10 hown hK hP 0 rfl rfl 6 (by decide) (htA _ wd_314) (fun _ h => h) rfl dX10_count_133 ?_
    refine va_get (ci := 2) (v := .int 0) (C := RX2) (T := TX2) (N := 3) hx hb htA in_X2 hown hK hP 1 rfl rfl 2 (by decide) (htA _ wd_251) (fun _ h => h) rfl dX10_count_136 ?_
    exact rI hX hE hP hD hS dX10_count_139 (by decide) (by decide) ((by first | rfl | decide | (unfold vi_count; (repeat' split) <;> first | rfl | decide | (exfalso; omega))))
  · refine lv_tableIn (tgt := 140) hx hb dX10_count_9 (by decide) (by decide) rfl (by decide) ?_
    refine lv_aload_n hx hb dX10_count_140 rfl (lv_at hl 1 rfl) ?_
    refine va_get (ci := 10) (v := .int 0) (C := RX10) (T := TX10) (N := 13) hx hb htA in_X10 hown hK hP 0 rfl rfl 1 (by decide) (htA _ wd_309) (fun _ h => h) rfl dX10_count_141 ?_
    exact rI hX hE hP hD hS dX10_count_144 (by decide) (by decide) ((by first | rfl | decide | (unfold vi_count; (repeat' split) <;> first | rfl | decide | (exfalso; omega))))
  · refine lv_tableIn (tgt := 145) hx hb dX10_count_9 (by decide) (by decide) rfl (by decide) ?_
    refine lv_aload_n hx hb dX10_count_145 rfl (lv_at hl 1 rfl) ?_
    refine va_get (ci := 10) (v := .ref (a 3)) (C := RX10) (T := TX10) (N := 13) hx hb htA in_X10 hown hK hP 0 rfl rfl 5 (by decide) (htA _ wd_313) (fun _ h => h) rfl dX10_count_146 ?_
    refine kVi (As := []) (rest := []) (wr := [((a 0), .inr (10, [.ref (a 1), .int 0, .int 0, .int (-1), .ref (a 2), .ref (a 3), .ref (a 4), .ref (a 5), .ref (a 6), .ref (a 7), .ref (a 8), .ref (a 9), .int 0])), ((a 4), .inr (2, [.ref (a 70), .int 0, .int 0]))]) hX hE (au_X6_totalHurt_38 l D cy a) (cwVA 0 htA wd_522 wd_519 wd_6 wd_520 wd_521 (by decide +kernel) ⟨by decide, by decide⟩) hP hD hS [2, 3] [0, 1] rfl rfl (by decide) 0 rfl rfl rfl rfl hl.1 rfl (Nat.le_of_ble_eq_true rfl) dX10_count_149 (by decide) (fun r_ W1 H locs hw hP hD hS => ?_)
    refine W.widen (k := 0) (n := 0) (by decide) (by decide) ?_
    obtain ⟨rfl, rfl⟩ := hw
    have hP : va_P D vwCl [((a 0), .inr (10, [.ref (a 1), .int 0, .int 0, .int (-1), .ref (a 2), .ref (a 3), .ref (a 4), .ref (a 5), .ref (a 6), .ref (a 7), .ref (a 8), .ref (a 9), .int 0])), ((a 4), .inr (2, [.ref (a 70), .int 0, .int 0])), ((a 3), .inr (6, [.ref (a 10), .int 0, .ref (a 21), .ref (a 22), .ref (a 23), .ref (a 24), .ref (a 25), .int 0])), ((a 10), .inr (0, [.int 0, .int 1, .int 1, .int 0, .int 0, .ref (a 11), .ref (a 12), .ref (a 13), .null, .null]))] H := hP
    have hD : va_D A [((a 0), .inr (10, [.ref (a 1), .int 0, .int 0, .int (-1), .ref (a 2), .ref (a 3), .ref (a 4), .ref (a 5), .ref (a 6), .ref (a 7), .ref (a 8), .ref (a 9), .int 0])), ((a 4), .inr (2, [.ref (a 70), .int 0, .int 0])), ((a 3), .inr (6, [.ref (a 10), .int 0, .ref (a 21), .ref (a 22), .ref (a 23), .ref (a 24), .ref (a 25), .int 0])), ((a 10), .inr (0, [.int 0, .int 1, .int 1, .int 0, .int 0, .ref (a 11), .ref (a 12), .ref (a 13), .null, .null]))] := hD
    exact rI hX hE hP hD hS dX10_count_152 (by decide) (by decide) ((by first | rfl | decide | (unfold vi_count; (repeat' split) <;> first | rfl | decide | (exfalso; omega))))
  · refine lv_tableOut (tgt := 153) hx hb dX10_count_9 c1 (by decide) ?_
    refine lv_iconst (v := (-1)) hx hb dX10_count_153 (by decide) ?_
    exact rI hX hE hP hD hS dX10_count_154 (by decide) (by decide) ((by have kc1 := c1; (try simp only [lg_cmp_lt, lg_cmp_le, lg_cmp_ge, lg_cmp_gt, lg_cmp_eq, fa_lt, fa_le, fa_eq, fa_lt64, fa_le64, fa_eq64, Int32.toInt_toInt64, li_0, lj_0, li_11, lj_11] at kc1); first | rfl | decide | (unfold vi_count; (repeat' split) <;> first | rfl | decide | (exfalso; omega))))
def kf_tray (p1 : Int32) (p2 : Int32) (p3 : Int32) : Int32 := if 0 ≤ p1.toInt ∧ p1.toInt ≤ 3 then (if 0 ≤ p2.toInt ∧ p2.toInt ≤ 3 ∧ 0 ≤ p3.toInt ∧ p3.toInt ≤ 30 then 0 else 2) else 1
def vf_tray (p1 : Int32) (p2 : Int32) (p3 : Int32) : Int64 := 0
set_option maxHeartbeats 4000000 in
set_option maxRecDepth 100000 in
theorem au_X8_lay_39 (l : Launch) (D : va_G) (cy : Nat → ClassId) (a : Nat → Nat) (v1_ : Int32) (v2_ : Int32) : Cv l yX8_lay cX8_lay 4 none { frames := 0, cells := 0, slots := 0, locals := 0 } D cy [.ref (a 60), .int v1_, .int v2_] [((a 60), .inr (8, [.int (-1), .int 0, .ref (a 64)])), ((a 64), .inl (cy 2, 30, .inr (.inl (fun _ => 0))))] (fun W1 => (W1 = [((a 60), .inr (8, [.int v1_, .int v2_, .ref (a 64)])), ((a 64), .inl (cy 2, 30, .inr (.inl (fun _ => 0))))])) := by
  refine Cv.of (by decide) (Nat.le_of_ble_eq_true rfl) ?_
  intro p e s m below meth c A ls hX hE hP hD hl hin
  obtain ⟨hx, hb, hr, hml, hown, htA, hlk⟩ := id hX
  have hK := hE.1
  have hS : va_S A s.heap s.heap [] := va_S.rf
  have hl : lv_has ls 4 [(0, .ref (a 60)), (1, .int v1_), (2, .int v2_)] := hl
  refine lv_aload_n hx hb dX8_lay_0 rfl (lv_at hl 0 rfl) ?_
  refine lv_iload_n hx hb dX8_lay_1 rfl (lv_at hl 1 rfl) ?_
  refine va_put (ci := 8) (v := .int v1_) (ty := .int) (C := RX8) (T := TX8) (N := 3) hx hb htA in_X8 tyX8 tyX8_ok nmX8 hown hK hP hD hS 0 rfl rfl 0 (by decide) (htA _ wd_295) (fun _ h => h) rfl (by decide +kernel) rfl rfl (Nat.le_of_ble_eq_true rfl) dX8_lay_2 (fun H locs hP hD hS => ?_)
  have hP : va_P D vwCl [((a 60), .inr (8, [.int v1_, .int 0, .ref (a 64)])), ((a 64), .inl (cy 2, 30, .inr (.inl (fun _ => 0))))] H := hP
  have hD : va_D A [((a 60), .inr (8, [.int v1_, .int 0, .ref (a 64)])), ((a 64), .inl (cy 2, 30, .inr (.inl (fun _ => 0))))] := hD
  refine lv_aload_n hx hb dX8_lay_5 rfl (lv_at hl 0 rfl) ?_
  refine lv_iload_n hx hb dX8_lay_6 rfl (lv_at hl 2 rfl) ?_
  refine va_put (ci := 8) (v := .int v2_) (ty := .int) (C := RX8) (T := TX8) (N := 3) hx hb htA in_X8 tyX8 tyX8_ok nmX8 hown hK hP hD hS 0 rfl rfl 1 (by decide) (htA _ wd_297) (fun _ h => h) rfl (by decide +kernel) rfl rfl (Nat.le_of_ble_eq_true rfl) dX8_lay_7 (fun H locs hP hD hS => ?_)
  have hP : va_P D vwCl [((a 60), .inr (8, [.int v1_, .int v2_, .ref (a 64)])), ((a 64), .inl (cy 2, 30, .inr (.inl (fun _ => 0))))] H := hP
  have hD : va_D A [((a 60), .inr (8, [.int v1_, .int v2_, .ref (a 64)])), ((a 64), .inl (cy 2, 30, .inr (.inl (fun _ => 0))))] := hD
  refine lv_iconst (v := 0) hx hb dX8_lay_10 (by decide) ?_
  refine lv_istore_n (lv' := [(3, .int 0), (0, .ref (a 60)), (1, .int v1_), (2, .int v2_)]) hx hb dX8_lay_11 rfl hl (by decide) rfl (fun ls hl => ?_)
  refine lv_iload_n hx hb dX8_lay_12 rfl (lv_at hl 0 rfl) ?_
  refine lv_bipush (v := 30) hx hb dX8_lay_13 (by decide) ?_
  refine lv_icmp_ge (tgt := 31) hx hb dX8_lay_15 (by decide) (fun q => absurd q (by decide)) (fun _ => ?_)
  refine lv_aload_n hx hb dX8_lay_18 rfl (lv_at hl 1 rfl) ?_
  refine va_get (ci := 8) (v := .ref (a 64)) (C := RX8) (T := TX8) (N := 3) hx hb htA in_X8 hown hK hP 0 rfl rfl 2 (by decide) (htA _ wd_299) (fun _ h => h) rfl dX8_lay_19 ?_
  refine lv_iload_n hx hb dX8_lay_22 rfl (lv_at hl 0 rfl) ?_
  refine lv_lconst (v := 0) hx hb dX8_lay_23 (by decide) ?_
  refine va_last hx hb hK hP hD hS 1 2 rfl rfl (in_lit (by decide)) dX8_lay_24 (fun H locs hP hD hS => ?_)
  rw [fa_upd_sameL (f := fun _ => 0) (i := (0 : Int32).toNatClampNeg) (x := 0) (by first | decide | rfl)] at hP hD
  have hP : va_P D vwCl [((a 60), .inr (8, [.int v1_, .int v2_, .ref (a 64)])), ((a 64), .inl (cy 2, 30, .inr (.inl (fun _ => 0))))] H := hP
  have hD : va_D A [((a 60), .inr (8, [.int v1_, .int v2_, .ref (a 64)])), ((a 64), .inl (cy 2, 30, .inr (.inl (fun _ => 0))))] := hD
  refine lv_iinc (v := 1) (lv' := [(3, .int 1), (0, .ref (a 60)), (1, .int v1_), (2, .int v2_)]) hx hb dX8_lay_25 hl (k := 0) rfl (by decide) (by decide) rfl (fun ls hl => ?_)
  refine lv_goto (tgt := 12) hx hb dX8_lay_28 (by decide) ?_
  refine lv_iload_n hx hb dX8_lay_12 rfl (lv_at hl 0 rfl) ?_
  refine lv_bipush (v := 30) hx hb dX8_lay_13 (by decide) ?_
  refine lv_icmp_ge (tgt := 31) hx hb dX8_lay_15 (by decide) (fun q => absurd q (by decide)) (fun _ => ?_)
  refine lv_aload_n hx hb dX8_lay_18 rfl (lv_at hl 1 rfl) ?_
  refine va_get (ci := 8) (v := .ref (a 64)) (C := RX8) (T := TX8) (N := 3) hx hb htA in_X8 hown hK hP 0 rfl rfl 2 (by decide) (htA _ wd_299) (fun _ h => h) rfl dX8_lay_19 ?_
  refine lv_iload_n hx hb dX8_lay_22 rfl (lv_at hl 0 rfl) ?_
  refine lv_lconst (v := 0) hx hb dX8_lay_23 (by decide) ?_
  refine va_last hx hb hK hP hD hS 1 2 rfl rfl (in_lit (by decide)) dX8_lay_24 (fun H locs hP hD hS => ?_)
  rw [fa_upd_sameL (f := fun _ => 0) (i := (1 : Int32).toNatClampNeg) (x := 0) (by first | decide | rfl)] at hP hD
  have hP : va_P D vwCl [((a 60), .inr (8, [.int v1_, .int v2_, .ref (a 64)])), ((a 64), .inl (cy 2, 30, .inr (.inl (fun _ => 0))))] H := hP
  have hD : va_D A [((a 60), .inr (8, [.int v1_, .int v2_, .ref (a 64)])), ((a 64), .inl (cy 2, 30, .inr (.inl (fun _ => 0))))] := hD
  refine lv_iinc (v := 2) (lv' := [(3, .int 2), (0, .ref (a 60)), (1, .int v1_), (2, .int v2_)]) hx hb dX8_lay_25 hl (k := 0) rfl (by decide) (by decide) rfl (fun ls hl => ?_)
  refine lv_goto (tgt := 12) hx hb dX8_lay_28 (by decide) ?_
  refine lv_iload_n hx hb dX8_lay_12 rfl (lv_at hl 0 rfl) ?_
  refine lv_bipush (v := 30) hx hb dX8_lay_13 (by decide) ?_
  refine lv_icmp_ge (tgt := 31) hx hb dX8_lay_15 (by decide) (fun q => absurd q (by decide)) (fun _ => ?_)
  refine lv_aload_n hx hb dX8_lay_18 rfl (lv_at hl 1 rfl) ?_
  refine va_get (ci := 8) (v := .ref (a 64)) (C := RX8) (T := TX8) (N := 3) hx hb htA in_X8 hown hK hP 0 rfl rfl 2 (by decide) (htA _ wd_299) (fun _ h => h) rfl dX8_lay_19 ?_
  refine lv_iload_n hx hb dX8_lay_22 rfl (lv_at hl 0 rfl) ?_
  refine lv_lconst (v := 0) hx hb dX8_lay_23 (by decide) ?_
  refine va_last hx hb hK hP hD hS 1 2 rfl rfl (in_lit (by decide)) dX8_lay_24 (fun H locs hP hD hS => ?_)
  rw [fa_upd_sameL (f := fun _ => 0) (i := (2 : Int32).toNatClampNeg) (x := 0) (by first | decide | rfl)] at hP hD
  have hP : va_P D vwCl [((a 60), .inr (8, [.int v1_, .int v2_, .ref (a 64)])), ((a 64), .inl (cy 2, 30, .inr (.inl (fun _ => 0))))] H := hP
  have hD : va_D A [((a 60), .inr (8, [.int v1_, .int v2_, .ref (a 64)])), ((a 64), .inl (cy 2, 30, .inr (.inl (fun _ => 0))))] := hD
  refine lv_iinc (v := 3) (lv' := [(3, .int 3), (0, .ref (a 60)), (1, .int v1_), (2, .int v2_)]) hx hb dX8_lay_25 hl (k := 0) rfl (by decide) (by decide) rfl (fun ls hl => ?_)
  refine lv_goto (tgt := 12) hx hb dX8_lay_28 (by decide) ?_
  refine lv_iload_n hx hb dX8_lay_12 rfl (lv_at hl 0 rfl) ?_
  refine lv_bipush (v := 30) hx hb dX8_lay_13 (by decide) ?_
  refine lv_icmp_ge (tgt := 31) hx hb dX8_lay_15 (by decide) (fun q => absurd q (by decide)) (fun _ => ?_)
  refine lv_aload_n hx hb dX8_lay_18 rfl (lv_at hl 1 rfl) ?_
  refine va_get (ci := 8) (v := .ref (a 64)) (C := RX8) (T := TX8) (N := 3) hx hb htA in_X8 hown hK hP 0 rfl rfl 2 (by decide) (htA _ wd_299) (fun _ h => h) rfl dX8_lay_19 ?_
  refine lv_iload_n hx hb dX8_lay_22 rfl (lv_at hl 0 rfl) ?_
  refine lv_lconst (v := 0) hx hb dX8_lay_23 (by decide) ?_
  refine va_last hx hb hK hP hD hS 1 2 rfl rfl (in_lit (by decide)) dX8_lay_24 (fun H locs hP hD hS => ?_)
  rw [fa_upd_sameL (f := fun _ => 0) (i := (3 : Int32).toNatClampNeg) (x := 0) (by first | decide | rfl)] at hP hD
  have hP : va_P D vwCl [((a 60), .inr (8, [.int v1_, .int v2_, .ref (a 64)])), ((a 64), .inl (cy 2, 30, .inr (.inl (fun _ => 0))))] H := hP
  have hD : va_D A [((a 60), .inr (8, [.int v1_, .int v2_, .ref (a 64)])), ((a 64), .inl (cy 2, 30, .inr (.inl (fun _ => 0))))] := hD
  refine lv_iinc (v := 4) (lv' := [(3, .int 4), (0, .ref (a 60)), (1, .int v1_), (2, .int v2_)]) hx hb dX8_lay_25 hl (k := 0) rfl (by decide) (by decide) rfl (fun ls hl => ?_)
  refine lv_goto (tgt := 12) hx hb dX8_lay_28 (by decide) ?_
  refine lv_iload_n hx hb dX8_lay_12 rfl (lv_at hl 0 rfl) ?_
  refine lv_bipush (v := 30) hx hb dX8_lay_13 (by decide) ?_
  refine lv_icmp_ge (tgt := 31) hx hb dX8_lay_15 (by decide) (fun q => absurd q (by decide)) (fun _ => ?_)
  refine lv_aload_n hx hb dX8_lay_18 rfl (lv_at hl 1 rfl) ?_
  refine va_get (ci := 8) (v := .ref (a 64)) (C := RX8) (T := TX8) (N := 3) hx hb htA in_X8 hown hK hP 0 rfl rfl 2 (by decide) (htA _ wd_299) (fun _ h => h) rfl dX8_lay_19 ?_
  refine lv_iload_n hx hb dX8_lay_22 rfl (lv_at hl 0 rfl) ?_
  refine lv_lconst (v := 0) hx hb dX8_lay_23 (by decide) ?_
  refine va_last hx hb hK hP hD hS 1 2 rfl rfl (in_lit (by decide)) dX8_lay_24 (fun H locs hP hD hS => ?_)
  rw [fa_upd_sameL (f := fun _ => 0) (i := (4 : Int32).toNatClampNeg) (x := 0) (by first | decide | rfl)] at hP hD
  have hP : va_P D vwCl [((a 60), .inr (8, [.int v1_, .int v2_, .ref (a 64)])), ((a 64), .inl (cy 2, 30, .inr (.inl (fun _ => 0))))] H := hP
  have hD : va_D A [((a 60), .inr (8, [.int v1_, .int v2_, .ref (a 64)])), ((a 64), .inl (cy 2, 30, .inr (.inl (fun _ => 0))))] := hD
  refine lv_iinc (v := 5) (lv' := [(3, .int 5), (0, .ref (a 60)), (1, .int v1_), (2, .int v2_)]) hx hb dX8_lay_25 hl (k := 0) rfl (by decide) (by decide) rfl (fun ls hl => ?_)
  refine lv_goto (tgt := 12) hx hb dX8_lay_28 (by decide) ?_
  refine lv_iload_n hx hb dX8_lay_12 rfl (lv_at hl 0 rfl) ?_
  refine lv_bipush (v := 30) hx hb dX8_lay_13 (by decide) ?_
  refine lv_icmp_ge (tgt := 31) hx hb dX8_lay_15 (by decide) (fun q => absurd q (by decide)) (fun _ => ?_)
  refine lv_aload_n hx hb dX8_lay_18 rfl (lv_at hl 1 rfl) ?_
  refine va_get (ci := 8) (v := .ref (a 64)) (C := RX8) (T := TX8) (N := 3) hx hb htA in_X8 hown hK hP 0 rfl rfl 2 (by decide) (htA _ wd_299) (fun _ h => h) rfl dX8_lay_19 ?_
  refine lv_iload_n hx hb dX8_lay_22 rfl (lv_at hl 0 rfl) ?_
  refine lv_lconst (v := 0) hx hb dX8_lay_23 (by decide) ?_
  refine va_last hx hb hK hP hD hS 1 2 rfl rfl (in_lit (by decide)) dX8_lay_24 (fun H locs hP hD hS => ?_)
  rw [fa_upd_sameL (f := fun _ => 0) (i := (5 : Int32).toNatClampNeg) (x := 0) (by first | decide | rfl)] at hP hD
  have hP : va_P D vwCl [((a 60), .inr (8, [.int v1_, .int v2_, .ref (a 64)])), ((a 64), .inl (cy 2, 30, .inr (.inl (fun _ => 0))))] H := hP
  have hD : va_D A [((a 60), .inr (8, [.int v1_, .int v2_, .ref (a 64)])), ((a 64), .inl (cy 2, 30, .inr (.inl (fun _ => 0))))] := hD
  refine lv_iinc (v := 6) (lv' := [(3, .int 6), (0, .ref (a 60)), (1, .int v1_), (2, .int v2_)]) hx hb dX8_lay_25 hl (k := 0) rfl (by decide) (by decide) rfl (fun ls hl => ?_)
  refine lv_goto (tgt := 12) hx hb dX8_lay_28 (by decide) ?_
  refine lv_iload_n hx hb dX8_lay_12 rfl (lv_at hl 0 rfl) ?_
  refine lv_bipush (v := 30) hx hb dX8_lay_13 (by decide) ?_
  refine lv_icmp_ge (tgt := 31) hx hb dX8_lay_15 (by decide) (fun q => absurd q (by decide)) (fun _ => ?_)
  refine lv_aload_n hx hb dX8_lay_18 rfl (lv_at hl 1 rfl) ?_
  refine va_get (ci := 8) (v := .ref (a 64)) (C := RX8) (T := TX8) (N := 3) hx hb htA in_X8 hown hK hP 0 rfl rfl 2 (by decide) (htA _ wd_299) (fun _ h => h) rfl dX8_lay_19 ?_
  refine lv_iload_n hx hb dX8_lay_22 rfl (lv_at hl 0 rfl) ?_
  refine lv_lconst (v := 0) hx hb dX8_lay_23 (by decide) ?_
  refine va_last hx hb hK hP hD hS 1 2 rfl rfl (in_lit (by decide)) dX8_lay_24 (fun H locs hP hD hS => ?_)
  rw [fa_upd_sameL (f := fun _ => 0) (i := (6 : Int32).toNatClampNeg) (x := 0) (by first | decide | rfl)] at hP hD
  have hP : va_P D vwCl [((a 60), .inr (8, [.int v1_, .int v2_, .ref (a 64)])), ((a 64), .inl (cy 2, 30, .inr (.inl (fun _ => 0))))] H := hP
  have hD : va_D A [((a 60), .inr (8, [.int v1_, .int v2_, .ref (a 64)])), ((a 64), .inl (cy 2, 30, .inr (.inl (fun _ => 0))))] := hD
  refine lv_iinc (v := 7) (lv' := [(3, .int 7), (0, .ref (a 60)), (1, .int v1_), (2, .int v2_)]) hx hb dX8_lay_25 hl (k := 0) rfl (by decide) (by decide) rfl (fun ls hl => ?_)
  refine lv_goto (tgt := 12) hx hb dX8_lay_28 (by decide) ?_
  refine lv_iload_n hx hb dX8_lay_12 rfl (lv_at hl 0 rfl) ?_
  refine lv_bipush (v := 30) hx hb dX8_lay_13 (by decide) ?_
  refine lv_icmp_ge (tgt := 31) hx hb dX8_lay_15 (by decide) (fun q => absurd q (by decide)) (fun _ => ?_)
  refine lv_aload_n hx hb dX8_lay_18 rfl (lv_at hl 1 rfl) ?_
  refine va_get (ci := 8) (v := .ref (a 64)) (C := RX8) (T := TX8) (N := 3) hx hb htA in_X8 hown hK hP 0 rfl rfl 2 (by decide) (htA _ wd_299) (fun _ h => h) rfl dX8_lay_19 ?_
  refine lv_iload_n hx hb dX8_lay_22 rfl (lv_at hl 0 rfl) ?_
  refine lv_lconst (v := 0) hx hb dX8_lay_23 (by decide) ?_
  refine va_last hx hb hK hP hD hS 1 2 rfl rfl (in_lit (by decide)) dX8_lay_24 (fun H locs hP hD hS => ?_)
  rw [fa_upd_sameL (f := fun _ => 0) (i := (7 : Int32).toNatClampNeg) (x := 0) (by first | decide | rfl)] at hP hD
  have hP : va_P D vwCl [((a 60), .inr (8, [.int v1_, .int v2_, .ref (a 64)])), ((a 64), .inl (cy 2, 30, .inr (.inl (fun _ => 0))))] H := hP
  have hD : va_D A [((a 60), .inr (8, [.int v1_, .int v2_, .ref (a 64)])), ((a 64), .inl (cy 2, 30, .inr (.inl (fun _ => 0))))] := hD
  refine lv_iinc (v := 8) (lv' := [(3, .int 8), (0, .ref (a 60)), (1, .int v1_), (2, .int v2_)]) hx hb dX8_lay_25 hl (k := 0) rfl (by decide) (by decide) rfl (fun ls hl => ?_)
  refine lv_goto (tgt := 12) hx hb dX8_lay_28 (by decide) ?_
  refine lv_iload_n hx hb dX8_lay_12 rfl (lv_at hl 0 rfl) ?_
  refine lv_bipush (v := 30) hx hb dX8_lay_13 (by decide) ?_
  refine lv_icmp_ge (tgt := 31) hx hb dX8_lay_15 (by decide) (fun q => absurd q (by decide)) (fun _ => ?_)
  refine lv_aload_n hx hb dX8_lay_18 rfl (lv_at hl 1 rfl) ?_
  refine va_get (ci := 8) (v := .ref (a 64)) (C := RX8) (T := TX8) (N := 3) hx hb htA in_X8 hown hK hP 0 rfl rfl 2 (by decide) (htA _ wd_299) (fun _ h => h) rfl dX8_lay_19 ?_
  refine lv_iload_n hx hb dX8_lay_22 rfl (lv_at hl 0 rfl) ?_
  refine lv_lconst (v := 0) hx hb dX8_lay_23 (by decide) ?_
  refine va_last hx hb hK hP hD hS 1 2 rfl rfl (in_lit (by decide)) dX8_lay_24 (fun H locs hP hD hS => ?_)
  rw [fa_upd_sameL (f := fun _ => 0) (i := (8 : Int32).toNatClampNeg) (x := 0) (by first | decide | rfl)] at hP hD
  have hP : va_P D vwCl [((a 60), .inr (8, [.int v1_, .int v2_, .ref (a 64)])), ((a 64), .inl (cy 2, 30, .inr (.inl (fun _ => 0))))] H := hP
  have hD : va_D A [((a 60), .inr (8, [.int v1_, .int v2_, .ref (a 64)])), ((a 64), .inl (cy 2, 30, .inr (.inl (fun _ => 0))))] := hD
  refine lv_iinc (v := 9) (lv' := [(3, .int 9), (0, .ref (a 60)), (1, .int v1_), (2, .int v2_)]) hx hb dX8_lay_25 hl (k := 0) rfl (by decide) (by decide) rfl (fun ls hl => ?_)
  refine lv_goto (tgt := 12) hx hb dX8_lay_28 (by decide) ?_
  refine lv_iload_n hx hb dX8_lay_12 rfl (lv_at hl 0 rfl) ?_
  refine lv_bipush (v := 30) hx hb dX8_lay_13 (by decide) ?_
  refine lv_icmp_ge (tgt := 31) hx hb dX8_lay_15 (by decide) (fun q => absurd q (by decide)) (fun _ => ?_)
  refine lv_aload_n hx hb dX8_lay_18 rfl (lv_at hl 1 rfl) ?_
  refine va_get (ci := 8) (v := .ref (a 64)) (C := RX8) (T := TX8) (N := 3) hx hb htA in_X8 hown hK hP 0 rfl rfl 2 (by decide) (htA _ wd_299) (fun _ h => h) rfl dX8_lay_19 ?_
  refine lv_iload_n hx hb dX8_lay_22 rfl (lv_at hl 0 rfl) ?_
  refine lv_lconst (v := 0) hx hb dX8_lay_23 (by decide) ?_
  refine va_last hx hb hK hP hD hS 1 2 rfl rfl (in_lit (by decide)) dX8_lay_24 (fun H locs hP hD hS => ?_)
  rw [fa_upd_sameL (f := fun _ => 0) (i := (9 : Int32).toNatClampNeg) (x := 0) (by first | decide | rfl)] at hP hD
  have hP : va_P D vwCl [((a 60), .inr (8, [.int v1_, .int v2_, .ref (a 64)])), ((a 64), .inl (cy 2, 30, .inr (.inl (fun _ => 0))))] H := hP
  have hD : va_D A [((a 60), .inr (8, [.int v1_, .int v2_, .ref (a 64)])), ((a 64), .inl (cy 2, 30, .inr (.inl (fun _ => 0))))] := hD
  refine lv_iinc (v := 10) (lv' := [(3, .int 10), (0, .ref (a 60)), (1, .int v1_), (2, .int v2_)]) hx hb dX8_lay_25 hl (k := 0) rfl (by decide) (by decide) rfl (fun ls hl => ?_)
  refine lv_goto (tgt := 12) hx hb dX8_lay_28 (by decide) ?_
  refine lv_iload_n hx hb dX8_lay_12 rfl (lv_at hl 0 rfl) ?_
  refine lv_bipush (v := 30) hx hb dX8_lay_13 (by decide) ?_
  refine lv_icmp_ge (tgt := 31) hx hb dX8_lay_15 (by decide) (fun q => absurd q (by decide)) (fun _ => ?_)
  refine lv_aload_n hx hb dX8_lay_18 rfl (lv_at hl 1 rfl) ?_
  refine va_get (ci := 8) (v := .ref (a 64)) (C := RX8) (T := TX8) (N := 3) hx hb htA in_X8 hown hK hP 0 rfl rfl 2 (by decide) (htA _ wd_299) (fun _ h => h) rfl dX8_lay_19 ?_
  refine lv_iload_n hx hb dX8_lay_22 rfl (lv_at hl 0 rfl) ?_
  refine lv_lconst (v := 0) hx hb dX8_lay_23 (by decide) ?_
  refine va_last hx hb hK hP hD hS 1 2 rfl rfl (in_lit (by decide)) dX8_lay_24 (fun H locs hP hD hS => ?_)
  rw [fa_upd_sameL (f := fun _ => 0) (i := (10 : Int32).toNatClampNeg) (x := 0) (by first | decide | rfl)] at hP hD
  have hP : va_P D vwCl [((a 60), .inr (8, [.int v1_, .int v2_, .ref (a 64)])), ((a 64), .inl (cy 2, 30, .inr (.inl (fun _ => 0))))] H := hP
  have hD : va_D A [((a 60), .inr (8, [.int v1_, .int v2_, .ref (a 64)])), ((a 64), .inl (cy 2, 30, .inr (.inl (fun _ => 0))))] := hD
  refine lv_iinc (v := 11) (lv' := [(3, .int 11), (0, .ref (a 60)), (1, .int v1_), (2, .int v2_)]) hx hb dX8_lay_25 hl (k := 0) rfl (by decide) (by decide) rfl (fun ls hl => ?_)
  refine lv_goto (tgt := 12) hx hb dX8_lay_28 (by decide) ?_
  refine lv_iload_n hx hb dX8_lay_12 rfl (lv_at hl 0 rfl) ?_
  refine lv_bipush (v := 30) hx hb dX8_lay_13 (by decide) ?_
  refine lv_icmp_ge (tgt := 31) hx hb dX8_lay_15 (by decide) (fun q => absurd q (by decide)) (fun _ => ?_)
  refine lv_aload_n hx hb dX8_lay_18 rfl (lv_at hl 1 rfl) ?_
  refine va_get (ci := 8) (v := .ref (a 64)) (C := RX8) (T := TX8) (N := 3) hx hb htA in_X8 hown hK hP 0 rfl rfl 2 (by decide) (htA _ wd_299) (fun _ h => h) rfl dX8_lay_19 ?_
  refine lv_iload_n hx hb dX8_lay_22 rfl (lv_at hl 0 rfl) ?_
  refine lv_lconst (v := 0) hx hb dX8_lay_23 (by decide) ?_
  refine va_last hx hb hK hP hD hS 1 2 rfl rfl (in_lit (by decide)) dX8_lay_24 (fun H locs hP hD hS => ?_)
  rw [fa_upd_sameL (f := fun _ => 0) (i := (11 : Int32).toNatClampNeg) (x := 0) (by first | decide | rfl)] at hP hD
  have hP : va_P D vwCl [((a 60), .inr (8, [.int v1_, .int v2_, .ref (a 64)])), ((a 64), .inl (cy 2, 30, .inr (.inl (fun _ => 0))))] H := hP
  have hD : va_D A [((a 60), .inr (8, [.int v1_, .int v2_, .ref (a 64)])), ((a 64), .inl (cy 2, 30, .inr (.inl (fun _ => 0))))] := hD
  refine lv_iinc (v := 12) (lv' := [(3, .int 12), (0, .ref (a 60)), (1, .int v1_), (2, .int v2_)]) hx hb dX8_lay_25 hl (k := 0) rfl (by decide) (by decide) rfl (fun ls hl => ?_)
  refine lv_goto (tgt := 12) hx hb dX8_lay_28 (by decide) ?_
  refine lv_iload_n hx hb dX8_lay_12 rfl (lv_at hl 0 rfl) ?_
  refine lv_bipush (v := 30) hx hb dX8_lay_13 (by decide) ?_
  refine lv_icmp_ge (tgt := 31) hx hb dX8_lay_15 (by decide) (fun q => absurd q (by decide)) (fun _ => ?_)
  refine lv_aload_n hx hb dX8_lay_18 rfl (lv_at hl 1 rfl) ?_
  refine va_get (ci := 8) (v := .ref (a 64)) (C := RX8) (T := TX8) (N := 3) hx hb htA in_X8 hown hK hP 0 rfl rfl 2 (by decide) (htA _ wd_299) (fun _ h => h) rfl dX8_lay_19 ?_
  refine lv_iload_n hx hb dX8_lay_22 rfl (lv_at hl 0 rfl) ?_
  refine lv_lconst (v := 0) hx hb dX8_lay_23 (by decide) ?_
  refine va_last hx hb hK hP hD hS 1 2 rfl rfl (in_lit (by decide)) dX8_lay_24 (fun H locs hP hD hS => ?_)
  rw [fa_upd_sameL (f := fun _ => 0) (i := (12 : Int32).toNatClampNeg) (x := 0) (by first | decide | rfl)] at hP hD
  have hP : va_P D vwCl [((a 60), .inr (8, [.int v1_, .int v2_, .ref (a 64)])), ((a 64), .inl (cy 2, 30, .inr (.inl (fun _ => 0))))] H := hP
  have hD : va_D A [((a 60), .inr (8, [.int v1_, .int v2_, .ref (a 64)])), ((a 64), .inl (cy 2, 30, .inr (.inl (fun _ => 0))))] := hD
  refine lv_iinc (v := 13) (lv' := [(3, .int 13), (0, .ref (a 60)), (1, .int v1_), (2, .int v2_)]) hx hb dX8_lay_25 hl (k := 0) rfl (by decide) (by decide) rfl (fun ls hl => ?_)
  refine lv_goto (tgt := 12) hx hb dX8_lay_28 (by decide) ?_
  refine lv_iload_n hx hb dX8_lay_12 rfl (lv_at hl 0 rfl) ?_
  refine lv_bipush (v := 30) hx hb dX8_lay_13 (by decide) ?_
  refine lv_icmp_ge (tgt := 31) hx hb dX8_lay_15 (by decide) (fun q => absurd q (by decide)) (fun _ => ?_)
  refine lv_aload_n hx hb dX8_lay_18 rfl (lv_at hl 1 rfl) ?_
  refine va_get (ci := 8) (v := .ref (a 64)) (C := RX8) (T := TX8) (N := 3) hx hb htA in_X8 hown hK hP 0 rfl rfl 2 (by decide) (htA _ wd_299) (fun _ h => h) rfl dX8_lay_19 ?_
  refine lv_iload_n hx hb dX8_lay_22 rfl (lv_at hl 0 rfl) ?_
  refine lv_lconst (v := 0) hx hb dX8_lay_23 (by decide) ?_
  refine va_last hx hb hK hP hD hS 1 2 rfl rfl (in_lit (by decide)) dX8_lay_24 (fun H locs hP hD hS => ?_)
  rw [fa_upd_sameL (f := fun _ => 0) (i := (13 : Int32).toNatClampNeg) (x := 0) (by first | decide | rfl)] at hP hD
  have hP : va_P D vwCl [((a 60), .inr (8, [.int v1_, .int v2_, .ref (a 64)])), ((a 64), .inl (cy 2, 30, .inr (.inl (fun _ => 0))))] H := hP
  have hD : va_D A [((a 60), .inr (8, [.int v1_, .int v2_, .ref (a 64)])), ((a 64), .inl (cy 2, 30, .inr (.inl (fun _ => 0))))] := hD
  refine lv_iinc (v := 14) (lv' := [(3, .int 14), (0, .ref (a 60)), (1, .int v1_), (2, .int v2_)]) hx hb dX8_lay_25 hl (k := 0) rfl (by decide) (by decide) rfl (fun ls hl => ?_)
  refine lv_goto (tgt := 12) hx hb dX8_lay_28 (by decide) ?_
  refine lv_iload_n hx hb dX8_lay_12 rfl (lv_at hl 0 rfl) ?_
  refine lv_bipush (v := 30) hx hb dX8_lay_13 (by decide) ?_
  refine lv_icmp_ge (tgt := 31) hx hb dX8_lay_15 (by decide) (fun q => absurd q (by decide)) (fun _ => ?_)
  refine lv_aload_n hx hb dX8_lay_18 rfl (lv_at hl 1 rfl) ?_
  refine va_get (ci := 8) (v := .ref (a 64)) (C := RX8) (T := TX8) (N := 3) hx hb htA in_X8 hown hK hP 0 rfl rfl 2 (by decide) (htA _ wd_299) (fun _ h => h) rfl dX8_lay_19 ?_
  refine lv_iload_n hx hb dX8_lay_22 rfl (lv_at hl 0 rfl) ?_
  refine lv_lconst (v := 0) hx hb dX8_lay_23 (by decide) ?_
  refine va_last hx hb hK hP hD hS 1 2 rfl rfl (in_lit (by decide)) dX8_lay_24 (fun H locs hP hD hS => ?_)
  rw [fa_upd_sameL (f := fun _ => 0) (i := (14 : Int32).toNatClampNeg) (x := 0) (by first | decide | rfl)] at hP hD
  have hP : va_P D vwCl [((a 60), .inr (8, [.int v1_, .int v2_, .ref (a 64)])), ((a 64), .inl (cy 2, 30, .inr (.inl (fun _ => 0))))] H := hP
  have hD : va_D A [((a 60), .inr (8, [.int v1_, .int v2_, .ref (a 64)])), ((a 64), .inl (cy 2, 30, .inr (.inl (fun _ => 0))))] := hD
  refine lv_iinc (v := 15) (lv' := [(3, .int 15), (0, .ref (a 60)), (1, .int v1_), (2, .int v2_)]) hx hb dX8_lay_25 hl (k := 0) rfl (by decide) (by decide) rfl (fun ls hl => ?_)
  refine lv_goto (tgt := 12) hx hb dX8_lay_28 (by decide) ?_
  refine lv_iload_n hx hb dX8_lay_12 rfl (lv_at hl 0 rfl) ?_
  refine lv_bipush (v := 30) hx hb dX8_lay_13 (by decide) ?_
  refine lv_icmp_ge (tgt := 31) hx hb dX8_lay_15 (by decide) (fun q => absurd q (by decide)) (fun _ => ?_)
  refine lv_aload_n hx hb dX8_lay_18 rfl (lv_at hl 1 rfl) ?_
  refine va_get (ci := 8) (v := .ref (a 64)) (C := RX8) (T := TX8) (N := 3) hx hb htA in_X8 hown hK hP 0 rfl rfl 2 (by decide) (htA _ wd_299) (fun _ h => h) rfl dX8_lay_19 ?_
  refine lv_iload_n hx hb dX8_lay_22 rfl (lv_at hl 0 rfl) ?_
  refine lv_lconst (v := 0) hx hb dX8_lay_23 (by decide) ?_
  refine va_last hx hb hK hP hD hS 1 2 rfl rfl (in_lit (by decide)) dX8_lay_24 (fun H locs hP hD hS => ?_)
  rw [fa_upd_sameL (f := fun _ => 0) (i := (15 : Int32).toNatClampNeg) (x := 0) (by first | decide | rfl)] at hP hD
  have hP : va_P D vwCl [((a 60), .inr (8, [.int v1_, .int v2_, .ref (a 64)])), ((a 64), .inl (cy 2, 30, .inr (.inl (fun _ => 0))))] H := hP
  have hD : va_D A [((a 60), .inr (8, [.int v1_, .int v2_, .ref (a 64)])), ((a 64), .inl (cy 2, 30, .inr (.inl (fun _ => 0))))] := hD
  refine lv_iinc (v := 16) (lv' := [(3, .int 16), (0, .ref (a 60)), (1, .int v1_), (2, .int v2_)]) hx hb dX8_lay_25 hl (k := 0) rfl (by decide) (by decide) rfl (fun ls hl => ?_)
  refine lv_goto (tgt := 12) hx hb dX8_lay_28 (by decide) ?_
  refine lv_iload_n hx hb dX8_lay_12 rfl (lv_at hl 0 rfl) ?_
  refine lv_bipush (v := 30) hx hb dX8_lay_13 (by decide) ?_
  refine lv_icmp_ge (tgt := 31) hx hb dX8_lay_15 (by decide) (fun q => absurd q (by decide)) (fun _ => ?_)
  refine lv_aload_n hx hb dX8_lay_18 rfl (lv_at hl 1 rfl) ?_
  refine va_get (ci := 8) (v := .ref (a 64)) (C := RX8) (T := TX8) (N := 3) hx hb htA in_X8 hown hK hP 0 rfl rfl 2 (by decide) (htA _ wd_299) (fun _ h => h) rfl dX8_lay_19 ?_
  refine lv_iload_n hx hb dX8_lay_22 rfl (lv_at hl 0 rfl) ?_
  refine lv_lconst (v := 0) hx hb dX8_lay_23 (by decide) ?_
  refine va_last hx hb hK hP hD hS 1 2 rfl rfl (in_lit (by decide)) dX8_lay_24 (fun H locs hP hD hS => ?_)
  rw [fa_upd_sameL (f := fun _ => 0) (i := (16 : Int32).toNatClampNeg) (x := 0) (by first | decide | rfl)] at hP hD
  have hP : va_P D vwCl [((a 60), .inr (8, [.int v1_, .int v2_, .ref (a 64)])), ((a 64), .inl (cy 2, 30, .inr (.inl (fun _ => 0))))] H := hP
  have hD : va_D A [((a 60), .inr (8, [.int v1_, .int v2_, .ref (a 64)])), ((a 64), .inl (cy 2, 30, .inr (.inl (fun _ => 0))))] := hD
  refine lv_iinc (v := 17) (lv' := [(3, .int 17), (0, .ref (a 60)), (1, .int v1_), (2, .int v2_)]) hx hb dX8_lay_25 hl (k := 0) rfl (by decide) (by decide) rfl (fun ls hl => ?_)
  refine lv_goto (tgt := 12) hx hb dX8_lay_28 (by decide) ?_
  refine lv_iload_n hx hb dX8_lay_12 rfl (lv_at hl 0 rfl) ?_
  refine lv_bipush (v := 30) hx hb dX8_lay_13 (by decide) ?_
  refine lv_icmp_ge (tgt := 31) hx hb dX8_lay_15 (by decide) (fun q => absurd q (by decide)) (fun _ => ?_)
  refine lv_aload_n hx hb dX8_lay_18 rfl (lv_at hl 1 rfl) ?_
  refine va_get (ci := 8) (v := .ref (a 64)) (C := RX8) (T := TX8) (N := 3) hx hb htA in_X8 hown hK hP 0 rfl rfl 2 (by decide) (htA _ wd_299) (fun _ h => h) rfl dX8_lay_19 ?_
  refine lv_iload_n hx hb dX8_lay_22 rfl (lv_at hl 0 rfl) ?_
  refine lv_lconst (v := 0) hx hb dX8_lay_23 (by decide) ?_
  refine va_last hx hb hK hP hD hS 1 2 rfl rfl (in_lit (by decide)) dX8_lay_24 (fun H locs hP hD hS => ?_)
  rw [fa_upd_sameL (f := fun _ => 0) (i := (17 : Int32).toNatClampNeg) (x := 0) (by first | decide | rfl)] at hP hD
  have hP : va_P D vwCl [((a 60), .inr (8, [.int v1_, .int v2_, .ref (a 64)])), ((a 64), .inl (cy 2, 30, .inr (.inl (fun _ => 0))))] H := hP
  have hD : va_D A [((a 60), .inr (8, [.int v1_, .int v2_, .ref (a 64)])), ((a 64), .inl (cy 2, 30, .inr (.inl (fun _ => 0))))] := hD
  refine lv_iinc (v := 18) (lv' := [(3, .int 18), (0, .ref (a 60)), (1, .int v1_), (2, .int v2_)]) hx hb dX8_lay_25 hl (k := 0) rfl (by decide) (by decide) rfl (fun ls hl => ?_)
  refine lv_goto (tgt := 12) hx hb dX8_lay_28 (by decide) ?_
  refine lv_iload_n hx hb dX8_lay_12 rfl (lv_at hl 0 rfl) ?_
  refine lv_bipush (v := 30) hx hb dX8_lay_13 (by decide) ?_
  refine lv_icmp_ge (tgt := 31) hx hb dX8_lay_15 (by decide) (fun q => absurd q (by decide)) (fun _ => ?_)
  refine lv_aload_n hx hb dX8_lay_18 rfl (lv_at hl 1 rfl) ?_
  refine va_get (ci := 8) (v := .ref (a 64)) (C := RX8) (T := TX8) (N := 3) hx hb htA in_X8 hown hK hP 0 rfl rfl 2 (by decide) (htA _ wd_299) (fun _ h => h) rfl dX8_lay_19 ?_
  refine lv_iload_n hx hb dX8_lay_22 rfl (lv_at hl 0 rfl) ?_
  refine lv_lconst (v := 0) hx hb dX8_lay_23 (by decide) ?_
  refine va_last hx hb hK hP hD hS 1 2 rfl rfl (in_lit (by decide)) dX8_lay_24 (fun H locs hP hD hS => ?_)
  rw [fa_upd_sameL (f := fun _ => 0) (i := (18 : Int32).toNatClampNeg) (x := 0) (by first | decide | rfl)] at hP hD
  have hP : va_P D vwCl [((a 60), .inr (8, [.int v1_, .int v2_, .ref (a 64)])), ((a 64), .inl (cy 2, 30, .inr (.inl (fun _ => 0))))] H := hP
  have hD : va_D A [((a 60), .inr (8, [.int v1_, .int v2_, .ref (a 64)])), ((a 64), .inl (cy 2, 30, .inr (.inl (fun _ => 0))))] := hD
  refine lv_iinc (v := 19) (lv' := [(3, .int 19), (0, .ref (a 60)), (1, .int v1_), (2, .int v2_)]) hx hb dX8_lay_25 hl (k := 0) rfl (by decide) (by decide) rfl (fun ls hl => ?_)
  refine lv_goto (tgt := 12) hx hb dX8_lay_28 (by decide) ?_
  refine lv_iload_n hx hb dX8_lay_12 rfl (lv_at hl 0 rfl) ?_
  refine lv_bipush (v := 30) hx hb dX8_lay_13 (by decide) ?_
  refine lv_icmp_ge (tgt := 31) hx hb dX8_lay_15 (by decide) (fun q => absurd q (by decide)) (fun _ => ?_)
  refine lv_aload_n hx hb dX8_lay_18 rfl (lv_at hl 1 rfl) ?_
  refine va_get (ci := 8) (v := .ref (a 64)) (C := RX8) (T := TX8) (N := 3) hx hb htA in_X8 hown hK hP 0 rfl rfl 2 (by decide) (htA _ wd_299) (fun _ h => h) rfl dX8_lay_19 ?_
  refine lv_iload_n hx hb dX8_lay_22 rfl (lv_at hl 0 rfl) ?_
  refine lv_lconst (v := 0) hx hb dX8_lay_23 (by decide) ?_
  refine va_last hx hb hK hP hD hS 1 2 rfl rfl (in_lit (by decide)) dX8_lay_24 (fun H locs hP hD hS => ?_)
  rw [fa_upd_sameL (f := fun _ => 0) (i := (19 : Int32).toNatClampNeg) (x := 0) (by first | decide | rfl)] at hP hD
  have hP : va_P D vwCl [((a 60), .inr (8, [.int v1_, .int v2_, .ref (a 64)])), ((a 64), .inl (cy 2, 30, .inr (.inl (fun _ => 0))))] H := hP
  have hD : va_D A [((a 60), .inr (8, [.int v1_, .int v2_, .ref (a 64)])), ((a 64), .inl (cy 2, 30, .inr (.inl (fun _ => 0))))] := hD
  refine lv_iinc (v := 20) (lv' := [(3, .int 20), (0, .ref (a 60)), (1, .int v1_), (2, .int v2_)]) hx hb dX8_lay_25 hl (k := 0) rfl (by decide) (by decide) rfl (fun ls hl => ?_)
  refine lv_goto (tgt := 12) hx hb dX8_lay_28 (by decide) ?_
  refine lv_iload_n hx hb dX8_lay_12 rfl (lv_at hl 0 rfl) ?_
  refine lv_bipush (v := 30) hx hb dX8_lay_13 (by decide) ?_
  refine lv_icmp_ge (tgt := 31) hx hb dX8_lay_15 (by decide) (fun q => absurd q (by decide)) (fun _ => ?_)
  refine lv_aload_n hx hb dX8_lay_18 rfl (lv_at hl 1 rfl) ?_
  refine va_get (ci := 8) (v := .ref (a 64)) (C := RX8) (T := TX8) (N := 3) hx hb htA in_X8 hown hK hP 0 rfl rfl 2 (by decide) (htA _ wd_299) (fun _ h => h) rfl dX8_lay_19 ?_
  refine lv_iload_n hx hb dX8_lay_22 rfl (lv_at hl 0 rfl) ?_
  refine lv_lconst (v := 0) hx hb dX8_lay_23 (by decide) ?_
  refine va_last hx hb hK hP hD hS 1 2 rfl rfl (in_lit (by decide)) dX8_lay_24 (fun H locs hP hD hS => ?_)
  rw [fa_upd_sameL (f := fun _ => 0) (i := (20 : Int32).toNatClampNeg) (x := 0) (by first | decide | rfl)] at hP hD
  have hP : va_P D vwCl [((a 60), .inr (8, [.int v1_, .int v2_, .ref (a 64)])), ((a 64), .inl (cy 2, 30, .inr (.inl (fun _ => 0))))] H := hP
  have hD : va_D A [((a 60), .inr (8, [.int v1_, .int v2_, .ref (a 64)])), ((a 64), .inl (cy 2, 30, .inr (.inl (fun _ => 0))))] := hD
  refine lv_iinc (v := 21) (lv' := [(3, .int 21), (0, .ref (a 60)), (1, .int v1_), (2, .int v2_)]) hx hb dX8_lay_25 hl (k := 0) rfl (by decide) (by decide) rfl (fun ls hl => ?_)
  refine lv_goto (tgt := 12) hx hb dX8_lay_28 (by decide) ?_
  refine lv_iload_n hx hb dX8_lay_12 rfl (lv_at hl 0 rfl) ?_
  refine lv_bipush (v := 30) hx hb dX8_lay_13 (by decide) ?_
  refine lv_icmp_ge (tgt := 31) hx hb dX8_lay_15 (by decide) (fun q => absurd q (by decide)) (fun _ => ?_)
  refine lv_aload_n hx hb dX8_lay_18 rfl (lv_at hl 1 rfl) ?_
  refine va_get (ci := 8) (v := .ref (a 64)) (C := RX8) (T := TX8) (N := 3) hx hb htA in_X8 hown hK hP 0 rfl rfl 2 (by decide) (htA _ wd_299) (fun _ h => h) rfl dX8_lay_19 ?_
  refine lv_iload_n hx hb dX8_lay_22 rfl (lv_at hl 0 rfl) ?_
  refine lv_lconst (v := 0) hx hb dX8_lay_23 (by decide) ?_
  refine va_last hx hb hK hP hD hS 1 2 rfl rfl (in_lit (by decide)) dX8_lay_24 (fun H locs hP hD hS => ?_)
  rw [fa_upd_sameL (f := fun _ => 0) (i := (21 : Int32).toNatClampNeg) (x := 0) (by first | decide | rfl)] at hP hD
  have hP : va_P D vwCl [((a 60), .inr (8, [.int v1_, .int v2_, .ref (a 64)])), ((a 64), .inl (cy 2, 30, .inr (.inl (fun _ => 0))))] H := hP
  have hD : va_D A [((a 60), .inr (8, [.int v1_, .int v2_, .ref (a 64)])), ((a 64), .inl (cy 2, 30, .inr (.inl (fun _ => 0))))] := hD
  refine lv_iinc (v := 22) (lv' := [(3, .int 22), (0, .ref (a 60)), (1, .int v1_), (2, .int v2_)]) hx hb dX8_lay_25 hl (k := 0) rfl (by decide) (by decide) rfl (fun ls hl => ?_)
  refine lv_goto (tgt := 12) hx hb dX8_lay_28 (by decide) ?_
  refine lv_iload_n hx hb dX8_lay_12 rfl (lv_at hl 0 rfl) ?_
  refine lv_bipush (v := 30) hx hb dX8_lay_13 (by decide) ?_
  refine lv_icmp_ge (tgt := 31) hx hb dX8_lay_15 (by decide) (fun q => absurd q (by decide)) (fun _ => ?_)
  refine lv_aload_n hx hb dX8_lay_18 rfl (lv_at hl 1 rfl) ?_
  refine va_get (ci := 8) (v := .ref (a 64)) (C := RX8) (T := TX8) (N := 3) hx hb htA in_X8 hown hK hP 0 rfl rfl 2 (by decide) (htA _ wd_299) (fun _ h => h) rfl dX8_lay_19 ?_
  refine lv_iload_n hx hb dX8_lay_22 rfl (lv_at hl 0 rfl) ?_
  refine lv_lconst (v := 0) hx hb dX8_lay_23 (by decide) ?_
  refine va_last hx hb hK hP hD hS 1 2 rfl rfl (in_lit (by decide)) dX8_lay_24 (fun H locs hP hD hS => ?_)
  rw [fa_upd_sameL (f := fun _ => 0) (i := (22 : Int32).toNatClampNeg) (x := 0) (by first | decide | rfl)] at hP hD
  have hP : va_P D vwCl [((a 60), .inr (8, [.int v1_, .int v2_, .ref (a 64)])), ((a 64), .inl (cy 2, 30, .inr (.inl (fun _ => 0))))] H := hP
  have hD : va_D A [((a 60), .inr (8, [.int v1_, .int v2_, .ref (a 64)])), ((a 64), .inl (cy 2, 30, .inr (.inl (fun _ => 0))))] := hD
  refine lv_iinc (v := 23) (lv' := [(3, .int 23), (0, .ref (a 60)), (1, .int v1_), (2, .int v2_)]) hx hb dX8_lay_25 hl (k := 0) rfl (by decide) (by decide) rfl (fun ls hl => ?_)
  refine lv_goto (tgt := 12) hx hb dX8_lay_28 (by decide) ?_
  refine lv_iload_n hx hb dX8_lay_12 rfl (lv_at hl 0 rfl) ?_
  refine lv_bipush (v := 30) hx hb dX8_lay_13 (by decide) ?_
  refine lv_icmp_ge (tgt := 31) hx hb dX8_lay_15 (by decide) (fun q => absurd q (by decide)) (fun _ => ?_)
  refine lv_aload_n hx hb dX8_lay_18 rfl (lv_at hl 1 rfl) ?_
  refine va_get (ci := 8) (v := .ref (a 64)) (C := RX8) (T := TX8) (N := 3) hx hb htA in_X8 hown hK hP 0 rfl rfl 2 (by decide) (htA _ wd_299) (fun _ h => h) rfl dX8_lay_19 ?_
  refine lv_iload_n hx hb dX8_lay_22 rfl (lv_at hl 0 rfl) ?_
  refine lv_lconst (v := 0) hx hb dX8_lay_23 (by decide) ?_
  refine va_last hx hb hK hP hD hS 1 2 rfl rfl (in_lit (by decide)) dX8_lay_24 (fun H locs hP hD hS => ?_)
  rw [fa_upd_sameL (f := fun _ => 0) (i := (23 : Int32).toNatClampNeg) (x := 0) (by first | decide | rfl)] at hP hD
  have hP : va_P D vwCl [((a 60), .inr (8, [.int v1_, .int v2_, .ref (a 64)])), ((a 64), .inl (cy 2, 30, .inr (.inl (fun _ => 0))))] H := hP
  have hD : va_D A [((a 60), .inr (8, [.int v1_, .int v2_, .ref (a 64)])), ((a 64), .inl (cy 2, 30, .inr (.inl (fun _ => 0))))] := hD
  refine lv_iinc (v := 24) (lv' := [(3, .int 24), (0, .ref (a 60)), (1, .int v1_), (2, .int v2_)]) hx hb dX8_lay_25 hl (k := 0) rfl (by decide) (by decide) rfl (fun ls hl => ?_)
  refine lv_goto (tgt := 12) hx hb dX8_lay_28 (by decide) ?_
  refine lv_iload_n hx hb dX8_lay_12 rfl (lv_at hl 0 rfl) ?_
  refine lv_bipush (v := 30) hx hb dX8_lay_13 (by decide) ?_
  refine lv_icmp_ge (tgt := 31) hx hb dX8_lay_15 (by decide) (fun q => absurd q (by decide)) (fun _ => ?_)
  refine lv_aload_n hx hb dX8_lay_18 rfl (lv_at hl 1 rfl) ?_
  refine va_get (ci := 8) (v := .ref (a 64)) (C := RX8) (T := TX8) (N := 3) hx hb htA in_X8 hown hK hP 0 rfl rfl 2 (by decide) (htA _ wd_299) (fun _ h => h) rfl dX8_lay_19 ?_
  refine lv_iload_n hx hb dX8_lay_22 rfl (lv_at hl 0 rfl) ?_
  refine lv_lconst (v := 0) hx hb dX8_lay_23 (by decide) ?_
  refine va_last hx hb hK hP hD hS 1 2 rfl rfl (in_lit (by decide)) dX8_lay_24 (fun H locs hP hD hS => ?_)
  rw [fa_upd_sameL (f := fun _ => 0) (i := (24 : Int32).toNatClampNeg) (x := 0) (by first | decide | rfl)] at hP hD
  have hP : va_P D vwCl [((a 60), .inr (8, [.int v1_, .int v2_, .ref (a 64)])), ((a 64), .inl (cy 2, 30, .inr (.inl (fun _ => 0))))] H := hP
  have hD : va_D A [((a 60), .inr (8, [.int v1_, .int v2_, .ref (a 64)])), ((a 64), .inl (cy 2, 30, .inr (.inl (fun _ => 0))))] := hD
  refine lv_iinc (v := 25) (lv' := [(3, .int 25), (0, .ref (a 60)), (1, .int v1_), (2, .int v2_)]) hx hb dX8_lay_25 hl (k := 0) rfl (by decide) (by decide) rfl (fun ls hl => ?_)
  refine lv_goto (tgt := 12) hx hb dX8_lay_28 (by decide) ?_
  refine lv_iload_n hx hb dX8_lay_12 rfl (lv_at hl 0 rfl) ?_
  refine lv_bipush (v := 30) hx hb dX8_lay_13 (by decide) ?_
  refine lv_icmp_ge (tgt := 31) hx hb dX8_lay_15 (by decide) (fun q => absurd q (by decide)) (fun _ => ?_)
  refine lv_aload_n hx hb dX8_lay_18 rfl (lv_at hl 1 rfl) ?_
  refine va_get (ci := 8) (v := .ref (a 64)) (C := RX8) (T := TX8) (N := 3) hx hb htA in_X8 hown hK hP 0 rfl rfl 2 (by decide) (htA _ wd_299) (fun _ h => h) rfl dX8_lay_19 ?_
  refine lv_iload_n hx hb dX8_lay_22 rfl (lv_at hl 0 rfl) ?_
  refine lv_lconst (v := 0) hx hb dX8_lay_23 (by decide) ?_
  refine va_last hx hb hK hP hD hS 1 2 rfl rfl (in_lit (by decide)) dX8_lay_24 (fun H locs hP hD hS => ?_)
  rw [fa_upd_sameL (f := fun _ => 0) (i := (25 : Int32).toNatClampNeg) (x := 0) (by first | decide | rfl)] at hP hD
  have hP : va_P D vwCl [((a 60), .inr (8, [.int v1_, .int v2_, .ref (a 64)])), ((a 64), .inl (cy 2, 30, .inr (.inl (fun _ => 0))))] H := hP
  have hD : va_D A [((a 60), .inr (8, [.int v1_, .int v2_, .ref (a 64)])), ((a 64), .inl (cy 2, 30, .inr (.inl (fun _ => 0))))] := hD
  refine lv_iinc (v := 26) (lv' := [(3, .int 26), (0, .ref (a 60)), (1, .int v1_), (2, .int v2_)]) hx hb dX8_lay_25 hl (k := 0) rfl (by decide) (by decide) rfl (fun ls hl => ?_)
  refine lv_goto (tgt := 12) hx hb dX8_lay_28 (by decide) ?_
  refine lv_iload_n hx hb dX8_lay_12 rfl (lv_at hl 0 rfl) ?_
  refine lv_bipush (v := 30) hx hb dX8_lay_13 (by decide) ?_
  refine lv_icmp_ge (tgt := 31) hx hb dX8_lay_15 (by decide) (fun q => absurd q (by decide)) (fun _ => ?_)
  refine lv_aload_n hx hb dX8_lay_18 rfl (lv_at hl 1 rfl) ?_
  refine va_get (ci := 8) (v := .ref (a 64)) (C := RX8) (T := TX8) (N := 3) hx hb htA in_X8 hown hK hP 0 rfl rfl 2 (by decide) (htA _ wd_299) (fun _ h => h) rfl dX8_lay_19 ?_
  refine lv_iload_n hx hb dX8_lay_22 rfl (lv_at hl 0 rfl) ?_
  refine lv_lconst (v := 0) hx hb dX8_lay_23 (by decide) ?_
  refine va_last hx hb hK hP hD hS 1 2 rfl rfl (in_lit (by decide)) dX8_lay_24 (fun H locs hP hD hS => ?_)
  rw [fa_upd_sameL (f := fun _ => 0) (i := (26 : Int32).toNatClampNeg) (x := 0) (by first | decide | rfl)] at hP hD
  have hP : va_P D vwCl [((a 60), .inr (8, [.int v1_, .int v2_, .ref (a 64)])), ((a 64), .inl (cy 2, 30, .inr (.inl (fun _ => 0))))] H := hP
  have hD : va_D A [((a 60), .inr (8, [.int v1_, .int v2_, .ref (a 64)])), ((a 64), .inl (cy 2, 30, .inr (.inl (fun _ => 0))))] := hD
  refine lv_iinc (v := 27) (lv' := [(3, .int 27), (0, .ref (a 60)), (1, .int v1_), (2, .int v2_)]) hx hb dX8_lay_25 hl (k := 0) rfl (by decide) (by decide) rfl (fun ls hl => ?_)
  refine lv_goto (tgt := 12) hx hb dX8_lay_28 (by decide) ?_
  refine lv_iload_n hx hb dX8_lay_12 rfl (lv_at hl 0 rfl) ?_
  refine lv_bipush (v := 30) hx hb dX8_lay_13 (by decide) ?_
  refine lv_icmp_ge (tgt := 31) hx hb dX8_lay_15 (by decide) (fun q => absurd q (by decide)) (fun _ => ?_)
  refine lv_aload_n hx hb dX8_lay_18 rfl (lv_at hl 1 rfl) ?_
  refine va_get (ci := 8) (v := .ref (a 64)) (C := RX8) (T := TX8) (N := 3) hx hb htA in_X8 hown hK hP 0 rfl rfl 2 (by decide) (htA _ wd_299) (fun _ h => h) rfl dX8_lay_19 ?_
  refine lv_iload_n hx hb dX8_lay_22 rfl (lv_at hl 0 rfl) ?_
  refine lv_lconst (v := 0) hx hb dX8_lay_23 (by decide) ?_
  refine va_last hx hb hK hP hD hS 1 2 rfl rfl (in_lit (by decide)) dX8_lay_24 (fun H locs hP hD hS => ?_)
  rw [fa_upd_sameL (f := fun _ => 0) (i := (27 : Int32).toNatClampNeg) (x := 0) (by first | decide | rfl)] at hP hD
  have hP : va_P D vwCl [((a 60), .inr (8, [.int v1_, .int v2_, .ref (a 64)])), ((a 64), .inl (cy 2, 30, .inr (.inl (fun _ => 0))))] H := hP
  have hD : va_D A [((a 60), .inr (8, [.int v1_, .int v2_, .ref (a 64)])), ((a 64), .inl (cy 2, 30, .inr (.inl (fun _ => 0))))] := hD
  refine lv_iinc (v := 28) (lv' := [(3, .int 28), (0, .ref (a 60)), (1, .int v1_), (2, .int v2_)]) hx hb dX8_lay_25 hl (k := 0) rfl (by decide) (by decide) rfl (fun ls hl => ?_)
  refine lv_goto (tgt := 12) hx hb dX8_lay_28 (by decide) ?_
  refine lv_iload_n hx hb dX8_lay_12 rfl (lv_at hl 0 rfl) ?_
  refine lv_bipush (v := 30) hx hb dX8_lay_13 (by decide) ?_
  refine lv_icmp_ge (tgt := 31) hx hb dX8_lay_15 (by decide) (fun q => absurd q (by decide)) (fun _ => ?_)
  refine lv_aload_n hx hb dX8_lay_18 rfl (lv_at hl 1 rfl) ?_
  refine va_get (ci := 8) (v := .ref (a 64)) (C := RX8) (T := TX8) (N := 3) hx hb htA in_X8 hown hK hP 0 rfl rfl 2 (by decide) (htA _ wd_299) (fun _ h => h) rfl dX8_lay_19 ?_
  refine lv_iload_n hx hb dX8_lay_22 rfl (lv_at hl 0 rfl) ?_
  refine lv_lconst (v := 0) hx hb dX8_lay_23 (by decide) ?_
  refine va_last hx hb hK hP hD hS 1 2 rfl rfl (in_lit (by decide)) dX8_lay_24 (fun H locs hP hD hS => ?_)
  rw [fa_upd_sameL (f := fun _ => 0) (i := (28 : Int32).toNatClampNeg) (x := 0) (by first | decide | rfl)] at hP hD
  have hP : va_P D vwCl [((a 60), .inr (8, [.int v1_, .int v2_, .ref (a 64)])), ((a 64), .inl (cy 2, 30, .inr (.inl (fun _ => 0))))] H := hP
  have hD : va_D A [((a 60), .inr (8, [.int v1_, .int v2_, .ref (a 64)])), ((a 64), .inl (cy 2, 30, .inr (.inl (fun _ => 0))))] := hD
  refine lv_iinc (v := 29) (lv' := [(3, .int 29), (0, .ref (a 60)), (1, .int v1_), (2, .int v2_)]) hx hb dX8_lay_25 hl (k := 0) rfl (by decide) (by decide) rfl (fun ls hl => ?_)
  refine lv_goto (tgt := 12) hx hb dX8_lay_28 (by decide) ?_
  refine lv_iload_n hx hb dX8_lay_12 rfl (lv_at hl 0 rfl) ?_
  refine lv_bipush (v := 30) hx hb dX8_lay_13 (by decide) ?_
  refine lv_icmp_ge (tgt := 31) hx hb dX8_lay_15 (by decide) (fun q => absurd q (by decide)) (fun _ => ?_)
  refine lv_aload_n hx hb dX8_lay_18 rfl (lv_at hl 1 rfl) ?_
  refine va_get (ci := 8) (v := .ref (a 64)) (C := RX8) (T := TX8) (N := 3) hx hb htA in_X8 hown hK hP 0 rfl rfl 2 (by decide) (htA _ wd_299) (fun _ h => h) rfl dX8_lay_19 ?_
  refine lv_iload_n hx hb dX8_lay_22 rfl (lv_at hl 0 rfl) ?_
  refine lv_lconst (v := 0) hx hb dX8_lay_23 (by decide) ?_
  refine va_last hx hb hK hP hD hS 1 2 rfl rfl (in_lit (by decide)) dX8_lay_24 (fun H locs hP hD hS => ?_)
  rw [fa_upd_sameL (f := fun _ => 0) (i := (29 : Int32).toNatClampNeg) (x := 0) (by first | decide | rfl)] at hP hD
  have hP : va_P D vwCl [((a 60), .inr (8, [.int v1_, .int v2_, .ref (a 64)])), ((a 64), .inl (cy 2, 30, .inr (.inl (fun _ => 0))))] H := hP
  have hD : va_D A [((a 60), .inr (8, [.int v1_, .int v2_, .ref (a 64)])), ((a 64), .inl (cy 2, 30, .inr (.inl (fun _ => 0))))] := hD
  refine lv_iinc (v := 30) (lv' := [(3, .int 30), (0, .ref (a 60)), (1, .int v1_), (2, .int v2_)]) hx hb dX8_lay_25 hl (k := 0) rfl (by decide) (by decide) rfl (fun ls hl => ?_)
  refine lv_goto (tgt := 12) hx hb dX8_lay_28 (by decide) ?_
  refine lv_iload_n hx hb dX8_lay_12 rfl (lv_at hl 0 rfl) ?_
  refine lv_bipush (v := 30) hx hb dX8_lay_13 (by decide) ?_
  refine lv_icmp_ge (tgt := 31) hx hb dX8_lay_15 (by decide) (fun _ => ?_) (fun q => absurd (by decide) q)
  exact rV hX hE hP hD hS dX8_lay_31 (by decide) (by decide) (rfl)
set_option maxHeartbeats 4000000 in
set_option maxRecDepth 100000 in
theorem au_X8_lay_40 (l : Launch) (D : va_G) (cy : Nat → ClassId) (a : Nat → Nat) (v1_ : Int32) (v2_ : Int32) : Cv l yX8_lay cX8_lay 4 none { frames := 0, cells := 0, slots := 0, locals := 0 } D cy [.ref (a 61), .int v1_, .int v2_] [((a 61), .inr (8, [.int (-1), .int 0, .ref (a 65)])), ((a 65), .inl (cy 2, 30, .inr (.inl (fun _ => 0))))] (fun W1 => (W1 = [((a 61), .inr (8, [.int v1_, .int v2_, .ref (a 65)])), ((a 65), .inl (cy 2, 30, .inr (.inl (fun _ => 0))))])) := by
  refine Cv.of (by decide) (Nat.le_of_ble_eq_true rfl) ?_
  intro p e s m below meth c A ls hX hE hP hD hl hin
  obtain ⟨hx, hb, hr, hml, hown, htA, hlk⟩ := id hX
  have hK := hE.1
  have hS : va_S A s.heap s.heap [] := va_S.rf
  have hl : lv_has ls 4 [(0, .ref (a 61)), (1, .int v1_), (2, .int v2_)] := hl
  refine lv_aload_n hx hb dX8_lay_0 rfl (lv_at hl 0 rfl) ?_
  refine lv_iload_n hx hb dX8_lay_1 rfl (lv_at hl 1 rfl) ?_
  refine va_put (ci := 8) (v := .int v1_) (ty := .int) (C := RX8) (T := TX8) (N := 3) hx hb htA in_X8 tyX8 tyX8_ok nmX8 hown hK hP hD hS 0 rfl rfl 0 (by decide) (htA _ wd_295) (fun _ h => h) rfl (by decide +kernel) rfl rfl (Nat.le_of_ble_eq_true rfl) dX8_lay_2 (fun H locs hP hD hS => ?_)
  have hP : va_P D vwCl [((a 61), .inr (8, [.int v1_, .int 0, .ref (a 65)])), ((a 65), .inl (cy 2, 30, .inr (.inl (fun _ => 0))))] H := hP
  have hD : va_D A [((a 61), .inr (8, [.int v1_, .int 0, .ref (a 65)])), ((a 65), .inl (cy 2, 30, .inr (.inl (fun _ => 0))))] := hD
  refine lv_aload_n hx hb dX8_lay_5 rfl (lv_at hl 0 rfl) ?_
  refine lv_iload_n hx hb dX8_lay_6 rfl (lv_at hl 2 rfl) ?_
  refine va_put (ci := 8) (v := .int v2_) (ty := .int) (C := RX8) (T := TX8) (N := 3) hx hb htA in_X8 tyX8 tyX8_ok nmX8 hown hK hP hD hS 0 rfl rfl 1 (by decide) (htA _ wd_297) (fun _ h => h) rfl (by decide +kernel) rfl rfl (Nat.le_of_ble_eq_true rfl) dX8_lay_7 (fun H locs hP hD hS => ?_)
  have hP : va_P D vwCl [((a 61), .inr (8, [.int v1_, .int v2_, .ref (a 65)])), ((a 65), .inl (cy 2, 30, .inr (.inl (fun _ => 0))))] H := hP
  have hD : va_D A [((a 61), .inr (8, [.int v1_, .int v2_, .ref (a 65)])), ((a 65), .inl (cy 2, 30, .inr (.inl (fun _ => 0))))] := hD
  refine lv_iconst (v := 0) hx hb dX8_lay_10 (by decide) ?_
  refine lv_istore_n (lv' := [(3, .int 0), (0, .ref (a 61)), (1, .int v1_), (2, .int v2_)]) hx hb dX8_lay_11 rfl hl (by decide) rfl (fun ls hl => ?_)
  refine lv_iload_n hx hb dX8_lay_12 rfl (lv_at hl 0 rfl) ?_
  refine lv_bipush (v := 30) hx hb dX8_lay_13 (by decide) ?_
  refine lv_icmp_ge (tgt := 31) hx hb dX8_lay_15 (by decide) (fun q => absurd q (by decide)) (fun _ => ?_)
  refine lv_aload_n hx hb dX8_lay_18 rfl (lv_at hl 1 rfl) ?_
  refine va_get (ci := 8) (v := .ref (a 65)) (C := RX8) (T := TX8) (N := 3) hx hb htA in_X8 hown hK hP 0 rfl rfl 2 (by decide) (htA _ wd_299) (fun _ h => h) rfl dX8_lay_19 ?_
  refine lv_iload_n hx hb dX8_lay_22 rfl (lv_at hl 0 rfl) ?_
  refine lv_lconst (v := 0) hx hb dX8_lay_23 (by decide) ?_
  refine va_last hx hb hK hP hD hS 1 2 rfl rfl (in_lit (by decide)) dX8_lay_24 (fun H locs hP hD hS => ?_)
  rw [fa_upd_sameL (f := fun _ => 0) (i := (0 : Int32).toNatClampNeg) (x := 0) (by first | decide | rfl)] at hP hD
  have hP : va_P D vwCl [((a 61), .inr (8, [.int v1_, .int v2_, .ref (a 65)])), ((a 65), .inl (cy 2, 30, .inr (.inl (fun _ => 0))))] H := hP
  have hD : va_D A [((a 61), .inr (8, [.int v1_, .int v2_, .ref (a 65)])), ((a 65), .inl (cy 2, 30, .inr (.inl (fun _ => 0))))] := hD
  refine lv_iinc (v := 1) (lv' := [(3, .int 1), (0, .ref (a 61)), (1, .int v1_), (2, .int v2_)]) hx hb dX8_lay_25 hl (k := 0) rfl (by decide) (by decide) rfl (fun ls hl => ?_)
  refine lv_goto (tgt := 12) hx hb dX8_lay_28 (by decide) ?_
  refine lv_iload_n hx hb dX8_lay_12 rfl (lv_at hl 0 rfl) ?_
  refine lv_bipush (v := 30) hx hb dX8_lay_13 (by decide) ?_
  refine lv_icmp_ge (tgt := 31) hx hb dX8_lay_15 (by decide) (fun q => absurd q (by decide)) (fun _ => ?_)
  refine lv_aload_n hx hb dX8_lay_18 rfl (lv_at hl 1 rfl) ?_
  refine va_get (ci := 8) (v := .ref (a 65)) (C := RX8) (T := TX8) (N := 3) hx hb htA in_X8 hown hK hP 0 rfl rfl 2 (by decide) (htA _ wd_299) (fun _ h => h) rfl dX8_lay_19 ?_
  refine lv_iload_n hx hb dX8_lay_22 rfl (lv_at hl 0 rfl) ?_
  refine lv_lconst (v := 0) hx hb dX8_lay_23 (by decide) ?_
  refine va_last hx hb hK hP hD hS 1 2 rfl rfl (in_lit (by decide)) dX8_lay_24 (fun H locs hP hD hS => ?_)
  rw [fa_upd_sameL (f := fun _ => 0) (i := (1 : Int32).toNatClampNeg) (x := 0) (by first | decide | rfl)] at hP hD
  have hP : va_P D vwCl [((a 61), .inr (8, [.int v1_, .int v2_, .ref (a 65)])), ((a 65), .inl (cy 2, 30, .inr (.inl (fun _ => 0))))] H := hP
  have hD : va_D A [((a 61), .inr (8, [.int v1_, .int v2_, .ref (a 65)])), ((a 65), .inl (cy 2, 30, .inr (.inl (fun _ => 0))))] := hD
  refine lv_iinc (v := 2) (lv' := [(3, .int 2), (0, .ref (a 61)), (1, .int v1_), (2, .int v2_)]) hx hb dX8_lay_25 hl (k := 0) rfl (by decide) (by decide) rfl (fun ls hl => ?_)
  refine lv_goto (tgt := 12) hx hb dX8_lay_28 (by decide) ?_
  refine lv_iload_n hx hb dX8_lay_12 rfl (lv_at hl 0 rfl) ?_
  refine lv_bipush (v := 30) hx hb dX8_lay_13 (by decide) ?_
  refine lv_icmp_ge (tgt := 31) hx hb dX8_lay_15 (by decide) (fun q => absurd q (by decide)) (fun _ => ?_)
  refine lv_aload_n hx hb dX8_lay_18 rfl (lv_at hl 1 rfl) ?_
  refine va_get (ci := 8) (v := .ref (a 65)) (C := RX8) (T := TX8) (N := 3) hx hb htA in_X8 hown hK hP 0 rfl rfl 2 (by decide) (htA _ wd_299) (fun _ h => h) rfl dX8_lay_19 ?_
  refine lv_iload_n hx hb dX8_lay_22 rfl (lv_at hl 0 rfl) ?_
  refine lv_lconst (v := 0) hx hb dX8_lay_23 (by decide) ?_
  refine va_last hx hb hK hP hD hS 1 2 rfl rfl (in_lit (by decide)) dX8_lay_24 (fun H locs hP hD hS => ?_)
  rw [fa_upd_sameL (f := fun _ => 0) (i := (2 : Int32).toNatClampNeg) (x := 0) (by first | decide | rfl)] at hP hD
  have hP : va_P D vwCl [((a 61), .inr (8, [.int v1_, .int v2_, .ref (a 65)])), ((a 65), .inl (cy 2, 30, .inr (.inl (fun _ => 0))))] H := hP
  have hD : va_D A [((a 61), .inr (8, [.int v1_, .int v2_, .ref (a 65)])), ((a 65), .inl (cy 2, 30, .inr (.inl (fun _ => 0))))] := hD
  refine lv_iinc (v := 3) (lv' := [(3, .int 3), (0, .ref (a 61)), (1, .int v1_), (2, .int v2_)]) hx hb dX8_lay_25 hl (k := 0) rfl (by decide) (by decide) rfl (fun ls hl => ?_)
  refine lv_goto (tgt := 12) hx hb dX8_lay_28 (by decide) ?_
  refine lv_iload_n hx hb dX8_lay_12 rfl (lv_at hl 0 rfl) ?_
  refine lv_bipush (v := 30) hx hb dX8_lay_13 (by decide) ?_
  refine lv_icmp_ge (tgt := 31) hx hb dX8_lay_15 (by decide) (fun q => absurd q (by decide)) (fun _ => ?_)
  refine lv_aload_n hx hb dX8_lay_18 rfl (lv_at hl 1 rfl) ?_
  refine va_get (ci := 8) (v := .ref (a 65)) (C := RX8) (T := TX8) (N := 3) hx hb htA in_X8 hown hK hP 0 rfl rfl 2 (by decide) (htA _ wd_299) (fun _ h => h) rfl dX8_lay_19 ?_
  refine lv_iload_n hx hb dX8_lay_22 rfl (lv_at hl 0 rfl) ?_
  refine lv_lconst (v := 0) hx hb dX8_lay_23 (by decide) ?_
  refine va_last hx hb hK hP hD hS 1 2 rfl rfl (in_lit (by decide)) dX8_lay_24 (fun H locs hP hD hS => ?_)
  rw [fa_upd_sameL (f := fun _ => 0) (i := (3 : Int32).toNatClampNeg) (x := 0) (by first | decide | rfl)] at hP hD
  have hP : va_P D vwCl [((a 61), .inr (8, [.int v1_, .int v2_, .ref (a 65)])), ((a 65), .inl (cy 2, 30, .inr (.inl (fun _ => 0))))] H := hP
  have hD : va_D A [((a 61), .inr (8, [.int v1_, .int v2_, .ref (a 65)])), ((a 65), .inl (cy 2, 30, .inr (.inl (fun _ => 0))))] := hD
  refine lv_iinc (v := 4) (lv' := [(3, .int 4), (0, .ref (a 61)), (1, .int v1_), (2, .int v2_)]) hx hb dX8_lay_25 hl (k := 0) rfl (by decide) (by decide) rfl (fun ls hl => ?_)
  refine lv_goto (tgt := 12) hx hb dX8_lay_28 (by decide) ?_
  refine lv_iload_n hx hb dX8_lay_12 rfl (lv_at hl 0 rfl) ?_
  refine lv_bipush (v := 30) hx hb dX8_lay_13 (by decide) ?_
  refine lv_icmp_ge (tgt := 31) hx hb dX8_lay_15 (by decide) (fun q => absurd q (by decide)) (fun _ => ?_)
  refine lv_aload_n hx hb dX8_lay_18 rfl (lv_at hl 1 rfl) ?_
  refine va_get (ci := 8) (v := .ref (a 65)) (C := RX8) (T := TX8) (N := 3) hx hb htA in_X8 hown hK hP 0 rfl rfl 2 (by decide) (htA _ wd_299) (fun _ h => h) rfl dX8_lay_19 ?_
  refine lv_iload_n hx hb dX8_lay_22 rfl (lv_at hl 0 rfl) ?_
  refine lv_lconst (v := 0) hx hb dX8_lay_23 (by decide) ?_
  refine va_last hx hb hK hP hD hS 1 2 rfl rfl (in_lit (by decide)) dX8_lay_24 (fun H locs hP hD hS => ?_)
  rw [fa_upd_sameL (f := fun _ => 0) (i := (4 : Int32).toNatClampNeg) (x := 0) (by first | decide | rfl)] at hP hD
  have hP : va_P D vwCl [((a 61), .inr (8, [.int v1_, .int v2_, .ref (a 65)])), ((a 65), .inl (cy 2, 30, .inr (.inl (fun _ => 0))))] H := hP
  have hD : va_D A [((a 61), .inr (8, [.int v1_, .int v2_, .ref (a 65)])), ((a 65), .inl (cy 2, 30, .inr (.inl (fun _ => 0))))] := hD
  refine lv_iinc (v := 5) (lv' := [(3, .int 5), (0, .ref (a 61)), (1, .int v1_), (2, .int v2_)]) hx hb dX8_lay_25 hl (k := 0) rfl (by decide) (by decide) rfl (fun ls hl => ?_)
  refine lv_goto (tgt := 12) hx hb dX8_lay_28 (by decide) ?_
  refine lv_iload_n hx hb dX8_lay_12 rfl (lv_at hl 0 rfl) ?_
  refine lv_bipush (v := 30) hx hb dX8_lay_13 (by decide) ?_
  refine lv_icmp_ge (tgt := 31) hx hb dX8_lay_15 (by decide) (fun q => absurd q (by decide)) (fun _ => ?_)
  refine lv_aload_n hx hb dX8_lay_18 rfl (lv_at hl 1 rfl) ?_
  refine va_get (ci := 8) (v := .ref (a 65)) (C := RX8) (T := TX8) (N := 3) hx hb htA in_X8 hown hK hP 0 rfl rfl 2 (by decide) (htA _ wd_299) (fun _ h => h) rfl dX8_lay_19 ?_
  refine lv_iload_n hx hb dX8_lay_22 rfl (lv_at hl 0 rfl) ?_
  refine lv_lconst (v := 0) hx hb dX8_lay_23 (by decide) ?_
  refine va_last hx hb hK hP hD hS 1 2 rfl rfl (in_lit (by decide)) dX8_lay_24 (fun H locs hP hD hS => ?_)
  rw [fa_upd_sameL (f := fun _ => 0) (i := (5 : Int32).toNatClampNeg) (x := 0) (by first | decide | rfl)] at hP hD
  have hP : va_P D vwCl [((a 61), .inr (8, [.int v1_, .int v2_, .ref (a 65)])), ((a 65), .inl (cy 2, 30, .inr (.inl (fun _ => 0))))] H := hP
  have hD : va_D A [((a 61), .inr (8, [.int v1_, .int v2_, .ref (a 65)])), ((a 65), .inl (cy 2, 30, .inr (.inl (fun _ => 0))))] := hD
  refine lv_iinc (v := 6) (lv' := [(3, .int 6), (0, .ref (a 61)), (1, .int v1_), (2, .int v2_)]) hx hb dX8_lay_25 hl (k := 0) rfl (by decide) (by decide) rfl (fun ls hl => ?_)
  refine lv_goto (tgt := 12) hx hb dX8_lay_28 (by decide) ?_
  refine lv_iload_n hx hb dX8_lay_12 rfl (lv_at hl 0 rfl) ?_
  refine lv_bipush (v := 30) hx hb dX8_lay_13 (by decide) ?_
  refine lv_icmp_ge (tgt := 31) hx hb dX8_lay_15 (by decide) (fun q => absurd q (by decide)) (fun _ => ?_)
  refine lv_aload_n hx hb dX8_lay_18 rfl (lv_at hl 1 rfl) ?_
  refine va_get (ci := 8) (v := .ref (a 65)) (C := RX8) (T := TX8) (N := 3) hx hb htA in_X8 hown hK hP 0 rfl rfl 2 (by decide) (htA _ wd_299) (fun _ h => h) rfl dX8_lay_19 ?_
  refine lv_iload_n hx hb dX8_lay_22 rfl (lv_at hl 0 rfl) ?_
  refine lv_lconst (v := 0) hx hb dX8_lay_23 (by decide) ?_
  refine va_last hx hb hK hP hD hS 1 2 rfl rfl (in_lit (by decide)) dX8_lay_24 (fun H locs hP hD hS => ?_)
  rw [fa_upd_sameL (f := fun _ => 0) (i := (6 : Int32).toNatClampNeg) (x := 0) (by first | decide | rfl)] at hP hD
  have hP : va_P D vwCl [((a 61), .inr (8, [.int v1_, .int v2_, .ref (a 65)])), ((a 65), .inl (cy 2, 30, .inr (.inl (fun _ => 0))))] H := hP
  have hD : va_D A [((a 61), .inr (8, [.int v1_, .int v2_, .ref (a 65)])), ((a 65), .inl (cy 2, 30, .inr (.inl (fun _ => 0))))] := hD
  refine lv_iinc (v := 7) (lv' := [(3, .int 7), (0, .ref (a 61)), (1, .int v1_), (2, .int v2_)]) hx hb dX8_lay_25 hl (k := 0) rfl (by decide) (by decide) rfl (fun ls hl => ?_)
  refine lv_goto (tgt := 12) hx hb dX8_lay_28 (by decide) ?_
  refine lv_iload_n hx hb dX8_lay_12 rfl (lv_at hl 0 rfl) ?_
  refine lv_bipush (v := 30) hx hb dX8_lay_13 (by decide) ?_
  refine lv_icmp_ge (tgt := 31) hx hb dX8_lay_15 (by decide) (fun q => absurd q (by decide)) (fun _ => ?_)
  refine lv_aload_n hx hb dX8_lay_18 rfl (lv_at hl 1 rfl) ?_
  refine va_get (ci := 8) (v := .ref (a 65)) (C := RX8) (T := TX8) (N := 3) hx hb htA in_X8 hown hK hP 0 rfl rfl 2 (by decide) (htA _ wd_299) (fun _ h => h) rfl dX8_lay_19 ?_
  refine lv_iload_n hx hb dX8_lay_22 rfl (lv_at hl 0 rfl) ?_
  refine lv_lconst (v := 0) hx hb dX8_lay_23 (by decide) ?_
  refine va_last hx hb hK hP hD hS 1 2 rfl rfl (in_lit (by decide)) dX8_lay_24 (fun H locs hP hD hS => ?_)
  rw [fa_upd_sameL (f := fun _ => 0) (i := (7 : Int32).toNatClampNeg) (x := 0) (by first | decide | rfl)] at hP hD
  have hP : va_P D vwCl [((a 61), .inr (8, [.int v1_, .int v2_, .ref (a 65)])), ((a 65), .inl (cy 2, 30, .inr (.inl (fun _ => 0))))] H := hP
  have hD : va_D A [((a 61), .inr (8, [.int v1_, .int v2_, .ref (a 65)])), ((a 65), .inl (cy 2, 30, .inr (.inl (fun _ => 0))))] := hD
  refine lv_iinc (v := 8) (lv' := [(3, .int 8), (0, .ref (a 61)), (1, .int v1_), (2, .int v2_)]) hx hb dX8_lay_25 hl (k := 0) rfl (by decide) (by decide) rfl (fun ls hl => ?_)
  refine lv_goto (tgt := 12) hx hb dX8_lay_28 (by decide) ?_
  refine lv_iload_n hx hb dX8_lay_12 rfl (lv_at hl 0 rfl) ?_
  refine lv_bipush (v := 30) hx hb dX8_lay_13 (by decide) ?_
  refine lv_icmp_ge (tgt := 31) hx hb dX8_lay_15 (by decide) (fun q => absurd q (by decide)) (fun _ => ?_)
  refine lv_aload_n hx hb dX8_lay_18 rfl (lv_at hl 1 rfl) ?_
  refine va_get (ci := 8) (v := .ref (a 65)) (C := RX8) (T := TX8) (N := 3) hx hb htA in_X8 hown hK hP 0 rfl rfl 2 (by decide) (htA _ wd_299) (fun _ h => h) rfl dX8_lay_19 ?_
  refine lv_iload_n hx hb dX8_lay_22 rfl (lv_at hl 0 rfl) ?_
  refine lv_lconst (v := 0) hx hb dX8_lay_23 (by decide) ?_
  refine va_last hx hb hK hP hD hS 1 2 rfl rfl (in_lit (by decide)) dX8_lay_24 (fun H locs hP hD hS => ?_)
  rw [fa_upd_sameL (f := fun _ => 0) (i := (8 : Int32).toNatClampNeg) (x := 0) (by first | decide | rfl)] at hP hD
  have hP : va_P D vwCl [((a 61), .inr (8, [.int v1_, .int v2_, .ref (a 65)])), ((a 65), .inl (cy 2, 30, .inr (.inl (fun _ => 0))))] H := hP
  have hD : va_D A [((a 61), .inr (8, [.int v1_, .int v2_, .ref (a 65)])), ((a 65), .inl (cy 2, 30, .inr (.inl (fun _ => 0))))] := hD
  refine lv_iinc (v := 9) (lv' := [(3, .int 9), (0, .ref (a 61)), (1, .int v1_), (2, .int v2_)]) hx hb dX8_lay_25 hl (k := 0) rfl (by decide) (by decide) rfl (fun ls hl => ?_)
  refine lv_goto (tgt := 12) hx hb dX8_lay_28 (by decide) ?_
  refine lv_iload_n hx hb dX8_lay_12 rfl (lv_at hl 0 rfl) ?_
  refine lv_bipush (v := 30) hx hb dX8_lay_13 (by decide) ?_
  refine lv_icmp_ge (tgt := 31) hx hb dX8_lay_15 (by decide) (fun q => absurd q (by decide)) (fun _ => ?_)
  refine lv_aload_n hx hb dX8_lay_18 rfl (lv_at hl 1 rfl) ?_
  refine va_get (ci := 8) (v := .ref (a 65)) (C := RX8) (T := TX8) (N := 3) hx hb htA in_X8 hown hK hP 0 rfl rfl 2 (by decide) (htA _ wd_299) (fun _ h => h) rfl dX8_lay_19 ?_
  refine lv_iload_n hx hb dX8_lay_22 rfl (lv_at hl 0 rfl) ?_
  refine lv_lconst (v := 0) hx hb dX8_lay_23 (by decide) ?_
  refine va_last hx hb hK hP hD hS 1 2 rfl rfl (in_lit (by decide)) dX8_lay_24 (fun H locs hP hD hS => ?_)
  rw [fa_upd_sameL (f := fun _ => 0) (i := (9 : Int32).toNatClampNeg) (x := 0) (by first | decide | rfl)] at hP hD
  have hP : va_P D vwCl [((a 61), .inr (8, [.int v1_, .int v2_, .ref (a 65)])), ((a 65), .inl (cy 2, 30, .inr (.inl (fun _ => 0))))] H := hP
  have hD : va_D A [((a 61), .inr (8, [.int v1_, .int v2_, .ref (a 65)])), ((a 65), .inl (cy 2, 30, .inr (.inl (fun _ => 0))))] := hD
  refine lv_iinc (v := 10) (lv' := [(3, .int 10), (0, .ref (a 61)), (1, .int v1_), (2, .int v2_)]) hx hb dX8_lay_25 hl (k := 0) rfl (by decide) (by decide) rfl (fun ls hl => ?_)
  refine lv_goto (tgt := 12) hx hb dX8_lay_28 (by decide) ?_
  refine lv_iload_n hx hb dX8_lay_12 rfl (lv_at hl 0 rfl) ?_
  refine lv_bipush (v := 30) hx hb dX8_lay_13 (by decide) ?_
  refine lv_icmp_ge (tgt := 31) hx hb dX8_lay_15 (by decide) (fun q => absurd q (by decide)) (fun _ => ?_)
  refine lv_aload_n hx hb dX8_lay_18 rfl (lv_at hl 1 rfl) ?_
  refine va_get (ci := 8) (v := .ref (a 65)) (C := RX8) (T := TX8) (N := 3) hx hb htA in_X8 hown hK hP 0 rfl rfl 2 (by decide) (htA _ wd_299) (fun _ h => h) rfl dX8_lay_19 ?_
  refine lv_iload_n hx hb dX8_lay_22 rfl (lv_at hl 0 rfl) ?_
  refine lv_lconst (v := 0) hx hb dX8_lay_23 (by decide) ?_
  refine va_last hx hb hK hP hD hS 1 2 rfl rfl (in_lit (by decide)) dX8_lay_24 (fun H locs hP hD hS => ?_)
  rw [fa_upd_sameL (f := fun _ => 0) (i := (10 : Int32).toNatClampNeg) (x := 0) (by first | decide | rfl)] at hP hD
  have hP : va_P D vwCl [((a 61), .inr (8, [.int v1_, .int v2_, .ref (a 65)])), ((a 65), .inl (cy 2, 30, .inr (.inl (fun _ => 0))))] H := hP
  have hD : va_D A [((a 61), .inr (8, [.int v1_, .int v2_, .ref (a 65)])), ((a 65), .inl (cy 2, 30, .inr (.inl (fun _ => 0))))] := hD
  refine lv_iinc (v := 11) (lv' := [(3, .int 11), (0, .ref (a 61)), (1, .int v1_), (2, .int v2_)]) hx hb dX8_lay_25 hl (k := 0) rfl (by decide) (by decide) rfl (fun ls hl => ?_)
  refine lv_goto (tgt := 12) hx hb dX8_lay_28 (by decide) ?_
  refine lv_iload_n hx hb dX8_lay_12 rfl (lv_at hl 0 rfl) ?_
  refine lv_bipush (v := 30) hx hb dX8_lay_13 (by decide) ?_
  refine lv_icmp_ge (tgt := 31) hx hb dX8_lay_15 (by decide) (fun q => absurd q (by decide)) (fun _ => ?_)
  refine lv_aload_n hx hb dX8_lay_18 rfl (lv_at hl 1 rfl) ?_
  refine va_get (ci := 8) (v := .ref (a 65)) (C := RX8) (T := TX8) (N := 3) hx hb htA in_X8 hown hK hP 0 rfl rfl 2 (by decide) (htA _ wd_299) (fun _ h => h) rfl dX8_lay_19 ?_
  refine lv_iload_n hx hb dX8_lay_22 rfl (lv_at hl 0 rfl) ?_
  refine lv_lconst (v := 0) hx hb dX8_lay_23 (by decide) ?_
  refine va_last hx hb hK hP hD hS 1 2 rfl rfl (in_lit (by decide)) dX8_lay_24 (fun H locs hP hD hS => ?_)
  rw [fa_upd_sameL (f := fun _ => 0) (i := (11 : Int32).toNatClampNeg) (x := 0) (by first | decide | rfl)] at hP hD
  have hP : va_P D vwCl [((a 61), .inr (8, [.int v1_, .int v2_, .ref (a 65)])), ((a 65), .inl (cy 2, 30, .inr (.inl (fun _ => 0))))] H := hP
  have hD : va_D A [((a 61), .inr (8, [.int v1_, .int v2_, .ref (a 65)])), ((a 65), .inl (cy 2, 30, .inr (.inl (fun _ => 0))))] := hD
  refine lv_iinc (v := 12) (lv' := [(3, .int 12), (0, .ref (a 61)), (1, .int v1_), (2, .int v2_)]) hx hb dX8_lay_25 hl (k := 0) rfl (by decide) (by decide) rfl (fun ls hl => ?_)
  refine lv_goto (tgt := 12) hx hb dX8_lay_28 (by decide) ?_
  refine lv_iload_n hx hb dX8_lay_12 rfl (lv_at hl 0 rfl) ?_
  refine lv_bipush (v := 30) hx hb dX8_lay_13 (by decide) ?_
  refine lv_icmp_ge (tgt := 31) hx hb dX8_lay_15 (by decide) (fun q => absurd q (by decide)) (fun _ => ?_)
  refine lv_aload_n hx hb dX8_lay_18 rfl (lv_at hl 1 rfl) ?_
  refine va_get (ci := 8) (v := .ref (a 65)) (C := RX8) (T := TX8) (N := 3) hx hb htA in_X8 hown hK hP 0 rfl rfl 2 (by decide) (htA _ wd_299) (fun _ h => h) rfl dX8_lay_19 ?_
  refine lv_iload_n hx hb dX8_lay_22 rfl (lv_at hl 0 rfl) ?_
  refine lv_lconst (v := 0) hx hb dX8_lay_23 (by decide) ?_
  refine va_last hx hb hK hP hD hS 1 2 rfl rfl (in_lit (by decide)) dX8_lay_24 (fun H locs hP hD hS => ?_)
  rw [fa_upd_sameL (f := fun _ => 0) (i := (12 : Int32).toNatClampNeg) (x := 0) (by first | decide | rfl)] at hP hD
  have hP : va_P D vwCl [((a 61), .inr (8, [.int v1_, .int v2_, .ref (a 65)])), ((a 65), .inl (cy 2, 30, .inr (.inl (fun _ => 0))))] H := hP
  have hD : va_D A [((a 61), .inr (8, [.int v1_, .int v2_, .ref (a 65)])), ((a 65), .inl (cy 2, 30, .inr (.inl (fun _ => 0))))] := hD
  refine lv_iinc (v := 13) (lv' := [(3, .int 13), (0, .ref (a 61)), (1, .int v1_), (2, .int v2_)]) hx hb dX8_lay_25 hl (k := 0) rfl (by decide) (by decide) rfl (fun ls hl => ?_)
  refine lv_goto (tgt := 12) hx hb dX8_lay_28 (by decide) ?_
  refine lv_iload_n hx hb dX8_lay_12 rfl (lv_at hl 0 rfl) ?_
  refine lv_bipush (v := 30) hx hb dX8_lay_13 (by decide) ?_
  refine lv_icmp_ge (tgt := 31) hx hb dX8_lay_15 (by decide) (fun q => absurd q (by decide)) (fun _ => ?_)
  refine lv_aload_n hx hb dX8_lay_18 rfl (lv_at hl 1 rfl) ?_
  refine va_get (ci := 8) (v := .ref (a 65)) (C := RX8) (T := TX8) (N := 3) hx hb htA in_X8 hown hK hP 0 rfl rfl 2 (by decide) (htA _ wd_299) (fun _ h => h) rfl dX8_lay_19 ?_
  refine lv_iload_n hx hb dX8_lay_22 rfl (lv_at hl 0 rfl) ?_
  refine lv_lconst (v := 0) hx hb dX8_lay_23 (by decide) ?_
  refine va_last hx hb hK hP hD hS 1 2 rfl rfl (in_lit (by decide)) dX8_lay_24 (fun H locs hP hD hS => ?_)
  rw [fa_upd_sameL (f := fun _ => 0) (i := (13 : Int32).toNatClampNeg) (x := 0) (by first | decide | rfl)] at hP hD
  have hP : va_P D vwCl [((a 61), .inr (8, [.int v1_, .int v2_, .ref (a 65)])), ((a 65), .inl (cy 2, 30, .inr (.inl (fun _ => 0))))] H := hP
  have hD : va_D A [((a 61), .inr (8, [.int v1_, .int v2_, .ref (a 65)])), ((a 65), .inl (cy 2, 30, .inr (.inl (fun _ => 0))))] := hD
  refine lv_iinc (v := 14) (lv' := [(3, .int 14), (0, .ref (a 61)), (1, .int v1_), (2, .int v2_)]) hx hb dX8_lay_25 hl (k := 0) rfl (by decide) (by decide) rfl (fun ls hl => ?_)
  refine lv_goto (tgt := 12) hx hb dX8_lay_28 (by decide) ?_
  refine lv_iload_n hx hb dX8_lay_12 rfl (lv_at hl 0 rfl) ?_
  refine lv_bipush (v := 30) hx hb dX8_lay_13 (by decide) ?_
  refine lv_icmp_ge (tgt := 31) hx hb dX8_lay_15 (by decide) (fun q => absurd q (by decide)) (fun _ => ?_)
  refine lv_aload_n hx hb dX8_lay_18 rfl (lv_at hl 1 rfl) ?_
  refine va_get (ci := 8) (v := .ref (a 65)) (C := RX8) (T := TX8) (N := 3) hx hb htA in_X8 hown hK hP 0 rfl rfl 2 (by decide) (htA _ wd_299) (fun _ h => h) rfl dX8_lay_19 ?_
  refine lv_iload_n hx hb dX8_lay_22 rfl (lv_at hl 0 rfl) ?_
  refine lv_lconst (v := 0) hx hb dX8_lay_23 (by decide) ?_
  refine va_last hx hb hK hP hD hS 1 2 rfl rfl (in_lit (by decide)) dX8_lay_24 (fun H locs hP hD hS => ?_)
  rw [fa_upd_sameL (f := fun _ => 0) (i := (14 : Int32).toNatClampNeg) (x := 0) (by first | decide | rfl)] at hP hD
  have hP : va_P D vwCl [((a 61), .inr (8, [.int v1_, .int v2_, .ref (a 65)])), ((a 65), .inl (cy 2, 30, .inr (.inl (fun _ => 0))))] H := hP
  have hD : va_D A [((a 61), .inr (8, [.int v1_, .int v2_, .ref (a 65)])), ((a 65), .inl (cy 2, 30, .inr (.inl (fun _ => 0))))] := hD
  refine lv_iinc (v := 15) (lv' := [(3, .int 15), (0, .ref (a 61)), (1, .int v1_), (2, .int v2_)]) hx hb dX8_lay_25 hl (k := 0) rfl (by decide) (by decide) rfl (fun ls hl => ?_)
  refine lv_goto (tgt := 12) hx hb dX8_lay_28 (by decide) ?_
  refine lv_iload_n hx hb dX8_lay_12 rfl (lv_at hl 0 rfl) ?_
  refine lv_bipush (v := 30) hx hb dX8_lay_13 (by decide) ?_
  refine lv_icmp_ge (tgt := 31) hx hb dX8_lay_15 (by decide) (fun q => absurd q (by decide)) (fun _ => ?_)
  refine lv_aload_n hx hb dX8_lay_18 rfl (lv_at hl 1 rfl) ?_
  refine va_get (ci := 8) (v := .ref (a 65)) (C := RX8) (T := TX8) (N := 3) hx hb htA in_X8 hown hK hP 0 rfl rfl 2 (by decide) (htA _ wd_299) (fun _ h => h) rfl dX8_lay_19 ?_
  refine lv_iload_n hx hb dX8_lay_22 rfl (lv_at hl 0 rfl) ?_
  refine lv_lconst (v := 0) hx hb dX8_lay_23 (by decide) ?_
  refine va_last hx hb hK hP hD hS 1 2 rfl rfl (in_lit (by decide)) dX8_lay_24 (fun H locs hP hD hS => ?_)
  rw [fa_upd_sameL (f := fun _ => 0) (i := (15 : Int32).toNatClampNeg) (x := 0) (by first | decide | rfl)] at hP hD
  have hP : va_P D vwCl [((a 61), .inr (8, [.int v1_, .int v2_, .ref (a 65)])), ((a 65), .inl (cy 2, 30, .inr (.inl (fun _ => 0))))] H := hP
  have hD : va_D A [((a 61), .inr (8, [.int v1_, .int v2_, .ref (a 65)])), ((a 65), .inl (cy 2, 30, .inr (.inl (fun _ => 0))))] := hD
  refine lv_iinc (v := 16) (lv' := [(3, .int 16), (0, .ref (a 61)), (1, .int v1_), (2, .int v2_)]) hx hb dX8_lay_25 hl (k := 0) rfl (by decide) (by decide) rfl (fun ls hl => ?_)
  refine lv_goto (tgt := 12) hx hb dX8_lay_28 (by decide) ?_
  refine lv_iload_n hx hb dX8_lay_12 rfl (lv_at hl 0 rfl) ?_
  refine lv_bipush (v := 30) hx hb dX8_lay_13 (by decide) ?_
  refine lv_icmp_ge (tgt := 31) hx hb dX8_lay_15 (by decide) (fun q => absurd q (by decide)) (fun _ => ?_)
  refine lv_aload_n hx hb dX8_lay_18 rfl (lv_at hl 1 rfl) ?_
  refine va_get (ci := 8) (v := .ref (a 65)) (C := RX8) (T := TX8) (N := 3) hx hb htA in_X8 hown hK hP 0 rfl rfl 2 (by decide) (htA _ wd_299) (fun _ h => h) rfl dX8_lay_19 ?_
  refine lv_iload_n hx hb dX8_lay_22 rfl (lv_at hl 0 rfl) ?_
  refine lv_lconst (v := 0) hx hb dX8_lay_23 (by decide) ?_
  refine va_last hx hb hK hP hD hS 1 2 rfl rfl (in_lit (by decide)) dX8_lay_24 (fun H locs hP hD hS => ?_)
  rw [fa_upd_sameL (f := fun _ => 0) (i := (16 : Int32).toNatClampNeg) (x := 0) (by first | decide | rfl)] at hP hD
  have hP : va_P D vwCl [((a 61), .inr (8, [.int v1_, .int v2_, .ref (a 65)])), ((a 65), .inl (cy 2, 30, .inr (.inl (fun _ => 0))))] H := hP
  have hD : va_D A [((a 61), .inr (8, [.int v1_, .int v2_, .ref (a 65)])), ((a 65), .inl (cy 2, 30, .inr (.inl (fun _ => 0))))] := hD
  refine lv_iinc (v := 17) (lv' := [(3, .int 17), (0, .ref (a 61)), (1, .int v1_), (2, .int v2_)]) hx hb dX8_lay_25 hl (k := 0) rfl (by decide) (by decide) rfl (fun ls hl => ?_)
  refine lv_goto (tgt := 12) hx hb dX8_lay_28 (by decide) ?_
  refine lv_iload_n hx hb dX8_lay_12 rfl (lv_at hl 0 rfl) ?_
  refine lv_bipush (v := 30) hx hb dX8_lay_13 (by decide) ?_
  refine lv_icmp_ge (tgt := 31) hx hb dX8_lay_15 (by decide) (fun q => absurd q (by decide)) (fun _ => ?_)
  refine lv_aload_n hx hb dX8_lay_18 rfl (lv_at hl 1 rfl) ?_
  refine va_get (ci := 8) (v := .ref (a 65)) (C := RX8) (T := TX8) (N := 3) hx hb htA in_X8 hown hK hP 0 rfl rfl 2 (by decide) (htA _ wd_299) (fun _ h => h) rfl dX8_lay_19 ?_
  refine lv_iload_n hx hb dX8_lay_22 rfl (lv_at hl 0 rfl) ?_
  refine lv_lconst (v := 0) hx hb dX8_lay_23 (by decide) ?_
  refine va_last hx hb hK hP hD hS 1 2 rfl rfl (in_lit (by decide)) dX8_lay_24 (fun H locs hP hD hS => ?_)
  rw [fa_upd_sameL (f := fun _ => 0) (i := (17 : Int32).toNatClampNeg) (x := 0) (by first | decide | rfl)] at hP hD
  have hP : va_P D vwCl [((a 61), .inr (8, [.int v1_, .int v2_, .ref (a 65)])), ((a 65), .inl (cy 2, 30, .inr (.inl (fun _ => 0))))] H := hP
  have hD : va_D A [((a 61), .inr (8, [.int v1_, .int v2_, .ref (a 65)])), ((a 65), .inl (cy 2, 30, .inr (.inl (fun _ => 0))))] := hD
  refine lv_iinc (v := 18) (lv' := [(3, .int 18), (0, .ref (a 61)), (1, .int v1_), (2, .int v2_)]) hx hb dX8_lay_25 hl (k := 0) rfl (by decide) (by decide) rfl (fun ls hl => ?_)
  refine lv_goto (tgt := 12) hx hb dX8_lay_28 (by decide) ?_
  refine lv_iload_n hx hb dX8_lay_12 rfl (lv_at hl 0 rfl) ?_
  refine lv_bipush (v := 30) hx hb dX8_lay_13 (by decide) ?_
  refine lv_icmp_ge (tgt := 31) hx hb dX8_lay_15 (by decide) (fun q => absurd q (by decide)) (fun _ => ?_)
  refine lv_aload_n hx hb dX8_lay_18 rfl (lv_at hl 1 rfl) ?_
  refine va_get (ci := 8) (v := .ref (a 65)) (C := RX8) (T := TX8) (N := 3) hx hb htA in_X8 hown hK hP 0 rfl rfl 2 (by decide) (htA _ wd_299) (fun _ h => h) rfl dX8_lay_19 ?_
  refine lv_iload_n hx hb dX8_lay_22 rfl (lv_at hl 0 rfl) ?_
  refine lv_lconst (v := 0) hx hb dX8_lay_23 (by decide) ?_
  refine va_last hx hb hK hP hD hS 1 2 rfl rfl (in_lit (by decide)) dX8_lay_24 (fun H locs hP hD hS => ?_)
  rw [fa_upd_sameL (f := fun _ => 0) (i := (18 : Int32).toNatClampNeg) (x := 0) (by first | decide | rfl)] at hP hD
  have hP : va_P D vwCl [((a 61), .inr (8, [.int v1_, .int v2_, .ref (a 65)])), ((a 65), .inl (cy 2, 30, .inr (.inl (fun _ => 0))))] H := hP
  have hD : va_D A [((a 61), .inr (8, [.int v1_, .int v2_, .ref (a 65)])), ((a 65), .inl (cy 2, 30, .inr (.inl (fun _ => 0))))] := hD
  refine lv_iinc (v := 19) (lv' := [(3, .int 19), (0, .ref (a 61)), (1, .int v1_), (2, .int v2_)]) hx hb dX8_lay_25 hl (k := 0) rfl (by decide) (by decide) rfl (fun ls hl => ?_)
  refine lv_goto (tgt := 12) hx hb dX8_lay_28 (by decide) ?_
  refine lv_iload_n hx hb dX8_lay_12 rfl (lv_at hl 0 rfl) ?_
  refine lv_bipush (v := 30) hx hb dX8_lay_13 (by decide) ?_
  refine lv_icmp_ge (tgt := 31) hx hb dX8_lay_15 (by decide) (fun q => absurd q (by decide)) (fun _ => ?_)
  refine lv_aload_n hx hb dX8_lay_18 rfl (lv_at hl 1 rfl) ?_
  refine va_get (ci := 8) (v := .ref (a 65)) (C := RX8) (T := TX8) (N := 3) hx hb htA in_X8 hown hK hP 0 rfl rfl 2 (by decide) (htA _ wd_299) (fun _ h => h) rfl dX8_lay_19 ?_
  refine lv_iload_n hx hb dX8_lay_22 rfl (lv_at hl 0 rfl) ?_
  refine lv_lconst (v := 0) hx hb dX8_lay_23 (by decide) ?_
  refine va_last hx hb hK hP hD hS 1 2 rfl rfl (in_lit (by decide)) dX8_lay_24 (fun H locs hP hD hS => ?_)
  rw [fa_upd_sameL (f := fun _ => 0) (i := (19 : Int32).toNatClampNeg) (x := 0) (by first | decide | rfl)] at hP hD
  have hP : va_P D vwCl [((a 61), .inr (8, [.int v1_, .int v2_, .ref (a 65)])), ((a 65), .inl (cy 2, 30, .inr (.inl (fun _ => 0))))] H := hP
  have hD : va_D A [((a 61), .inr (8, [.int v1_, .int v2_, .ref (a 65)])), ((a 65), .inl (cy 2, 30, .inr (.inl (fun _ => 0))))] := hD
  refine lv_iinc (v := 20) (lv' := [(3, .int 20), (0, .ref (a 61)), (1, .int v1_), (2, .int v2_)]) hx hb dX8_lay_25 hl (k := 0) rfl (by decide) (by decide) rfl (fun ls hl => ?_)
  refine lv_goto (tgt := 12) hx hb dX8_lay_28 (by decide) ?_
  refine lv_iload_n hx hb dX8_lay_12 rfl (lv_at hl 0 rfl) ?_
  refine lv_bipush (v := 30) hx hb dX8_lay_13 (by decide) ?_
  refine lv_icmp_ge (tgt := 31) hx hb dX8_lay_15 (by decide) (fun q => absurd q (by decide)) (fun _ => ?_)
  refine lv_aload_n hx hb dX8_lay_18 rfl (lv_at hl 1 rfl) ?_
  refine va_get (ci := 8) (v := .ref (a 65)) (C := RX8) (T := TX8) (N := 3) hx hb htA in_X8 hown hK hP 0 rfl rfl 2 (by decide) (htA _ wd_299) (fun _ h => h) rfl dX8_lay_19 ?_
  refine lv_iload_n hx hb dX8_lay_22 rfl (lv_at hl 0 rfl) ?_
  refine lv_lconst (v := 0) hx hb dX8_lay_23 (by decide) ?_
  refine va_last hx hb hK hP hD hS 1 2 rfl rfl (in_lit (by decide)) dX8_lay_24 (fun H locs hP hD hS => ?_)
  rw [fa_upd_sameL (f := fun _ => 0) (i := (20 : Int32).toNatClampNeg) (x := 0) (by first | decide | rfl)] at hP hD
  have hP : va_P D vwCl [((a 61), .inr (8, [.int v1_, .int v2_, .ref (a 65)])), ((a 65), .inl (cy 2, 30, .inr (.inl (fun _ => 0))))] H := hP
  have hD : va_D A [((a 61), .inr (8, [.int v1_, .int v2_, .ref (a 65)])), ((a 65), .inl (cy 2, 30, .inr (.inl (fun _ => 0))))] := hD
  refine lv_iinc (v := 21) (lv' := [(3, .int 21), (0, .ref (a 61)), (1, .int v1_), (2, .int v2_)]) hx hb dX8_lay_25 hl (k := 0) rfl (by decide) (by decide) rfl (fun ls hl => ?_)
  refine lv_goto (tgt := 12) hx hb dX8_lay_28 (by decide) ?_
  refine lv_iload_n hx hb dX8_lay_12 rfl (lv_at hl 0 rfl) ?_
  refine lv_bipush (v := 30) hx hb dX8_lay_13 (by decide) ?_
  refine lv_icmp_ge (tgt := 31) hx hb dX8_lay_15 (by decide) (fun q => absurd q (by decide)) (fun _ => ?_)
  refine lv_aload_n hx hb dX8_lay_18 rfl (lv_at hl 1 rfl) ?_
  refine va_get (ci := 8) (v := .ref (a 65)) (C := RX8) (T := TX8) (N := 3) hx hb htA in_X8 hown hK hP 0 rfl rfl 2 (by decide) (htA _ wd_299) (fun _ h => h) rfl dX8_lay_19 ?_
  refine lv_iload_n hx hb dX8_lay_22 rfl (lv_at hl 0 rfl) ?_
  refine lv_lconst (v := 0) hx hb dX8_lay_23 (by decide) ?_
  refine va_last hx hb hK hP hD hS 1 2 rfl rfl (in_lit (by decide)) dX8_lay_24 (fun H locs hP hD hS => ?_)
  rw [fa_upd_sameL (f := fun _ => 0) (i := (21 : Int32).toNatClampNeg) (x := 0) (by first | decide | rfl)] at hP hD
  have hP : va_P D vwCl [((a 61), .inr (8, [.int v1_, .int v2_, .ref (a 65)])), ((a 65), .inl (cy 2, 30, .inr (.inl (fun _ => 0))))] H := hP
  have hD : va_D A [((a 61), .inr (8, [.int v1_, .int v2_, .ref (a 65)])), ((a 65), .inl (cy 2, 30, .inr (.inl (fun _ => 0))))] := hD
  refine lv_iinc (v := 22) (lv' := [(3, .int 22), (0, .ref (a 61)), (1, .int v1_), (2, .int v2_)]) hx hb dX8_lay_25 hl (k := 0) rfl (by decide) (by decide) rfl (fun ls hl => ?_)
  refine lv_goto (tgt := 12) hx hb dX8_lay_28 (by decide) ?_
  refine lv_iload_n hx hb dX8_lay_12 rfl (lv_at hl 0 rfl) ?_
  refine lv_bipush (v := 30) hx hb dX8_lay_13 (by decide) ?_
  refine lv_icmp_ge (tgt := 31) hx hb dX8_lay_15 (by decide) (fun q => absurd q (by decide)) (fun _ => ?_)
  refine lv_aload_n hx hb dX8_lay_18 rfl (lv_at hl 1 rfl) ?_
  refine va_get (ci := 8) (v := .ref (a 65)) (C := RX8) (T := TX8) (N := 3) hx hb htA in_X8 hown hK hP 0 rfl rfl 2 (by decide) (htA _ wd_299) (fun _ h => h) rfl dX8_lay_19 ?_
  refine lv_iload_n hx hb dX8_lay_22 rfl (lv_at hl 0 rfl) ?_
  refine lv_lconst (v := 0) hx hb dX8_lay_23 (by decide) ?_
  refine va_last hx hb hK hP hD hS 1 2 rfl rfl (in_lit (by decide)) dX8_lay_24 (fun H locs hP hD hS => ?_)
  rw [fa_upd_sameL (f := fun _ => 0) (i := (22 : Int32).toNatClampNeg) (x := 0) (by first | decide | rfl)] at hP hD
  have hP : va_P D vwCl [((a 61), .inr (8, [.int v1_, .int v2_, .ref (a 65)])), ((a 65), .inl (cy 2, 30, .inr (.inl (fun _ => 0))))] H := hP
  have hD : va_D A [((a 61), .inr (8, [.int v1_, .int v2_, .ref (a 65)])), ((a 65), .inl (cy 2, 30, .inr (.inl (fun _ => 0))))] := hD
  refine lv_iinc (v := 23) (lv' := [(3, .int 23), (0, .ref (a 61)), (1, .int v1_), (2, .int v2_)]) hx hb dX8_lay_25 hl (k := 0) rfl (by decide) (by decide) rfl (fun ls hl => ?_)
  refine lv_goto (tgt := 12) hx hb dX8_lay_28 (by decide) ?_
  refine lv_iload_n hx hb dX8_lay_12 rfl (lv_at hl 0 rfl) ?_
  refine lv_bipush (v := 30) hx hb dX8_lay_13 (by decide) ?_
  refine lv_icmp_ge (tgt := 31) hx hb dX8_lay_15 (by decide) (fun q => absurd q (by decide)) (fun _ => ?_)
  refine lv_aload_n hx hb dX8_lay_18 rfl (lv_at hl 1 rfl) ?_
  refine va_get (ci := 8) (v := .ref (a 65)) (C := RX8) (T := TX8) (N := 3) hx hb htA in_X8 hown hK hP 0 rfl rfl 2 (by decide) (htA _ wd_299) (fun _ h => h) rfl dX8_lay_19 ?_
  refine lv_iload_n hx hb dX8_lay_22 rfl (lv_at hl 0 rfl) ?_
  refine lv_lconst (v := 0) hx hb dX8_lay_23 (by decide) ?_
  refine va_last hx hb hK hP hD hS 1 2 rfl rfl (in_lit (by decide)) dX8_lay_24 (fun H locs hP hD hS => ?_)
  rw [fa_upd_sameL (f := fun _ => 0) (i := (23 : Int32).toNatClampNeg) (x := 0) (by first | decide | rfl)] at hP hD
  have hP : va_P D vwCl [((a 61), .inr (8, [.int v1_, .int v2_, .ref (a 65)])), ((a 65), .inl (cy 2, 30, .inr (.inl (fun _ => 0))))] H := hP
  have hD : va_D A [((a 61), .inr (8, [.int v1_, .int v2_, .ref (a 65)])), ((a 65), .inl (cy 2, 30, .inr (.inl (fun _ => 0))))] := hD
  refine lv_iinc (v := 24) (lv' := [(3, .int 24), (0, .ref (a 61)), (1, .int v1_), (2, .int v2_)]) hx hb dX8_lay_25 hl (k := 0) rfl (by decide) (by decide) rfl (fun ls hl => ?_)
  refine lv_goto (tgt := 12) hx hb dX8_lay_28 (by decide) ?_
  refine lv_iload_n hx hb dX8_lay_12 rfl (lv_at hl 0 rfl) ?_
  refine lv_bipush (v := 30) hx hb dX8_lay_13 (by decide) ?_
  refine lv_icmp_ge (tgt := 31) hx hb dX8_lay_15 (by decide) (fun q => absurd q (by decide)) (fun _ => ?_)
  refine lv_aload_n hx hb dX8_lay_18 rfl (lv_at hl 1 rfl) ?_
  refine va_get (ci := 8) (v := .ref (a 65)) (C := RX8) (T := TX8) (N := 3) hx hb htA in_X8 hown hK hP 0 rfl rfl 2 (by decide) (htA _ wd_299) (fun _ h => h) rfl dX8_lay_19 ?_
  refine lv_iload_n hx hb dX8_lay_22 rfl (lv_at hl 0 rfl) ?_
  refine lv_lconst (v := 0) hx hb dX8_lay_23 (by decide) ?_
  refine va_last hx hb hK hP hD hS 1 2 rfl rfl (in_lit (by decide)) dX8_lay_24 (fun H locs hP hD hS => ?_)
  rw [fa_upd_sameL (f := fun _ => 0) (i := (24 : Int32).toNatClampNeg) (x := 0) (by first | decide | rfl)] at hP hD
  have hP : va_P D vwCl [((a 61), .inr (8, [.int v1_, .int v2_, .ref (a 65)])), ((a 65), .inl (cy 2, 30, .inr (.inl (fun _ => 0))))] H := hP
  have hD : va_D A [((a 61), .inr (8, [.int v1_, .int v2_, .ref (a 65)])), ((a 65), .inl (cy 2, 30, .inr (.inl (fun _ => 0))))] := hD
  refine lv_iinc (v := 25) (lv' := [(3, .int 25), (0, .ref (a 61)), (1, .int v1_), (2, .int v2_)]) hx hb dX8_lay_25 hl (k := 0) rfl (by decide) (by decide) rfl (fun ls hl => ?_)
  refine lv_goto (tgt := 12) hx hb dX8_lay_28 (by decide) ?_
  refine lv_iload_n hx hb dX8_lay_12 rfl (lv_at hl 0 rfl) ?_
  refine lv_bipush (v := 30) hx hb dX8_lay_13 (by decide) ?_
  refine lv_icmp_ge (tgt := 31) hx hb dX8_lay_15 (by decide) (fun q => absurd q (by decide)) (fun _ => ?_)
  refine lv_aload_n hx hb dX8_lay_18 rfl (lv_at hl 1 rfl) ?_
  refine va_get (ci := 8) (v := .ref (a 65)) (C := RX8) (T := TX8) (N := 3) hx hb htA in_X8 hown hK hP 0 rfl rfl 2 (by decide) (htA _ wd_299) (fun _ h => h) rfl dX8_lay_19 ?_
  refine lv_iload_n hx hb dX8_lay_22 rfl (lv_at hl 0 rfl) ?_
  refine lv_lconst (v := 0) hx hb dX8_lay_23 (by decide) ?_
  refine va_last hx hb hK hP hD hS 1 2 rfl rfl (in_lit (by decide)) dX8_lay_24 (fun H locs hP hD hS => ?_)
  rw [fa_upd_sameL (f := fun _ => 0) (i := (25 : Int32).toNatClampNeg) (x := 0) (by first | decide | rfl)] at hP hD
  have hP : va_P D vwCl [((a 61), .inr (8, [.int v1_, .int v2_, .ref (a 65)])), ((a 65), .inl (cy 2, 30, .inr (.inl (fun _ => 0))))] H := hP
  have hD : va_D A [((a 61), .inr (8, [.int v1_, .int v2_, .ref (a 65)])), ((a 65), .inl (cy 2, 30, .inr (.inl (fun _ => 0))))] := hD
  refine lv_iinc (v := 26) (lv' := [(3, .int 26), (0, .ref (a 61)), (1, .int v1_), (2, .int v2_)]) hx hb dX8_lay_25 hl (k := 0) rfl (by decide) (by decide) rfl (fun ls hl => ?_)
  refine lv_goto (tgt := 12) hx hb dX8_lay_28 (by decide) ?_
  refine lv_iload_n hx hb dX8_lay_12 rfl (lv_at hl 0 rfl) ?_
  refine lv_bipush (v := 30) hx hb dX8_lay_13 (by decide) ?_
  refine lv_icmp_ge (tgt := 31) hx hb dX8_lay_15 (by decide) (fun q => absurd q (by decide)) (fun _ => ?_)
  refine lv_aload_n hx hb dX8_lay_18 rfl (lv_at hl 1 rfl) ?_
  refine va_get (ci := 8) (v := .ref (a 65)) (C := RX8) (T := TX8) (N := 3) hx hb htA in_X8 hown hK hP 0 rfl rfl 2 (by decide) (htA _ wd_299) (fun _ h => h) rfl dX8_lay_19 ?_
  refine lv_iload_n hx hb dX8_lay_22 rfl (lv_at hl 0 rfl) ?_
  refine lv_lconst (v := 0) hx hb dX8_lay_23 (by decide) ?_
  refine va_last hx hb hK hP hD hS 1 2 rfl rfl (in_lit (by decide)) dX8_lay_24 (fun H locs hP hD hS => ?_)
  rw [fa_upd_sameL (f := fun _ => 0) (i := (26 : Int32).toNatClampNeg) (x := 0) (by first | decide | rfl)] at hP hD
  have hP : va_P D vwCl [((a 61), .inr (8, [.int v1_, .int v2_, .ref (a 65)])), ((a 65), .inl (cy 2, 30, .inr (.inl (fun _ => 0))))] H := hP
  have hD : va_D A [((a 61), .inr (8, [.int v1_, .int v2_, .ref (a 65)])), ((a 65), .inl (cy 2, 30, .inr (.inl (fun _ => 0))))] := hD
  refine lv_iinc (v := 27) (lv' := [(3, .int 27), (0, .ref (a 61)), (1, .int v1_), (2, .int v2_)]) hx hb dX8_lay_25 hl (k := 0) rfl (by decide) (by decide) rfl (fun ls hl => ?_)
  refine lv_goto (tgt := 12) hx hb dX8_lay_28 (by decide) ?_
  refine lv_iload_n hx hb dX8_lay_12 rfl (lv_at hl 0 rfl) ?_
  refine lv_bipush (v := 30) hx hb dX8_lay_13 (by decide) ?_
  refine lv_icmp_ge (tgt := 31) hx hb dX8_lay_15 (by decide) (fun q => absurd q (by decide)) (fun _ => ?_)
  refine lv_aload_n hx hb dX8_lay_18 rfl (lv_at hl 1 rfl) ?_
  refine va_get (ci := 8) (v := .ref (a 65)) (C := RX8) (T := TX8) (N := 3) hx hb htA in_X8 hown hK hP 0 rfl rfl 2 (by decide) (htA _ wd_299) (fun _ h => h) rfl dX8_lay_19 ?_
  refine lv_iload_n hx hb dX8_lay_22 rfl (lv_at hl 0 rfl) ?_
  refine lv_lconst (v := 0) hx hb dX8_lay_23 (by decide) ?_
  refine va_last hx hb hK hP hD hS 1 2 rfl rfl (in_lit (by decide)) dX8_lay_24 (fun H locs hP hD hS => ?_)
  rw [fa_upd_sameL (f := fun _ => 0) (i := (27 : Int32).toNatClampNeg) (x := 0) (by first | decide | rfl)] at hP hD
  have hP : va_P D vwCl [((a 61), .inr (8, [.int v1_, .int v2_, .ref (a 65)])), ((a 65), .inl (cy 2, 30, .inr (.inl (fun _ => 0))))] H := hP
  have hD : va_D A [((a 61), .inr (8, [.int v1_, .int v2_, .ref (a 65)])), ((a 65), .inl (cy 2, 30, .inr (.inl (fun _ => 0))))] := hD
  refine lv_iinc (v := 28) (lv' := [(3, .int 28), (0, .ref (a 61)), (1, .int v1_), (2, .int v2_)]) hx hb dX8_lay_25 hl (k := 0) rfl (by decide) (by decide) rfl (fun ls hl => ?_)
  refine lv_goto (tgt := 12) hx hb dX8_lay_28 (by decide) ?_
  refine lv_iload_n hx hb dX8_lay_12 rfl (lv_at hl 0 rfl) ?_
  refine lv_bipush (v := 30) hx hb dX8_lay_13 (by decide) ?_
  refine lv_icmp_ge (tgt := 31) hx hb dX8_lay_15 (by decide) (fun q => absurd q (by decide)) (fun _ => ?_)
  refine lv_aload_n hx hb dX8_lay_18 rfl (lv_at hl 1 rfl) ?_
  refine va_get (ci := 8) (v := .ref (a 65)) (C := RX8) (T := TX8) (N := 3) hx hb htA in_X8 hown hK hP 0 rfl rfl 2 (by decide) (htA _ wd_299) (fun _ h => h) rfl dX8_lay_19 ?_
  refine lv_iload_n hx hb dX8_lay_22 rfl (lv_at hl 0 rfl) ?_
  refine lv_lconst (v := 0) hx hb dX8_lay_23 (by decide) ?_
  refine va_last hx hb hK hP hD hS 1 2 rfl rfl (in_lit (by decide)) dX8_lay_24 (fun H locs hP hD hS => ?_)
  rw [fa_upd_sameL (f := fun _ => 0) (i := (28 : Int32).toNatClampNeg) (x := 0) (by first | decide | rfl)] at hP hD
  have hP : va_P D vwCl [((a 61), .inr (8, [.int v1_, .int v2_, .ref (a 65)])), ((a 65), .inl (cy 2, 30, .inr (.inl (fun _ => 0))))] H := hP
  have hD : va_D A [((a 61), .inr (8, [.int v1_, .int v2_, .ref (a 65)])), ((a 65), .inl (cy 2, 30, .inr (.inl (fun _ => 0))))] := hD
  refine lv_iinc (v := 29) (lv' := [(3, .int 29), (0, .ref (a 61)), (1, .int v1_), (2, .int v2_)]) hx hb dX8_lay_25 hl (k := 0) rfl (by decide) (by decide) rfl (fun ls hl => ?_)
  refine lv_goto (tgt := 12) hx hb dX8_lay_28 (by decide) ?_
  refine lv_iload_n hx hb dX8_lay_12 rfl (lv_at hl 0 rfl) ?_
  refine lv_bipush (v := 30) hx hb dX8_lay_13 (by decide) ?_
  refine lv_icmp_ge (tgt := 31) hx hb dX8_lay_15 (by decide) (fun q => absurd q (by decide)) (fun _ => ?_)
  refine lv_aload_n hx hb dX8_lay_18 rfl (lv_at hl 1 rfl) ?_
  refine va_get (ci := 8) (v := .ref (a 65)) (C := RX8) (T := TX8) (N := 3) hx hb htA in_X8 hown hK hP 0 rfl rfl 2 (by decide) (htA _ wd_299) (fun _ h => h) rfl dX8_lay_19 ?_
  refine lv_iload_n hx hb dX8_lay_22 rfl (lv_at hl 0 rfl) ?_
  refine lv_lconst (v := 0) hx hb dX8_lay_23 (by decide) ?_
  refine va_last hx hb hK hP hD hS 1 2 rfl rfl (in_lit (by decide)) dX8_lay_24 (fun H locs hP hD hS => ?_)
  rw [fa_upd_sameL (f := fun _ => 0) (i := (29 : Int32).toNatClampNeg) (x := 0) (by first | decide | rfl)] at hP hD
  have hP : va_P D vwCl [((a 61), .inr (8, [.int v1_, .int v2_, .ref (a 65)])), ((a 65), .inl (cy 2, 30, .inr (.inl (fun _ => 0))))] H := hP
  have hD : va_D A [((a 61), .inr (8, [.int v1_, .int v2_, .ref (a 65)])), ((a 65), .inl (cy 2, 30, .inr (.inl (fun _ => 0))))] := hD
  refine lv_iinc (v := 30) (lv' := [(3, .int 30), (0, .ref (a 61)), (1, .int v1_), (2, .int v2_)]) hx hb dX8_lay_25 hl (k := 0) rfl (by decide) (by decide) rfl (fun ls hl => ?_)
  refine lv_goto (tgt := 12) hx hb dX8_lay_28 (by decide) ?_
  refine lv_iload_n hx hb dX8_lay_12 rfl (lv_at hl 0 rfl) ?_
  refine lv_bipush (v := 30) hx hb dX8_lay_13 (by decide) ?_
  refine lv_icmp_ge (tgt := 31) hx hb dX8_lay_15 (by decide) (fun _ => ?_) (fun q => absurd (by decide) q)
  exact rV hX hE hP hD hS dX8_lay_31 (by decide) (by decide) (rfl)
set_option maxHeartbeats 4000000 in
set_option maxRecDepth 100000 in
theorem au_X8_lay_41 (l : Launch) (D : va_G) (cy : Nat → ClassId) (a : Nat → Nat) (v1_ : Int32) (v2_ : Int32) : Cv l yX8_lay cX8_lay 4 none { frames := 0, cells := 0, slots := 0, locals := 0 } D cy [.ref (a 62), .int v1_, .int v2_] [((a 62), .inr (8, [.int (-1), .int 0, .ref (a 66)])), ((a 66), .inl (cy 2, 30, .inr (.inl (fun _ => 0))))] (fun W1 => (W1 = [((a 62), .inr (8, [.int v1_, .int v2_, .ref (a 66)])), ((a 66), .inl (cy 2, 30, .inr (.inl (fun _ => 0))))])) := by
  refine Cv.of (by decide) (Nat.le_of_ble_eq_true rfl) ?_
  intro p e s m below meth c A ls hX hE hP hD hl hin
  obtain ⟨hx, hb, hr, hml, hown, htA, hlk⟩ := id hX
  have hK := hE.1
  have hS : va_S A s.heap s.heap [] := va_S.rf
  have hl : lv_has ls 4 [(0, .ref (a 62)), (1, .int v1_), (2, .int v2_)] := hl
  refine lv_aload_n hx hb dX8_lay_0 rfl (lv_at hl 0 rfl) ?_
  refine lv_iload_n hx hb dX8_lay_1 rfl (lv_at hl 1 rfl) ?_
  refine va_put (ci := 8) (v := .int v1_) (ty := .int) (C := RX8) (T := TX8) (N := 3) hx hb htA in_X8 tyX8 tyX8_ok nmX8 hown hK hP hD hS 0 rfl rfl 0 (by decide) (htA _ wd_295) (fun _ h => h) rfl (by decide +kernel) rfl rfl (Nat.le_of_ble_eq_true rfl) dX8_lay_2 (fun H locs hP hD hS => ?_)
  have hP : va_P D vwCl [((a 62), .inr (8, [.int v1_, .int 0, .ref (a 66)])), ((a 66), .inl (cy 2, 30, .inr (.inl (fun _ => 0))))] H := hP
  have hD : va_D A [((a 62), .inr (8, [.int v1_, .int 0, .ref (a 66)])), ((a 66), .inl (cy 2, 30, .inr (.inl (fun _ => 0))))] := hD
  refine lv_aload_n hx hb dX8_lay_5 rfl (lv_at hl 0 rfl) ?_
  refine lv_iload_n hx hb dX8_lay_6 rfl (lv_at hl 2 rfl) ?_
  refine va_put (ci := 8) (v := .int v2_) (ty := .int) (C := RX8) (T := TX8) (N := 3) hx hb htA in_X8 tyX8 tyX8_ok nmX8 hown hK hP hD hS 0 rfl rfl 1 (by decide) (htA _ wd_297) (fun _ h => h) rfl (by decide +kernel) rfl rfl (Nat.le_of_ble_eq_true rfl) dX8_lay_7 (fun H locs hP hD hS => ?_)
  have hP : va_P D vwCl [((a 62), .inr (8, [.int v1_, .int v2_, .ref (a 66)])), ((a 66), .inl (cy 2, 30, .inr (.inl (fun _ => 0))))] H := hP
  have hD : va_D A [((a 62), .inr (8, [.int v1_, .int v2_, .ref (a 66)])), ((a 66), .inl (cy 2, 30, .inr (.inl (fun _ => 0))))] := hD
  refine lv_iconst (v := 0) hx hb dX8_lay_10 (by decide) ?_
  refine lv_istore_n (lv' := [(3, .int 0), (0, .ref (a 62)), (1, .int v1_), (2, .int v2_)]) hx hb dX8_lay_11 rfl hl (by decide) rfl (fun ls hl => ?_)
  refine lv_iload_n hx hb dX8_lay_12 rfl (lv_at hl 0 rfl) ?_
  refine lv_bipush (v := 30) hx hb dX8_lay_13 (by decide) ?_
  refine lv_icmp_ge (tgt := 31) hx hb dX8_lay_15 (by decide) (fun q => absurd q (by decide)) (fun _ => ?_)
  refine lv_aload_n hx hb dX8_lay_18 rfl (lv_at hl 1 rfl) ?_
  refine va_get (ci := 8) (v := .ref (a 66)) (C := RX8) (T := TX8) (N := 3) hx hb htA in_X8 hown hK hP 0 rfl rfl 2 (by decide) (htA _ wd_299) (fun _ h => h) rfl dX8_lay_19 ?_
  refine lv_iload_n hx hb dX8_lay_22 rfl (lv_at hl 0 rfl) ?_
  refine lv_lconst (v := 0) hx hb dX8_lay_23 (by decide) ?_
  refine va_last hx hb hK hP hD hS 1 2 rfl rfl (in_lit (by decide)) dX8_lay_24 (fun H locs hP hD hS => ?_)
  rw [fa_upd_sameL (f := fun _ => 0) (i := (0 : Int32).toNatClampNeg) (x := 0) (by first | decide | rfl)] at hP hD
  have hP : va_P D vwCl [((a 62), .inr (8, [.int v1_, .int v2_, .ref (a 66)])), ((a 66), .inl (cy 2, 30, .inr (.inl (fun _ => 0))))] H := hP
  have hD : va_D A [((a 62), .inr (8, [.int v1_, .int v2_, .ref (a 66)])), ((a 66), .inl (cy 2, 30, .inr (.inl (fun _ => 0))))] := hD
  refine lv_iinc (v := 1) (lv' := [(3, .int 1), (0, .ref (a 62)), (1, .int v1_), (2, .int v2_)]) hx hb dX8_lay_25 hl (k := 0) rfl (by decide) (by decide) rfl (fun ls hl => ?_)
  refine lv_goto (tgt := 12) hx hb dX8_lay_28 (by decide) ?_
  refine lv_iload_n hx hb dX8_lay_12 rfl (lv_at hl 0 rfl) ?_
  refine lv_bipush (v := 30) hx hb dX8_lay_13 (by decide) ?_
  refine lv_icmp_ge (tgt := 31) hx hb dX8_lay_15 (by decide) (fun q => absurd q (by decide)) (fun _ => ?_)
  refine lv_aload_n hx hb dX8_lay_18 rfl (lv_at hl 1 rfl) ?_
  refine va_get (ci := 8) (v := .ref (a 66)) (C := RX8) (T := TX8) (N := 3) hx hb htA in_X8 hown hK hP 0 rfl rfl 2 (by decide) (htA _ wd_299) (fun _ h => h) rfl dX8_lay_19 ?_
  refine lv_iload_n hx hb dX8_lay_22 rfl (lv_at hl 0 rfl) ?_
  refine lv_lconst (v := 0) hx hb dX8_lay_23 (by decide) ?_
  refine va_last hx hb hK hP hD hS 1 2 rfl rfl (in_lit (by decide)) dX8_lay_24 (fun H locs hP hD hS => ?_)
  rw [fa_upd_sameL (f := fun _ => 0) (i := (1 : Int32).toNatClampNeg) (x := 0) (by first | decide | rfl)] at hP hD
  have hP : va_P D vwCl [((a 62), .inr (8, [.int v1_, .int v2_, .ref (a 66)])), ((a 66), .inl (cy 2, 30, .inr (.inl (fun _ => 0))))] H := hP
  have hD : va_D A [((a 62), .inr (8, [.int v1_, .int v2_, .ref (a 66)])), ((a 66), .inl (cy 2, 30, .inr (.inl (fun _ => 0))))] := hD
  refine lv_iinc (v := 2) (lv' := [(3, .int 2), (0, .ref (a 62)), (1, .int v1_), (2, .int v2_)]) hx hb dX8_lay_25 hl (k := 0) rfl (by decide) (by decide) rfl (fun ls hl => ?_)
  refine lv_goto (tgt := 12) hx hb dX8_lay_28 (by decide) ?_
  refine lv_iload_n hx hb dX8_lay_12 rfl (lv_at hl 0 rfl) ?_
  refine lv_bipush (v := 30) hx hb dX8_lay_13 (by decide) ?_
  refine lv_icmp_ge (tgt := 31) hx hb dX8_lay_15 (by decide) (fun q => absurd q (by decide)) (fun _ => ?_)
  refine lv_aload_n hx hb dX8_lay_18 rfl (lv_at hl 1 rfl) ?_
  refine va_get (ci := 8) (v := .ref (a 66)) (C := RX8) (T := TX8) (N := 3) hx hb htA in_X8 hown hK hP 0 rfl rfl 2 (by decide) (htA _ wd_299) (fun _ h => h) rfl dX8_lay_19 ?_
  refine lv_iload_n hx hb dX8_lay_22 rfl (lv_at hl 0 rfl) ?_
  refine lv_lconst (v := 0) hx hb dX8_lay_23 (by decide) ?_
  refine va_last hx hb hK hP hD hS 1 2 rfl rfl (in_lit (by decide)) dX8_lay_24 (fun H locs hP hD hS => ?_)
  rw [fa_upd_sameL (f := fun _ => 0) (i := (2 : Int32).toNatClampNeg) (x := 0) (by first | decide | rfl)] at hP hD
  have hP : va_P D vwCl [((a 62), .inr (8, [.int v1_, .int v2_, .ref (a 66)])), ((a 66), .inl (cy 2, 30, .inr (.inl (fun _ => 0))))] H := hP
  have hD : va_D A [((a 62), .inr (8, [.int v1_, .int v2_, .ref (a 66)])), ((a 66), .inl (cy 2, 30, .inr (.inl (fun _ => 0))))] := hD
  refine lv_iinc (v := 3) (lv' := [(3, .int 3), (0, .ref (a 62)), (1, .int v1_), (2, .int v2_)]) hx hb dX8_lay_25 hl (k := 0) rfl (by decide) (by decide) rfl (fun ls hl => ?_)
  refine lv_goto (tgt := 12) hx hb dX8_lay_28 (by decide) ?_
  refine lv_iload_n hx hb dX8_lay_12 rfl (lv_at hl 0 rfl) ?_
  refine lv_bipush (v := 30) hx hb dX8_lay_13 (by decide) ?_
  refine lv_icmp_ge (tgt := 31) hx hb dX8_lay_15 (by decide) (fun q => absurd q (by decide)) (fun _ => ?_)
  refine lv_aload_n hx hb dX8_lay_18 rfl (lv_at hl 1 rfl) ?_
  refine va_get (ci := 8) (v := .ref (a 66)) (C := RX8) (T := TX8) (N := 3) hx hb htA in_X8 hown hK hP 0 rfl rfl 2 (by decide) (htA _ wd_299) (fun _ h => h) rfl dX8_lay_19 ?_
  refine lv_iload_n hx hb dX8_lay_22 rfl (lv_at hl 0 rfl) ?_
  refine lv_lconst (v := 0) hx hb dX8_lay_23 (by decide) ?_
  refine va_last hx hb hK hP hD hS 1 2 rfl rfl (in_lit (by decide)) dX8_lay_24 (fun H locs hP hD hS => ?_)
  rw [fa_upd_sameL (f := fun _ => 0) (i := (3 : Int32).toNatClampNeg) (x := 0) (by first | decide | rfl)] at hP hD
  have hP : va_P D vwCl [((a 62), .inr (8, [.int v1_, .int v2_, .ref (a 66)])), ((a 66), .inl (cy 2, 30, .inr (.inl (fun _ => 0))))] H := hP
  have hD : va_D A [((a 62), .inr (8, [.int v1_, .int v2_, .ref (a 66)])), ((a 66), .inl (cy 2, 30, .inr (.inl (fun _ => 0))))] := hD
  refine lv_iinc (v := 4) (lv' := [(3, .int 4), (0, .ref (a 62)), (1, .int v1_), (2, .int v2_)]) hx hb dX8_lay_25 hl (k := 0) rfl (by decide) (by decide) rfl (fun ls hl => ?_)
  refine lv_goto (tgt := 12) hx hb dX8_lay_28 (by decide) ?_
  refine lv_iload_n hx hb dX8_lay_12 rfl (lv_at hl 0 rfl) ?_
  refine lv_bipush (v := 30) hx hb dX8_lay_13 (by decide) ?_
  refine lv_icmp_ge (tgt := 31) hx hb dX8_lay_15 (by decide) (fun q => absurd q (by decide)) (fun _ => ?_)
  refine lv_aload_n hx hb dX8_lay_18 rfl (lv_at hl 1 rfl) ?_
  refine va_get (ci := 8) (v := .ref (a 66)) (C := RX8) (T := TX8) (N := 3) hx hb htA in_X8 hown hK hP 0 rfl rfl 2 (by decide) (htA _ wd_299) (fun _ h => h) rfl dX8_lay_19 ?_
  refine lv_iload_n hx hb dX8_lay_22 rfl (lv_at hl 0 rfl) ?_
  refine lv_lconst (v := 0) hx hb dX8_lay_23 (by decide) ?_
  refine va_last hx hb hK hP hD hS 1 2 rfl rfl (in_lit (by decide)) dX8_lay_24 (fun H locs hP hD hS => ?_)
  rw [fa_upd_sameL (f := fun _ => 0) (i := (4 : Int32).toNatClampNeg) (x := 0) (by first | decide | rfl)] at hP hD
  have hP : va_P D vwCl [((a 62), .inr (8, [.int v1_, .int v2_, .ref (a 66)])), ((a 66), .inl (cy 2, 30, .inr (.inl (fun _ => 0))))] H := hP
  have hD : va_D A [((a 62), .inr (8, [.int v1_, .int v2_, .ref (a 66)])), ((a 66), .inl (cy 2, 30, .inr (.inl (fun _ => 0))))] := hD
  refine lv_iinc (v := 5) (lv' := [(3, .int 5), (0, .ref (a 62)), (1, .int v1_), (2, .int v2_)]) hx hb dX8_lay_25 hl (k := 0) rfl (by decide) (by decide) rfl (fun ls hl => ?_)
  refine lv_goto (tgt := 12) hx hb dX8_lay_28 (by decide) ?_
  refine lv_iload_n hx hb dX8_lay_12 rfl (lv_at hl 0 rfl) ?_
  refine lv_bipush (v := 30) hx hb dX8_lay_13 (by decide) ?_
  refine lv_icmp_ge (tgt := 31) hx hb dX8_lay_15 (by decide) (fun q => absurd q (by decide)) (fun _ => ?_)
  refine lv_aload_n hx hb dX8_lay_18 rfl (lv_at hl 1 rfl) ?_
  refine va_get (ci := 8) (v := .ref (a 66)) (C := RX8) (T := TX8) (N := 3) hx hb htA in_X8 hown hK hP 0 rfl rfl 2 (by decide) (htA _ wd_299) (fun _ h => h) rfl dX8_lay_19 ?_
  refine lv_iload_n hx hb dX8_lay_22 rfl (lv_at hl 0 rfl) ?_
  refine lv_lconst (v := 0) hx hb dX8_lay_23 (by decide) ?_
  refine va_last hx hb hK hP hD hS 1 2 rfl rfl (in_lit (by decide)) dX8_lay_24 (fun H locs hP hD hS => ?_)
  rw [fa_upd_sameL (f := fun _ => 0) (i := (5 : Int32).toNatClampNeg) (x := 0) (by first | decide | rfl)] at hP hD
  have hP : va_P D vwCl [((a 62), .inr (8, [.int v1_, .int v2_, .ref (a 66)])), ((a 66), .inl (cy 2, 30, .inr (.inl (fun _ => 0))))] H := hP
  have hD : va_D A [((a 62), .inr (8, [.int v1_, .int v2_, .ref (a 66)])), ((a 66), .inl (cy 2, 30, .inr (.inl (fun _ => 0))))] := hD
  refine lv_iinc (v := 6) (lv' := [(3, .int 6), (0, .ref (a 62)), (1, .int v1_), (2, .int v2_)]) hx hb dX8_lay_25 hl (k := 0) rfl (by decide) (by decide) rfl (fun ls hl => ?_)
  refine lv_goto (tgt := 12) hx hb dX8_lay_28 (by decide) ?_
  refine lv_iload_n hx hb dX8_lay_12 rfl (lv_at hl 0 rfl) ?_
  refine lv_bipush (v := 30) hx hb dX8_lay_13 (by decide) ?_
  refine lv_icmp_ge (tgt := 31) hx hb dX8_lay_15 (by decide) (fun q => absurd q (by decide)) (fun _ => ?_)
  refine lv_aload_n hx hb dX8_lay_18 rfl (lv_at hl 1 rfl) ?_
  refine va_get (ci := 8) (v := .ref (a 66)) (C := RX8) (T := TX8) (N := 3) hx hb htA in_X8 hown hK hP 0 rfl rfl 2 (by decide) (htA _ wd_299) (fun _ h => h) rfl dX8_lay_19 ?_
  refine lv_iload_n hx hb dX8_lay_22 rfl (lv_at hl 0 rfl) ?_
  refine lv_lconst (v := 0) hx hb dX8_lay_23 (by decide) ?_
  refine va_last hx hb hK hP hD hS 1 2 rfl rfl (in_lit (by decide)) dX8_lay_24 (fun H locs hP hD hS => ?_)
  rw [fa_upd_sameL (f := fun _ => 0) (i := (6 : Int32).toNatClampNeg) (x := 0) (by first | decide | rfl)] at hP hD
  have hP : va_P D vwCl [((a 62), .inr (8, [.int v1_, .int v2_, .ref (a 66)])), ((a 66), .inl (cy 2, 30, .inr (.inl (fun _ => 0))))] H := hP
  have hD : va_D A [((a 62), .inr (8, [.int v1_, .int v2_, .ref (a 66)])), ((a 66), .inl (cy 2, 30, .inr (.inl (fun _ => 0))))] := hD
  refine lv_iinc (v := 7) (lv' := [(3, .int 7), (0, .ref (a 62)), (1, .int v1_), (2, .int v2_)]) hx hb dX8_lay_25 hl (k := 0) rfl (by decide) (by decide) rfl (fun ls hl => ?_)
  refine lv_goto (tgt := 12) hx hb dX8_lay_28 (by decide) ?_
  refine lv_iload_n hx hb dX8_lay_12 rfl (lv_at hl 0 rfl) ?_
  refine lv_bipush (v := 30) hx hb dX8_lay_13 (by decide) ?_
  refine lv_icmp_ge (tgt := 31) hx hb dX8_lay_15 (by decide) (fun q => absurd q (by decide)) (fun _ => ?_)
  refine lv_aload_n hx hb dX8_lay_18 rfl (lv_at hl 1 rfl) ?_
  refine va_get (ci := 8) (v := .ref (a 66)) (C := RX8) (T := TX8) (N := 3) hx hb htA in_X8 hown hK hP 0 rfl rfl 2 (by decide) (htA _ wd_299) (fun _ h => h) rfl dX8_lay_19 ?_
  refine lv_iload_n hx hb dX8_lay_22 rfl (lv_at hl 0 rfl) ?_
  refine lv_lconst (v := 0) hx hb dX8_lay_23 (by decide) ?_
  refine va_last hx hb hK hP hD hS 1 2 rfl rfl (in_lit (by decide)) dX8_lay_24 (fun H locs hP hD hS => ?_)
  rw [fa_upd_sameL (f := fun _ => 0) (i := (7 : Int32).toNatClampNeg) (x := 0) (by first | decide | rfl)] at hP hD
  have hP : va_P D vwCl [((a 62), .inr (8, [.int v1_, .int v2_, .ref (a 66)])), ((a 66), .inl (cy 2, 30, .inr (.inl (fun _ => 0))))] H := hP
  have hD : va_D A [((a 62), .inr (8, [.int v1_, .int v2_, .ref (a 66)])), ((a 66), .inl (cy 2, 30, .inr (.inl (fun _ => 0))))] := hD
  refine lv_iinc (v := 8) (lv' := [(3, .int 8), (0, .ref (a 62)), (1, .int v1_), (2, .int v2_)]) hx hb dX8_lay_25 hl (k := 0) rfl (by decide) (by decide) rfl (fun ls hl => ?_)
  refine lv_goto (tgt := 12) hx hb dX8_lay_28 (by decide) ?_
  refine lv_iload_n hx hb dX8_lay_12 rfl (lv_at hl 0 rfl) ?_
  refine lv_bipush (v := 30) hx hb dX8_lay_13 (by decide) ?_
  refine lv_icmp_ge (tgt := 31) hx hb dX8_lay_15 (by decide) (fun q => absurd q (by decide)) (fun _ => ?_)
  refine lv_aload_n hx hb dX8_lay_18 rfl (lv_at hl 1 rfl) ?_
  refine va_get (ci := 8) (v := .ref (a 66)) (C := RX8) (T := TX8) (N := 3) hx hb htA in_X8 hown hK hP 0 rfl rfl 2 (by decide) (htA _ wd_299) (fun _ h => h) rfl dX8_lay_19 ?_
  refine lv_iload_n hx hb dX8_lay_22 rfl (lv_at hl 0 rfl) ?_
  refine lv_lconst (v := 0) hx hb dX8_lay_23 (by decide) ?_
  refine va_last hx hb hK hP hD hS 1 2 rfl rfl (in_lit (by decide)) dX8_lay_24 (fun H locs hP hD hS => ?_)
  rw [fa_upd_sameL (f := fun _ => 0) (i := (8 : Int32).toNatClampNeg) (x := 0) (by first | decide | rfl)] at hP hD
  have hP : va_P D vwCl [((a 62), .inr (8, [.int v1_, .int v2_, .ref (a 66)])), ((a 66), .inl (cy 2, 30, .inr (.inl (fun _ => 0))))] H := hP
  have hD : va_D A [((a 62), .inr (8, [.int v1_, .int v2_, .ref (a 66)])), ((a 66), .inl (cy 2, 30, .inr (.inl (fun _ => 0))))] := hD
  refine lv_iinc (v := 9) (lv' := [(3, .int 9), (0, .ref (a 62)), (1, .int v1_), (2, .int v2_)]) hx hb dX8_lay_25 hl (k := 0) rfl (by decide) (by decide) rfl (fun ls hl => ?_)
  refine lv_goto (tgt := 12) hx hb dX8_lay_28 (by decide) ?_
  refine lv_iload_n hx hb dX8_lay_12 rfl (lv_at hl 0 rfl) ?_
  refine lv_bipush (v := 30) hx hb dX8_lay_13 (by decide) ?_
  refine lv_icmp_ge (tgt := 31) hx hb dX8_lay_15 (by decide) (fun q => absurd q (by decide)) (fun _ => ?_)
  refine lv_aload_n hx hb dX8_lay_18 rfl (lv_at hl 1 rfl) ?_
  refine va_get (ci := 8) (v := .ref (a 66)) (C := RX8) (T := TX8) (N := 3) hx hb htA in_X8 hown hK hP 0 rfl rfl 2 (by decide) (htA _ wd_299) (fun _ h => h) rfl dX8_lay_19 ?_
  refine lv_iload_n hx hb dX8_lay_22 rfl (lv_at hl 0 rfl) ?_
  refine lv_lconst (v := 0) hx hb dX8_lay_23 (by decide) ?_
  refine va_last hx hb hK hP hD hS 1 2 rfl rfl (in_lit (by decide)) dX8_lay_24 (fun H locs hP hD hS => ?_)
  rw [fa_upd_sameL (f := fun _ => 0) (i := (9 : Int32).toNatClampNeg) (x := 0) (by first | decide | rfl)] at hP hD
  have hP : va_P D vwCl [((a 62), .inr (8, [.int v1_, .int v2_, .ref (a 66)])), ((a 66), .inl (cy 2, 30, .inr (.inl (fun _ => 0))))] H := hP
  have hD : va_D A [((a 62), .inr (8, [.int v1_, .int v2_, .ref (a 66)])), ((a 66), .inl (cy 2, 30, .inr (.inl (fun _ => 0))))] := hD
  refine lv_iinc (v := 10) (lv' := [(3, .int 10), (0, .ref (a 62)), (1, .int v1_), (2, .int v2_)]) hx hb dX8_lay_25 hl (k := 0) rfl (by decide) (by decide) rfl (fun ls hl => ?_)
  refine lv_goto (tgt := 12) hx hb dX8_lay_28 (by decide) ?_
  refine lv_iload_n hx hb dX8_lay_12 rfl (lv_at hl 0 rfl) ?_
  refine lv_bipush (v := 30) hx hb dX8_lay_13 (by decide) ?_
  refine lv_icmp_ge (tgt := 31) hx hb dX8_lay_15 (by decide) (fun q => absurd q (by decide)) (fun _ => ?_)
  refine lv_aload_n hx hb dX8_lay_18 rfl (lv_at hl 1 rfl) ?_
  refine va_get (ci := 8) (v := .ref (a 66)) (C := RX8) (T := TX8) (N := 3) hx hb htA in_X8 hown hK hP 0 rfl rfl 2 (by decide) (htA _ wd_299) (fun _ h => h) rfl dX8_lay_19 ?_
  refine lv_iload_n hx hb dX8_lay_22 rfl (lv_at hl 0 rfl) ?_
  refine lv_lconst (v := 0) hx hb dX8_lay_23 (by decide) ?_
  refine va_last hx hb hK hP hD hS 1 2 rfl rfl (in_lit (by decide)) dX8_lay_24 (fun H locs hP hD hS => ?_)
  rw [fa_upd_sameL (f := fun _ => 0) (i := (10 : Int32).toNatClampNeg) (x := 0) (by first | decide | rfl)] at hP hD
  have hP : va_P D vwCl [((a 62), .inr (8, [.int v1_, .int v2_, .ref (a 66)])), ((a 66), .inl (cy 2, 30, .inr (.inl (fun _ => 0))))] H := hP
  have hD : va_D A [((a 62), .inr (8, [.int v1_, .int v2_, .ref (a 66)])), ((a 66), .inl (cy 2, 30, .inr (.inl (fun _ => 0))))] := hD
  refine lv_iinc (v := 11) (lv' := [(3, .int 11), (0, .ref (a 62)), (1, .int v1_), (2, .int v2_)]) hx hb dX8_lay_25 hl (k := 0) rfl (by decide) (by decide) rfl (fun ls hl => ?_)
  refine lv_goto (tgt := 12) hx hb dX8_lay_28 (by decide) ?_
  refine lv_iload_n hx hb dX8_lay_12 rfl (lv_at hl 0 rfl) ?_
  refine lv_bipush (v := 30) hx hb dX8_lay_13 (by decide) ?_
  refine lv_icmp_ge (tgt := 31) hx hb dX8_lay_15 (by decide) (fun q => absurd q (by decide)) (fun _ => ?_)
  refine lv_aload_n hx hb dX8_lay_18 rfl (lv_at hl 1 rfl) ?_
  refine va_get (ci := 8) (v := .ref (a 66)) (C := RX8) (T := TX8) (N := 3) hx hb htA in_X8 hown hK hP 0 rfl rfl 2 (by decide) (htA _ wd_299) (fun _ h => h) rfl dX8_lay_19 ?_
  refine lv_iload_n hx hb dX8_lay_22 rfl (lv_at hl 0 rfl) ?_
  refine lv_lconst (v := 0) hx hb dX8_lay_23 (by decide) ?_
  refine va_last hx hb hK hP hD hS 1 2 rfl rfl (in_lit (by decide)) dX8_lay_24 (fun H locs hP hD hS => ?_)
  rw [fa_upd_sameL (f := fun _ => 0) (i := (11 : Int32).toNatClampNeg) (x := 0) (by first | decide | rfl)] at hP hD
  have hP : va_P D vwCl [((a 62), .inr (8, [.int v1_, .int v2_, .ref (a 66)])), ((a 66), .inl (cy 2, 30, .inr (.inl (fun _ => 0))))] H := hP
  have hD : va_D A [((a 62), .inr (8, [.int v1_, .int v2_, .ref (a 66)])), ((a 66), .inl (cy 2, 30, .inr (.inl (fun _ => 0))))] := hD
  refine lv_iinc (v := 12) (lv' := [(3, .int 12), (0, .ref (a 62)), (1, .int v1_), (2, .int v2_)]) hx hb dX8_lay_25 hl (k := 0) rfl (by decide) (by decide) rfl (fun ls hl => ?_)
  refine lv_goto (tgt := 12) hx hb dX8_lay_28 (by decide) ?_
  refine lv_iload_n hx hb dX8_lay_12 rfl (lv_at hl 0 rfl) ?_
  refine lv_bipush (v := 30) hx hb dX8_lay_13 (by decide) ?_
  refine lv_icmp_ge (tgt := 31) hx hb dX8_lay_15 (by decide) (fun q => absurd q (by decide)) (fun _ => ?_)
  refine lv_aload_n hx hb dX8_lay_18 rfl (lv_at hl 1 rfl) ?_
  refine va_get (ci := 8) (v := .ref (a 66)) (C := RX8) (T := TX8) (N := 3) hx hb htA in_X8 hown hK hP 0 rfl rfl 2 (by decide) (htA _ wd_299) (fun _ h => h) rfl dX8_lay_19 ?_
  refine lv_iload_n hx hb dX8_lay_22 rfl (lv_at hl 0 rfl) ?_
  refine lv_lconst (v := 0) hx hb dX8_lay_23 (by decide) ?_
  refine va_last hx hb hK hP hD hS 1 2 rfl rfl (in_lit (by decide)) dX8_lay_24 (fun H locs hP hD hS => ?_)
  rw [fa_upd_sameL (f := fun _ => 0) (i := (12 : Int32).toNatClampNeg) (x := 0) (by first | decide | rfl)] at hP hD
  have hP : va_P D vwCl [((a 62), .inr (8, [.int v1_, .int v2_, .ref (a 66)])), ((a 66), .inl (cy 2, 30, .inr (.inl (fun _ => 0))))] H := hP
  have hD : va_D A [((a 62), .inr (8, [.int v1_, .int v2_, .ref (a 66)])), ((a 66), .inl (cy 2, 30, .inr (.inl (fun _ => 0))))] := hD
  refine lv_iinc (v := 13) (lv' := [(3, .int 13), (0, .ref (a 62)), (1, .int v1_), (2, .int v2_)]) hx hb dX8_lay_25 hl (k := 0) rfl (by decide) (by decide) rfl (fun ls hl => ?_)
  refine lv_goto (tgt := 12) hx hb dX8_lay_28 (by decide) ?_
  refine lv_iload_n hx hb dX8_lay_12 rfl (lv_at hl 0 rfl) ?_
  refine lv_bipush (v := 30) hx hb dX8_lay_13 (by decide) ?_
  refine lv_icmp_ge (tgt := 31) hx hb dX8_lay_15 (by decide) (fun q => absurd q (by decide)) (fun _ => ?_)
  refine lv_aload_n hx hb dX8_lay_18 rfl (lv_at hl 1 rfl) ?_
  refine va_get (ci := 8) (v := .ref (a 66)) (C := RX8) (T := TX8) (N := 3) hx hb htA in_X8 hown hK hP 0 rfl rfl 2 (by decide) (htA _ wd_299) (fun _ h => h) rfl dX8_lay_19 ?_
  refine lv_iload_n hx hb dX8_lay_22 rfl (lv_at hl 0 rfl) ?_
  refine lv_lconst (v := 0) hx hb dX8_lay_23 (by decide) ?_
  refine va_last hx hb hK hP hD hS 1 2 rfl rfl (in_lit (by decide)) dX8_lay_24 (fun H locs hP hD hS => ?_)
  rw [fa_upd_sameL (f := fun _ => 0) (i := (13 : Int32).toNatClampNeg) (x := 0) (by first | decide | rfl)] at hP hD
  have hP : va_P D vwCl [((a 62), .inr (8, [.int v1_, .int v2_, .ref (a 66)])), ((a 66), .inl (cy 2, 30, .inr (.inl (fun _ => 0))))] H := hP
  have hD : va_D A [((a 62), .inr (8, [.int v1_, .int v2_, .ref (a 66)])), ((a 66), .inl (cy 2, 30, .inr (.inl (fun _ => 0))))] := hD
  refine lv_iinc (v := 14) (lv' := [(3, .int 14), (0, .ref (a 62)), (1, .int v1_), (2, .int v2_)]) hx hb dX8_lay_25 hl (k := 0) rfl (by decide) (by decide) rfl (fun ls hl => ?_)
  refine lv_goto (tgt := 12) hx hb dX8_lay_28 (by decide) ?_
  refine lv_iload_n hx hb dX8_lay_12 rfl (lv_at hl 0 rfl) ?_
  refine lv_bipush (v := 30) hx hb dX8_lay_13 (by decide) ?_
  refine lv_icmp_ge (tgt := 31) hx hb dX8_lay_15 (by decide) (fun q => absurd q (by decide)) (fun _ => ?_)
  refine lv_aload_n hx hb dX8_lay_18 rfl (lv_at hl 1 rfl) ?_
  refine va_get (ci := 8) (v := .ref (a 66)) (C := RX8) (T := TX8) (N := 3) hx hb htA in_X8 hown hK hP 0 rfl rfl 2 (by decide) (htA _ wd_299) (fun _ h => h) rfl dX8_lay_19 ?_
  refine lv_iload_n hx hb dX8_lay_22 rfl (lv_at hl 0 rfl) ?_
  refine lv_lconst (v := 0) hx hb dX8_lay_23 (by decide) ?_
  refine va_last hx hb hK hP hD hS 1 2 rfl rfl (in_lit (by decide)) dX8_lay_24 (fun H locs hP hD hS => ?_)
  rw [fa_upd_sameL (f := fun _ => 0) (i := (14 : Int32).toNatClampNeg) (x := 0) (by first | decide | rfl)] at hP hD
  have hP : va_P D vwCl [((a 62), .inr (8, [.int v1_, .int v2_, .ref (a 66)])), ((a 66), .inl (cy 2, 30, .inr (.inl (fun _ => 0))))] H := hP
  have hD : va_D A [((a 62), .inr (8, [.int v1_, .int v2_, .ref (a 66)])), ((a 66), .inl (cy 2, 30, .inr (.inl (fun _ => 0))))] := hD
  refine lv_iinc (v := 15) (lv' := [(3, .int 15), (0, .ref (a 62)), (1, .int v1_), (2, .int v2_)]) hx hb dX8_lay_25 hl (k := 0) rfl (by decide) (by decide) rfl (fun ls hl => ?_)
  refine lv_goto (tgt := 12) hx hb dX8_lay_28 (by decide) ?_
  refine lv_iload_n hx hb dX8_lay_12 rfl (lv_at hl 0 rfl) ?_
  refine lv_bipush (v := 30) hx hb dX8_lay_13 (by decide) ?_
  refine lv_icmp_ge (tgt := 31) hx hb dX8_lay_15 (by decide) (fun q => absurd q (by decide)) (fun _ => ?_)
  refine lv_aload_n hx hb dX8_lay_18 rfl (lv_at hl 1 rfl) ?_
  refine va_get (ci := 8) (v := .ref (a 66)) (C := RX8) (T := TX8) (N := 3) hx hb htA in_X8 hown hK hP 0 rfl rfl 2 (by decide) (htA _ wd_299) (fun _ h => h) rfl dX8_lay_19 ?_
  refine lv_iload_n hx hb dX8_lay_22 rfl (lv_at hl 0 rfl) ?_
  refine lv_lconst (v := 0) hx hb dX8_lay_23 (by decide) ?_
  refine va_last hx hb hK hP hD hS 1 2 rfl rfl (in_lit (by decide)) dX8_lay_24 (fun H locs hP hD hS => ?_)
  rw [fa_upd_sameL (f := fun _ => 0) (i := (15 : Int32).toNatClampNeg) (x := 0) (by first | decide | rfl)] at hP hD
  have hP : va_P D vwCl [((a 62), .inr (8, [.int v1_, .int v2_, .ref (a 66)])), ((a 66), .inl (cy 2, 30, .inr (.inl (fun _ => 0))))] H := hP
  have hD : va_D A [((a 62), .inr (8, [.int v1_, .int v2_, .ref (a 66)])), ((a 66), .inl (cy 2, 30, .inr (.inl (fun _ => 0))))] := hD
  refine lv_iinc (v := 16) (lv' := [(3, .int 16), (0, .ref (a 62)), (1, .int v1_), (2, .int v2_)]) hx hb dX8_lay_25 hl (k := 0) rfl (by decide) (by decide) rfl (fun ls hl => ?_)
  refine lv_goto (tgt := 12) hx hb dX8_lay_28 (by decide) ?_
  refine lv_iload_n hx hb dX8_lay_12 rfl (lv_at hl 0 rfl) ?_
  refine lv_bipush (v := 30) hx hb dX8_lay_13 (by decide) ?_
  refine lv_icmp_ge (tgt := 31) hx hb dX8_lay_15 (by decide) (fun q => absurd q (by decide)) (fun _ => ?_)
  refine lv_aload_n hx hb dX8_lay_18 rfl (lv_at hl 1 rfl) ?_
  refine va_get (ci := 8) (v := .ref (a 66)) (C := RX8) (T := TX8) (N := 3) hx hb htA in_X8 hown hK hP 0 rfl rfl 2 (by decide) (htA _ wd_299) (fun _ h => h) rfl dX8_lay_19 ?_
  refine lv_iload_n hx hb dX8_lay_22 rfl (lv_at hl 0 rfl) ?_
  refine lv_lconst (v := 0) hx hb dX8_lay_23 (by decide) ?_
  refine va_last hx hb hK hP hD hS 1 2 rfl rfl (in_lit (by decide)) dX8_lay_24 (fun H locs hP hD hS => ?_)
  rw [fa_upd_sameL (f := fun _ => 0) (i := (16 : Int32).toNatClampNeg) (x := 0) (by first | decide | rfl)] at hP hD
  have hP : va_P D vwCl [((a 62), .inr (8, [.int v1_, .int v2_, .ref (a 66)])), ((a 66), .inl (cy 2, 30, .inr (.inl (fun _ => 0))))] H := hP
  have hD : va_D A [((a 62), .inr (8, [.int v1_, .int v2_, .ref (a 66)])), ((a 66), .inl (cy 2, 30, .inr (.inl (fun _ => 0))))] := hD
  refine lv_iinc (v := 17) (lv' := [(3, .int 17), (0, .ref (a 62)), (1, .int v1_), (2, .int v2_)]) hx hb dX8_lay_25 hl (k := 0) rfl (by decide) (by decide) rfl (fun ls hl => ?_)
  refine lv_goto (tgt := 12) hx hb dX8_lay_28 (by decide) ?_
  refine lv_iload_n hx hb dX8_lay_12 rfl (lv_at hl 0 rfl) ?_
  refine lv_bipush (v := 30) hx hb dX8_lay_13 (by decide) ?_
  refine lv_icmp_ge (tgt := 31) hx hb dX8_lay_15 (by decide) (fun q => absurd q (by decide)) (fun _ => ?_)
  refine lv_aload_n hx hb dX8_lay_18 rfl (lv_at hl 1 rfl) ?_
  refine va_get (ci := 8) (v := .ref (a 66)) (C := RX8) (T := TX8) (N := 3) hx hb htA in_X8 hown hK hP 0 rfl rfl 2 (by decide) (htA _ wd_299) (fun _ h => h) rfl dX8_lay_19 ?_
  refine lv_iload_n hx hb dX8_lay_22 rfl (lv_at hl 0 rfl) ?_
  refine lv_lconst (v := 0) hx hb dX8_lay_23 (by decide) ?_
  refine va_last hx hb hK hP hD hS 1 2 rfl rfl (in_lit (by decide)) dX8_lay_24 (fun H locs hP hD hS => ?_)
  rw [fa_upd_sameL (f := fun _ => 0) (i := (17 : Int32).toNatClampNeg) (x := 0) (by first | decide | rfl)] at hP hD
  have hP : va_P D vwCl [((a 62), .inr (8, [.int v1_, .int v2_, .ref (a 66)])), ((a 66), .inl (cy 2, 30, .inr (.inl (fun _ => 0))))] H := hP
  have hD : va_D A [((a 62), .inr (8, [.int v1_, .int v2_, .ref (a 66)])), ((a 66), .inl (cy 2, 30, .inr (.inl (fun _ => 0))))] := hD
  refine lv_iinc (v := 18) (lv' := [(3, .int 18), (0, .ref (a 62)), (1, .int v1_), (2, .int v2_)]) hx hb dX8_lay_25 hl (k := 0) rfl (by decide) (by decide) rfl (fun ls hl => ?_)
  refine lv_goto (tgt := 12) hx hb dX8_lay_28 (by decide) ?_
  refine lv_iload_n hx hb dX8_lay_12 rfl (lv_at hl 0 rfl) ?_
  refine lv_bipush (v := 30) hx hb dX8_lay_13 (by decide) ?_
  refine lv_icmp_ge (tgt := 31) hx hb dX8_lay_15 (by decide) (fun q => absurd q (by decide)) (fun _ => ?_)
  refine lv_aload_n hx hb dX8_lay_18 rfl (lv_at hl 1 rfl) ?_
  refine va_get (ci := 8) (v := .ref (a 66)) (C := RX8) (T := TX8) (N := 3) hx hb htA in_X8 hown hK hP 0 rfl rfl 2 (by decide) (htA _ wd_299) (fun _ h => h) rfl dX8_lay_19 ?_
  refine lv_iload_n hx hb dX8_lay_22 rfl (lv_at hl 0 rfl) ?_
  refine lv_lconst (v := 0) hx hb dX8_lay_23 (by decide) ?_
  refine va_last hx hb hK hP hD hS 1 2 rfl rfl (in_lit (by decide)) dX8_lay_24 (fun H locs hP hD hS => ?_)
  rw [fa_upd_sameL (f := fun _ => 0) (i := (18 : Int32).toNatClampNeg) (x := 0) (by first | decide | rfl)] at hP hD
  have hP : va_P D vwCl [((a 62), .inr (8, [.int v1_, .int v2_, .ref (a 66)])), ((a 66), .inl (cy 2, 30, .inr (.inl (fun _ => 0))))] H := hP
  have hD : va_D A [((a 62), .inr (8, [.int v1_, .int v2_, .ref (a 66)])), ((a 66), .inl (cy 2, 30, .inr (.inl (fun _ => 0))))] := hD
  refine lv_iinc (v := 19) (lv' := [(3, .int 19), (0, .ref (a 62)), (1, .int v1_), (2, .int v2_)]) hx hb dX8_lay_25 hl (k := 0) rfl (by decide) (by decide) rfl (fun ls hl => ?_)
  refine lv_goto (tgt := 12) hx hb dX8_lay_28 (by decide) ?_
  refine lv_iload_n hx hb dX8_lay_12 rfl (lv_at hl 0 rfl) ?_
  refine lv_bipush (v := 30) hx hb dX8_lay_13 (by decide) ?_
  refine lv_icmp_ge (tgt := 31) hx hb dX8_lay_15 (by decide) (fun q => absurd q (by decide)) (fun _ => ?_)
  refine lv_aload_n hx hb dX8_lay_18 rfl (lv_at hl 1 rfl) ?_
  refine va_get (ci := 8) (v := .ref (a 66)) (C := RX8) (T := TX8) (N := 3) hx hb htA in_X8 hown hK hP 0 rfl rfl 2 (by decide) (htA _ wd_299) (fun _ h => h) rfl dX8_lay_19 ?_
  refine lv_iload_n hx hb dX8_lay_22 rfl (lv_at hl 0 rfl) ?_
  refine lv_lconst (v := 0) hx hb dX8_lay_23 (by decide) ?_
  refine va_last hx hb hK hP hD hS 1 2 rfl rfl (in_lit (by decide)) dX8_lay_24 (fun H locs hP hD hS => ?_)
  rw [fa_upd_sameL (f := fun _ => 0) (i := (19 : Int32).toNatClampNeg) (x := 0) (by first | decide | rfl)] at hP hD
  have hP : va_P D vwCl [((a 62), .inr (8, [.int v1_, .int v2_, .ref (a 66)])), ((a 66), .inl (cy 2, 30, .inr (.inl (fun _ => 0))))] H := hP
  have hD : va_D A [((a 62), .inr (8, [.int v1_, .int v2_, .ref (a 66)])), ((a 66), .inl (cy 2, 30, .inr (.inl (fun _ => 0))))] := hD
  refine lv_iinc (v := 20) (lv' := [(3, .int 20), (0, .ref (a 62)), (1, .int v1_), (2, .int v2_)]) hx hb dX8_lay_25 hl (k := 0) rfl (by decide) (by decide) rfl (fun ls hl => ?_)
  refine lv_goto (tgt := 12) hx hb dX8_lay_28 (by decide) ?_
  refine lv_iload_n hx hb dX8_lay_12 rfl (lv_at hl 0 rfl) ?_
  refine lv_bipush (v := 30) hx hb dX8_lay_13 (by decide) ?_
  refine lv_icmp_ge (tgt := 31) hx hb dX8_lay_15 (by decide) (fun q => absurd q (by decide)) (fun _ => ?_)
  refine lv_aload_n hx hb dX8_lay_18 rfl (lv_at hl 1 rfl) ?_
  refine va_get (ci := 8) (v := .ref (a 66)) (C := RX8) (T := TX8) (N := 3) hx hb htA in_X8 hown hK hP 0 rfl rfl 2 (by decide) (htA _ wd_299) (fun _ h => h) rfl dX8_lay_19 ?_
  refine lv_iload_n hx hb dX8_lay_22 rfl (lv_at hl 0 rfl) ?_
  refine lv_lconst (v := 0) hx hb dX8_lay_23 (by decide) ?_
  refine va_last hx hb hK hP hD hS 1 2 rfl rfl (in_lit (by decide)) dX8_lay_24 (fun H locs hP hD hS => ?_)
  rw [fa_upd_sameL (f := fun _ => 0) (i := (20 : Int32).toNatClampNeg) (x := 0) (by first | decide | rfl)] at hP hD
  have hP : va_P D vwCl [((a 62), .inr (8, [.int v1_, .int v2_, .ref (a 66)])), ((a 66), .inl (cy 2, 30, .inr (.inl (fun _ => 0))))] H := hP
  have hD : va_D A [((a 62), .inr (8, [.int v1_, .int v2_, .ref (a 66)])), ((a 66), .inl (cy 2, 30, .inr (.inl (fun _ => 0))))] := hD
  refine lv_iinc (v := 21) (lv' := [(3, .int 21), (0, .ref (a 62)), (1, .int v1_), (2, .int v2_)]) hx hb dX8_lay_25 hl (k := 0) rfl (by decide) (by decide) rfl (fun ls hl => ?_)
  refine lv_goto (tgt := 12) hx hb dX8_lay_28 (by decide) ?_
  refine lv_iload_n hx hb dX8_lay_12 rfl (lv_at hl 0 rfl) ?_
  refine lv_bipush (v := 30) hx hb dX8_lay_13 (by decide) ?_
  refine lv_icmp_ge (tgt := 31) hx hb dX8_lay_15 (by decide) (fun q => absurd q (by decide)) (fun _ => ?_)
  refine lv_aload_n hx hb dX8_lay_18 rfl (lv_at hl 1 rfl) ?_
  refine va_get (ci := 8) (v := .ref (a 66)) (C := RX8) (T := TX8) (N := 3) hx hb htA in_X8 hown hK hP 0 rfl rfl 2 (by decide) (htA _ wd_299) (fun _ h => h) rfl dX8_lay_19 ?_
  refine lv_iload_n hx hb dX8_lay_22 rfl (lv_at hl 0 rfl) ?_
  refine lv_lconst (v := 0) hx hb dX8_lay_23 (by decide) ?_
  refine va_last hx hb hK hP hD hS 1 2 rfl rfl (in_lit (by decide)) dX8_lay_24 (fun H locs hP hD hS => ?_)
  rw [fa_upd_sameL (f := fun _ => 0) (i := (21 : Int32).toNatClampNeg) (x := 0) (by first | decide | rfl)] at hP hD
  have hP : va_P D vwCl [((a 62), .inr (8, [.int v1_, .int v2_, .ref (a 66)])), ((a 66), .inl (cy 2, 30, .inr (.inl (fun _ => 0))))] H := hP
  have hD : va_D A [((a 62), .inr (8, [.int v1_, .int v2_, .ref (a 66)])), ((a 66), .inl (cy 2, 30, .inr (.inl (fun _ => 0))))] := hD
  refine lv_iinc (v := 22) (lv' := [(3, .int 22), (0, .ref (a 62)), (1, .int v1_), (2, .int v2_)]) hx hb dX8_lay_25 hl (k := 0) rfl (by decide) (by decide) rfl (fun ls hl => ?_)
  refine lv_goto (tgt := 12) hx hb dX8_lay_28 (by decide) ?_
  refine lv_iload_n hx hb dX8_lay_12 rfl (lv_at hl 0 rfl) ?_
  refine lv_bipush (v := 30) hx hb dX8_lay_13 (by decide) ?_
  refine lv_icmp_ge (tgt := 31) hx hb dX8_lay_15 (by decide) (fun q => absurd q (by decide)) (fun _ => ?_)
  refine lv_aload_n hx hb dX8_lay_18 rfl (lv_at hl 1 rfl) ?_
  refine va_get (ci := 8) (v := .ref (a 66)) (C := RX8) (T := TX8) (N := 3) hx hb htA in_X8 hown hK hP 0 rfl rfl 2 (by decide) (htA _ wd_299) (fun _ h => h) rfl dX8_lay_19 ?_
  refine lv_iload_n hx hb dX8_lay_22 rfl (lv_at hl 0 rfl) ?_
  refine lv_lconst (v := 0) hx hb dX8_lay_23 (by decide) ?_
  refine va_last hx hb hK hP hD hS 1 2 rfl rfl (in_lit (by decide)) dX8_lay_24 (fun H locs hP hD hS => ?_)
  rw [fa_upd_sameL (f := fun _ => 0) (i := (22 : Int32).toNatClampNeg) (x := 0) (by first | decide | rfl)] at hP hD
  have hP : va_P D vwCl [((a 62), .inr (8, [.int v1_, .int v2_, .ref (a 66)])), ((a 66), .inl (cy 2, 30, .inr (.inl (fun _ => 0))))] H := hP
  have hD : va_D A [((a 62), .inr (8, [.int v1_, .int v2_, .ref (a 66)])), ((a 66), .inl (cy 2, 30, .inr (.inl (fun _ => 0))))] := hD
  refine lv_iinc (v := 23) (lv' := [(3, .int 23), (0, .ref (a 62)), (1, .int v1_), (2, .int v2_)]) hx hb dX8_lay_25 hl (k := 0) rfl (by decide) (by decide) rfl (fun ls hl => ?_)
  refine lv_goto (tgt := 12) hx hb dX8_lay_28 (by decide) ?_
  refine lv_iload_n hx hb dX8_lay_12 rfl (lv_at hl 0 rfl) ?_
  refine lv_bipush (v := 30) hx hb dX8_lay_13 (by decide) ?_
  refine lv_icmp_ge (tgt := 31) hx hb dX8_lay_15 (by decide) (fun q => absurd q (by decide)) (fun _ => ?_)
  refine lv_aload_n hx hb dX8_lay_18 rfl (lv_at hl 1 rfl) ?_
  refine va_get (ci := 8) (v := .ref (a 66)) (C := RX8) (T := TX8) (N := 3) hx hb htA in_X8 hown hK hP 0 rfl rfl 2 (by decide) (htA _ wd_299) (fun _ h => h) rfl dX8_lay_19 ?_
  refine lv_iload_n hx hb dX8_lay_22 rfl (lv_at hl 0 rfl) ?_
  refine lv_lconst (v := 0) hx hb dX8_lay_23 (by decide) ?_
  refine va_last hx hb hK hP hD hS 1 2 rfl rfl (in_lit (by decide)) dX8_lay_24 (fun H locs hP hD hS => ?_)
  rw [fa_upd_sameL (f := fun _ => 0) (i := (23 : Int32).toNatClampNeg) (x := 0) (by first | decide | rfl)] at hP hD
  have hP : va_P D vwCl [((a 62), .inr (8, [.int v1_, .int v2_, .ref (a 66)])), ((a 66), .inl (cy 2, 30, .inr (.inl (fun _ => 0))))] H := hP
  have hD : va_D A [((a 62), .inr (8, [.int v1_, .int v2_, .ref (a 66)])), ((a 66), .inl (cy 2, 30, .inr (.inl (fun _ => 0))))] := hD
  refine lv_iinc (v := 24) (lv' := [(3, .int 24), (0, .ref (a 62)), (1, .int v1_), (2, .int v2_)]) hx hb dX8_lay_25 hl (k := 0) rfl (by decide) (by decide) rfl (fun ls hl => ?_)
  refine lv_goto (tgt := 12) hx hb dX8_lay_28 (by decide) ?_
  refine lv_iload_n hx hb dX8_lay_12 rfl (lv_at hl 0 rfl) ?_
  refine lv_bipush (v := 30) hx hb dX8_lay_13 (by decide) ?_
  refine lv_icmp_ge (tgt := 31) hx hb dX8_lay_15 (by decide) (fun q => absurd q (by decide)) (fun _ => ?_)
  refine lv_aload_n hx hb dX8_lay_18 rfl (lv_at hl 1 rfl) ?_
  refine va_get (ci := 8) (v := .ref (a 66)) (C := RX8) (T := TX8) (N := 3) hx hb htA in_X8 hown hK hP 0 rfl rfl 2 (by decide) (htA _ wd_299) (fun _ h => h) rfl dX8_lay_19 ?_
  refine lv_iload_n hx hb dX8_lay_22 rfl (lv_at hl 0 rfl) ?_
  refine lv_lconst (v := 0) hx hb dX8_lay_23 (by decide) ?_
  refine va_last hx hb hK hP hD hS 1 2 rfl rfl (in_lit (by decide)) dX8_lay_24 (fun H locs hP hD hS => ?_)
  rw [fa_upd_sameL (f := fun _ => 0) (i := (24 : Int32).toNatClampNeg) (x := 0) (by first | decide | rfl)] at hP hD
  have hP : va_P D vwCl [((a 62), .inr (8, [.int v1_, .int v2_, .ref (a 66)])), ((a 66), .inl (cy 2, 30, .inr (.inl (fun _ => 0))))] H := hP
  have hD : va_D A [((a 62), .inr (8, [.int v1_, .int v2_, .ref (a 66)])), ((a 66), .inl (cy 2, 30, .inr (.inl (fun _ => 0))))] := hD
  refine lv_iinc (v := 25) (lv' := [(3, .int 25), (0, .ref (a 62)), (1, .int v1_), (2, .int v2_)]) hx hb dX8_lay_25 hl (k := 0) rfl (by decide) (by decide) rfl (fun ls hl => ?_)
  refine lv_goto (tgt := 12) hx hb dX8_lay_28 (by decide) ?_
  refine lv_iload_n hx hb dX8_lay_12 rfl (lv_at hl 0 rfl) ?_
  refine lv_bipush (v := 30) hx hb dX8_lay_13 (by decide) ?_
  refine lv_icmp_ge (tgt := 31) hx hb dX8_lay_15 (by decide) (fun q => absurd q (by decide)) (fun _ => ?_)
  refine lv_aload_n hx hb dX8_lay_18 rfl (lv_at hl 1 rfl) ?_
  refine va_get (ci := 8) (v := .ref (a 66)) (C := RX8) (T := TX8) (N := 3) hx hb htA in_X8 hown hK hP 0 rfl rfl 2 (by decide) (htA _ wd_299) (fun _ h => h) rfl dX8_lay_19 ?_
  refine lv_iload_n hx hb dX8_lay_22 rfl (lv_at hl 0 rfl) ?_
  refine lv_lconst (v := 0) hx hb dX8_lay_23 (by decide) ?_
  refine va_last hx hb hK hP hD hS 1 2 rfl rfl (in_lit (by decide)) dX8_lay_24 (fun H locs hP hD hS => ?_)
  rw [fa_upd_sameL (f := fun _ => 0) (i := (25 : Int32).toNatClampNeg) (x := 0) (by first | decide | rfl)] at hP hD
  have hP : va_P D vwCl [((a 62), .inr (8, [.int v1_, .int v2_, .ref (a 66)])), ((a 66), .inl (cy 2, 30, .inr (.inl (fun _ => 0))))] H := hP
  have hD : va_D A [((a 62), .inr (8, [.int v1_, .int v2_, .ref (a 66)])), ((a 66), .inl (cy 2, 30, .inr (.inl (fun _ => 0))))] := hD
  refine lv_iinc (v := 26) (lv' := [(3, .int 26), (0, .ref (a 62)), (1, .int v1_), (2, .int v2_)]) hx hb dX8_lay_25 hl (k := 0) rfl (by decide) (by decide) rfl (fun ls hl => ?_)
  refine lv_goto (tgt := 12) hx hb dX8_lay_28 (by decide) ?_
  refine lv_iload_n hx hb dX8_lay_12 rfl (lv_at hl 0 rfl) ?_
  refine lv_bipush (v := 30) hx hb dX8_lay_13 (by decide) ?_
  refine lv_icmp_ge (tgt := 31) hx hb dX8_lay_15 (by decide) (fun q => absurd q (by decide)) (fun _ => ?_)
  refine lv_aload_n hx hb dX8_lay_18 rfl (lv_at hl 1 rfl) ?_
  refine va_get (ci := 8) (v := .ref (a 66)) (C := RX8) (T := TX8) (N := 3) hx hb htA in_X8 hown hK hP 0 rfl rfl 2 (by decide) (htA _ wd_299) (fun _ h => h) rfl dX8_lay_19 ?_
  refine lv_iload_n hx hb dX8_lay_22 rfl (lv_at hl 0 rfl) ?_
  refine lv_lconst (v := 0) hx hb dX8_lay_23 (by decide) ?_
  refine va_last hx hb hK hP hD hS 1 2 rfl rfl (in_lit (by decide)) dX8_lay_24 (fun H locs hP hD hS => ?_)
  rw [fa_upd_sameL (f := fun _ => 0) (i := (26 : Int32).toNatClampNeg) (x := 0) (by first | decide | rfl)] at hP hD
  have hP : va_P D vwCl [((a 62), .inr (8, [.int v1_, .int v2_, .ref (a 66)])), ((a 66), .inl (cy 2, 30, .inr (.inl (fun _ => 0))))] H := hP
  have hD : va_D A [((a 62), .inr (8, [.int v1_, .int v2_, .ref (a 66)])), ((a 66), .inl (cy 2, 30, .inr (.inl (fun _ => 0))))] := hD
  refine lv_iinc (v := 27) (lv' := [(3, .int 27), (0, .ref (a 62)), (1, .int v1_), (2, .int v2_)]) hx hb dX8_lay_25 hl (k := 0) rfl (by decide) (by decide) rfl (fun ls hl => ?_)
  refine lv_goto (tgt := 12) hx hb dX8_lay_28 (by decide) ?_
  refine lv_iload_n hx hb dX8_lay_12 rfl (lv_at hl 0 rfl) ?_
  refine lv_bipush (v := 30) hx hb dX8_lay_13 (by decide) ?_
  refine lv_icmp_ge (tgt := 31) hx hb dX8_lay_15 (by decide) (fun q => absurd q (by decide)) (fun _ => ?_)
  refine lv_aload_n hx hb dX8_lay_18 rfl (lv_at hl 1 rfl) ?_
  refine va_get (ci := 8) (v := .ref (a 66)) (C := RX8) (T := TX8) (N := 3) hx hb htA in_X8 hown hK hP 0 rfl rfl 2 (by decide) (htA _ wd_299) (fun _ h => h) rfl dX8_lay_19 ?_
  refine lv_iload_n hx hb dX8_lay_22 rfl (lv_at hl 0 rfl) ?_
  refine lv_lconst (v := 0) hx hb dX8_lay_23 (by decide) ?_
  refine va_last hx hb hK hP hD hS 1 2 rfl rfl (in_lit (by decide)) dX8_lay_24 (fun H locs hP hD hS => ?_)
  rw [fa_upd_sameL (f := fun _ => 0) (i := (27 : Int32).toNatClampNeg) (x := 0) (by first | decide | rfl)] at hP hD
  have hP : va_P D vwCl [((a 62), .inr (8, [.int v1_, .int v2_, .ref (a 66)])), ((a 66), .inl (cy 2, 30, .inr (.inl (fun _ => 0))))] H := hP
  have hD : va_D A [((a 62), .inr (8, [.int v1_, .int v2_, .ref (a 66)])), ((a 66), .inl (cy 2, 30, .inr (.inl (fun _ => 0))))] := hD
  refine lv_iinc (v := 28) (lv' := [(3, .int 28), (0, .ref (a 62)), (1, .int v1_), (2, .int v2_)]) hx hb dX8_lay_25 hl (k := 0) rfl (by decide) (by decide) rfl (fun ls hl => ?_)
  refine lv_goto (tgt := 12) hx hb dX8_lay_28 (by decide) ?_
  refine lv_iload_n hx hb dX8_lay_12 rfl (lv_at hl 0 rfl) ?_
  refine lv_bipush (v := 30) hx hb dX8_lay_13 (by decide) ?_
  refine lv_icmp_ge (tgt := 31) hx hb dX8_lay_15 (by decide) (fun q => absurd q (by decide)) (fun _ => ?_)
  refine lv_aload_n hx hb dX8_lay_18 rfl (lv_at hl 1 rfl) ?_
  refine va_get (ci := 8) (v := .ref (a 66)) (C := RX8) (T := TX8) (N := 3) hx hb htA in_X8 hown hK hP 0 rfl rfl 2 (by decide) (htA _ wd_299) (fun _ h => h) rfl dX8_lay_19 ?_
  refine lv_iload_n hx hb dX8_lay_22 rfl (lv_at hl 0 rfl) ?_
  refine lv_lconst (v := 0) hx hb dX8_lay_23 (by decide) ?_
  refine va_last hx hb hK hP hD hS 1 2 rfl rfl (in_lit (by decide)) dX8_lay_24 (fun H locs hP hD hS => ?_)
  rw [fa_upd_sameL (f := fun _ => 0) (i := (28 : Int32).toNatClampNeg) (x := 0) (by first | decide | rfl)] at hP hD
  have hP : va_P D vwCl [((a 62), .inr (8, [.int v1_, .int v2_, .ref (a 66)])), ((a 66), .inl (cy 2, 30, .inr (.inl (fun _ => 0))))] H := hP
  have hD : va_D A [((a 62), .inr (8, [.int v1_, .int v2_, .ref (a 66)])), ((a 66), .inl (cy 2, 30, .inr (.inl (fun _ => 0))))] := hD
  refine lv_iinc (v := 29) (lv' := [(3, .int 29), (0, .ref (a 62)), (1, .int v1_), (2, .int v2_)]) hx hb dX8_lay_25 hl (k := 0) rfl (by decide) (by decide) rfl (fun ls hl => ?_)
  refine lv_goto (tgt := 12) hx hb dX8_lay_28 (by decide) ?_
  refine lv_iload_n hx hb dX8_lay_12 rfl (lv_at hl 0 rfl) ?_
  refine lv_bipush (v := 30) hx hb dX8_lay_13 (by decide) ?_
  refine lv_icmp_ge (tgt := 31) hx hb dX8_lay_15 (by decide) (fun q => absurd q (by decide)) (fun _ => ?_)
  refine lv_aload_n hx hb dX8_lay_18 rfl (lv_at hl 1 rfl) ?_
  refine va_get (ci := 8) (v := .ref (a 66)) (C := RX8) (T := TX8) (N := 3) hx hb htA in_X8 hown hK hP 0 rfl rfl 2 (by decide) (htA _ wd_299) (fun _ h => h) rfl dX8_lay_19 ?_
  refine lv_iload_n hx hb dX8_lay_22 rfl (lv_at hl 0 rfl) ?_
  refine lv_lconst (v := 0) hx hb dX8_lay_23 (by decide) ?_
  refine va_last hx hb hK hP hD hS 1 2 rfl rfl (in_lit (by decide)) dX8_lay_24 (fun H locs hP hD hS => ?_)
  rw [fa_upd_sameL (f := fun _ => 0) (i := (29 : Int32).toNatClampNeg) (x := 0) (by first | decide | rfl)] at hP hD
  have hP : va_P D vwCl [((a 62), .inr (8, [.int v1_, .int v2_, .ref (a 66)])), ((a 66), .inl (cy 2, 30, .inr (.inl (fun _ => 0))))] H := hP
  have hD : va_D A [((a 62), .inr (8, [.int v1_, .int v2_, .ref (a 66)])), ((a 66), .inl (cy 2, 30, .inr (.inl (fun _ => 0))))] := hD
  refine lv_iinc (v := 30) (lv' := [(3, .int 30), (0, .ref (a 62)), (1, .int v1_), (2, .int v2_)]) hx hb dX8_lay_25 hl (k := 0) rfl (by decide) (by decide) rfl (fun ls hl => ?_)
  refine lv_goto (tgt := 12) hx hb dX8_lay_28 (by decide) ?_
  refine lv_iload_n hx hb dX8_lay_12 rfl (lv_at hl 0 rfl) ?_
  refine lv_bipush (v := 30) hx hb dX8_lay_13 (by decide) ?_
  refine lv_icmp_ge (tgt := 31) hx hb dX8_lay_15 (by decide) (fun _ => ?_) (fun q => absurd (by decide) q)
  exact rV hX hE hP hD hS dX8_lay_31 (by decide) (by decide) (rfl)
set_option maxHeartbeats 4000000 in
set_option maxRecDepth 100000 in
theorem au_X8_lay_42 (l : Launch) (D : va_G) (cy : Nat → ClassId) (a : Nat → Nat) (v1_ : Int32) (v2_ : Int32) : Cv l yX8_lay cX8_lay 4 none { frames := 0, cells := 0, slots := 0, locals := 0 } D cy [.ref (a 63), .int v1_, .int v2_] [((a 63), .inr (8, [.int (-1), .int 0, .ref (a 67)])), ((a 67), .inl (cy 2, 30, .inr (.inl (fun _ => 0))))] (fun W1 => (W1 = [((a 63), .inr (8, [.int v1_, .int v2_, .ref (a 67)])), ((a 67), .inl (cy 2, 30, .inr (.inl (fun _ => 0))))])) := by
  refine Cv.of (by decide) (Nat.le_of_ble_eq_true rfl) ?_
  intro p e s m below meth c A ls hX hE hP hD hl hin
  obtain ⟨hx, hb, hr, hml, hown, htA, hlk⟩ := id hX
  have hK := hE.1
  have hS : va_S A s.heap s.heap [] := va_S.rf
  have hl : lv_has ls 4 [(0, .ref (a 63)), (1, .int v1_), (2, .int v2_)] := hl
  refine lv_aload_n hx hb dX8_lay_0 rfl (lv_at hl 0 rfl) ?_
  refine lv_iload_n hx hb dX8_lay_1 rfl (lv_at hl 1 rfl) ?_
  refine va_put (ci := 8) (v := .int v1_) (ty := .int) (C := RX8) (T := TX8) (N := 3) hx hb htA in_X8 tyX8 tyX8_ok nmX8 hown hK hP hD hS 0 rfl rfl 0 (by decide) (htA _ wd_295) (fun _ h => h) rfl (by decide +kernel) rfl rfl (Nat.le_of_ble_eq_true rfl) dX8_lay_2 (fun H locs hP hD hS => ?_)
  have hP : va_P D vwCl [((a 63), .inr (8, [.int v1_, .int 0, .ref (a 67)])), ((a 67), .inl (cy 2, 30, .inr (.inl (fun _ => 0))))] H := hP
  have hD : va_D A [((a 63), .inr (8, [.int v1_, .int 0, .ref (a 67)])), ((a 67), .inl (cy 2, 30, .inr (.inl (fun _ => 0))))] := hD
  refine lv_aload_n hx hb dX8_lay_5 rfl (lv_at hl 0 rfl) ?_
  refine lv_iload_n hx hb dX8_lay_6 rfl (lv_at hl 2 rfl) ?_
  refine va_put (ci := 8) (v := .int v2_) (ty := .int) (C := RX8) (T := TX8) (N := 3) hx hb htA in_X8 tyX8 tyX8_ok nmX8 hown hK hP hD hS 0 rfl rfl 1 (by decide) (htA _ wd_297) (fun _ h => h) rfl (by decide +kernel) rfl rfl (Nat.le_of_ble_eq_true rfl) dX8_lay_7 (fun H locs hP hD hS => ?_)
  have hP : va_P D vwCl [((a 63), .inr (8, [.int v1_, .int v2_, .ref (a 67)])), ((a 67), .inl (cy 2, 30, .inr (.inl (fun _ => 0))))] H := hP
  have hD : va_D A [((a 63), .inr (8, [.int v1_, .int v2_, .ref (a 67)])), ((a 67), .inl (cy 2, 30, .inr (.inl (fun _ => 0))))] := hD
  refine lv_iconst (v := 0) hx hb dX8_lay_10 (by decide) ?_
  refine lv_istore_n (lv' := [(3, .int 0), (0, .ref (a 63)), (1, .int v1_), (2, .int v2_)]) hx hb dX8_lay_11 rfl hl (by decide) rfl (fun ls hl => ?_)
  refine lv_iload_n hx hb dX8_lay_12 rfl (lv_at hl 0 rfl) ?_
  refine lv_bipush (v := 30) hx hb dX8_lay_13 (by decide) ?_
  refine lv_icmp_ge (tgt := 31) hx hb dX8_lay_15 (by decide) (fun q => absurd q (by decide)) (fun _ => ?_)
  refine lv_aload_n hx hb dX8_lay_18 rfl (lv_at hl 1 rfl) ?_
  refine va_get (ci := 8) (v := .ref (a 67)) (C := RX8) (T := TX8) (N := 3) hx hb htA in_X8 hown hK hP 0 rfl rfl 2 (by decide) (htA _ wd_299) (fun _ h => h) rfl dX8_lay_19 ?_
  refine lv_iload_n hx hb dX8_lay_22 rfl (lv_at hl 0 rfl) ?_
  refine lv_lconst (v := 0) hx hb dX8_lay_23 (by decide) ?_
  refine va_last hx hb hK hP hD hS 1 2 rfl rfl (in_lit (by decide)) dX8_lay_24 (fun H locs hP hD hS => ?_)
  rw [fa_upd_sameL (f := fun _ => 0) (i := (0 : Int32).toNatClampNeg) (x := 0) (by first | decide | rfl)] at hP hD
  have hP : va_P D vwCl [((a 63), .inr (8, [.int v1_, .int v2_, .ref (a 67)])), ((a 67), .inl (cy 2, 30, .inr (.inl (fun _ => 0))))] H := hP
  have hD : va_D A [((a 63), .inr (8, [.int v1_, .int v2_, .ref (a 67)])), ((a 67), .inl (cy 2, 30, .inr (.inl (fun _ => 0))))] := hD
  refine lv_iinc (v := 1) (lv' := [(3, .int 1), (0, .ref (a 63)), (1, .int v1_), (2, .int v2_)]) hx hb dX8_lay_25 hl (k := 0) rfl (by decide) (by decide) rfl (fun ls hl => ?_)
  refine lv_goto (tgt := 12) hx hb dX8_lay_28 (by decide) ?_
  refine lv_iload_n hx hb dX8_lay_12 rfl (lv_at hl 0 rfl) ?_
  refine lv_bipush (v := 30) hx hb dX8_lay_13 (by decide) ?_
  refine lv_icmp_ge (tgt := 31) hx hb dX8_lay_15 (by decide) (fun q => absurd q (by decide)) (fun _ => ?_)
  refine lv_aload_n hx hb dX8_lay_18 rfl (lv_at hl 1 rfl) ?_
  refine va_get (ci := 8) (v := .ref (a 67)) (C := RX8) (T := TX8) (N := 3) hx hb htA in_X8 hown hK hP 0 rfl rfl 2 (by decide) (htA _ wd_299) (fun _ h => h) rfl dX8_lay_19 ?_
  refine lv_iload_n hx hb dX8_lay_22 rfl (lv_at hl 0 rfl) ?_
  refine lv_lconst (v := 0) hx hb dX8_lay_23 (by decide) ?_
  refine va_last hx hb hK hP hD hS 1 2 rfl rfl (in_lit (by decide)) dX8_lay_24 (fun H locs hP hD hS => ?_)
  rw [fa_upd_sameL (f := fun _ => 0) (i := (1 : Int32).toNatClampNeg) (x := 0) (by first | decide | rfl)] at hP hD
  have hP : va_P D vwCl [((a 63), .inr (8, [.int v1_, .int v2_, .ref (a 67)])), ((a 67), .inl (cy 2, 30, .inr (.inl (fun _ => 0))))] H := hP
  have hD : va_D A [((a 63), .inr (8, [.int v1_, .int v2_, .ref (a 67)])), ((a 67), .inl (cy 2, 30, .inr (.inl (fun _ => 0))))] := hD
  refine lv_iinc (v := 2) (lv' := [(3, .int 2), (0, .ref (a 63)), (1, .int v1_), (2, .int v2_)]) hx hb dX8_lay_25 hl (k := 0) rfl (by decide) (by decide) rfl (fun ls hl => ?_)
  refine lv_goto (tgt := 12) hx hb dX8_lay_28 (by decide) ?_
  refine lv_iload_n hx hb dX8_lay_12 rfl (lv_at hl 0 rfl) ?_
  refine lv_bipush (v := 30) hx hb dX8_lay_13 (by decide) ?_
  refine lv_icmp_ge (tgt := 31) hx hb dX8_lay_15 (by decide) (fun q => absurd q (by decide)) (fun _ => ?_)
  refine lv_aload_n hx hb dX8_lay_18 rfl (lv_at hl 1 rfl) ?_
  refine va_get (ci := 8) (v := .ref (a 67)) (C := RX8) (T := TX8) (N := 3) hx hb htA in_X8 hown hK hP 0 rfl rfl 2 (by decide) (htA _ wd_299) (fun _ h => h) rfl dX8_lay_19 ?_
  refine lv_iload_n hx hb dX8_lay_22 rfl (lv_at hl 0 rfl) ?_
  refine lv_lconst (v := 0) hx hb dX8_lay_23 (by decide) ?_
  refine va_last hx hb hK hP hD hS 1 2 rfl rfl (in_lit (by decide)) dX8_lay_24 (fun H locs hP hD hS => ?_)
  rw [fa_upd_sameL (f := fun _ => 0) (i := (2 : Int32).toNatClampNeg) (x := 0) (by first | decide | rfl)] at hP hD
  have hP : va_P D vwCl [((a 63), .inr (8, [.int v1_, .int v2_, .ref (a 67)])), ((a 67), .inl (cy 2, 30, .inr (.inl (fun _ => 0))))] H := hP
  have hD : va_D A [((a 63), .inr (8, [.int v1_, .int v2_, .ref (a 67)])), ((a 67), .inl (cy 2, 30, .inr (.inl (fun _ => 0))))] := hD
  refine lv_iinc (v := 3) (lv' := [(3, .int 3), (0, .ref (a 63)), (1, .int v1_), (2, .int v2_)]) hx hb dX8_lay_25 hl (k := 0) rfl (by decide) (by decide) rfl (fun ls hl => ?_)
  refine lv_goto (tgt := 12) hx hb dX8_lay_28 (by decide) ?_
  refine lv_iload_n hx hb dX8_lay_12 rfl (lv_at hl 0 rfl) ?_
  refine lv_bipush (v := 30) hx hb dX8_lay_13 (by decide) ?_
  refine lv_icmp_ge (tgt := 31) hx hb dX8_lay_15 (by decide) (fun q => absurd q (by decide)) (fun _ => ?_)
  refine lv_aload_n hx hb dX8_lay_18 rfl (lv_at hl 1 rfl) ?_
  refine va_get (ci := 8) (v := .ref (a 67)) (C := RX8) (T := TX8) (N := 3) hx hb htA in_X8 hown hK hP 0 rfl rfl 2 (by decide) (htA _ wd_299) (fun _ h => h) rfl dX8_lay_19 ?_
  refine lv_iload_n hx hb dX8_lay_22 rfl (lv_at hl 0 rfl) ?_
  refine lv_lconst (v := 0) hx hb dX8_lay_23 (by decide) ?_
  refine va_last hx hb hK hP hD hS 1 2 rfl rfl (in_lit (by decide)) dX8_lay_24 (fun H locs hP hD hS => ?_)
  rw [fa_upd_sameL (f := fun _ => 0) (i := (3 : Int32).toNatClampNeg) (x := 0) (by first | decide | rfl)] at hP hD
  have hP : va_P D vwCl [((a 63), .inr (8, [.int v1_, .int v2_, .ref (a 67)])), ((a 67), .inl (cy 2, 30, .inr (.inl (fun _ => 0))))] H := hP
  have hD : va_D A [((a 63), .inr (8, [.int v1_, .int v2_, .ref (a 67)])), ((a 67), .inl (cy 2, 30, .inr (.inl (fun _ => 0))))] := hD
  refine lv_iinc (v := 4) (lv' := [(3, .int 4), (0, .ref (a 63)), (1, .int v1_), (2, .int v2_)]) hx hb dX8_lay_25 hl (k := 0) rfl (by decide) (by decide) rfl (fun ls hl => ?_)
  refine lv_goto (tgt := 12) hx hb dX8_lay_28 (by decide) ?_
  refine lv_iload_n hx hb dX8_lay_12 rfl (lv_at hl 0 rfl) ?_
  refine lv_bipush (v := 30) hx hb dX8_lay_13 (by decide) ?_
  refine lv_icmp_ge (tgt := 31) hx hb dX8_lay_15 (by decide) (fun q => absurd q (by decide)) (fun _ => ?_)
  refine lv_aload_n hx hb dX8_lay_18 rfl (lv_at hl 1 rfl) ?_
  refine va_get (ci := 8) (v := .ref (a 67)) (C := RX8) (T := TX8) (N := 3) hx hb htA in_X8 hown hK hP 0 rfl rfl 2 (by decide) (htA _ wd_299) (fun _ h => h) rfl dX8_lay_19 ?_
  refine lv_iload_n hx hb dX8_lay_22 rfl (lv_at hl 0 rfl) ?_
  refine lv_lconst (v := 0) hx hb dX8_lay_23 (by decide) ?_
  refine va_last hx hb hK hP hD hS 1 2 rfl rfl (in_lit (by decide)) dX8_lay_24 (fun H locs hP hD hS => ?_)
  rw [fa_upd_sameL (f := fun _ => 0) (i := (4 : Int32).toNatClampNeg) (x := 0) (by first | decide | rfl)] at hP hD
  have hP : va_P D vwCl [((a 63), .inr (8, [.int v1_, .int v2_, .ref (a 67)])), ((a 67), .inl (cy 2, 30, .inr (.inl (fun _ => 0))))] H := hP
  have hD : va_D A [((a 63), .inr (8, [.int v1_, .int v2_, .ref (a 67)])), ((a 67), .inl (cy 2, 30, .inr (.inl (fun _ => 0))))] := hD
  refine lv_iinc (v := 5) (lv' := [(3, .int 5), (0, .ref (a 63)), (1, .int v1_), (2, .int v2_)]) hx hb dX8_lay_25 hl (k := 0) rfl (by decide) (by decide) rfl (fun ls hl => ?_)
  refine lv_goto (tgt := 12) hx hb dX8_lay_28 (by decide) ?_
  refine lv_iload_n hx hb dX8_lay_12 rfl (lv_at hl 0 rfl) ?_
  refine lv_bipush (v := 30) hx hb dX8_lay_13 (by decide) ?_
  refine lv_icmp_ge (tgt := 31) hx hb dX8_lay_15 (by decide) (fun q => absurd q (by decide)) (fun _ => ?_)
  refine lv_aload_n hx hb dX8_lay_18 rfl (lv_at hl 1 rfl) ?_
  refine va_get (ci := 8) (v := .ref (a 67)) (C := RX8) (T := TX8) (N := 3) hx hb htA in_X8 hown hK hP 0 rfl rfl 2 (by decide) (htA _ wd_299) (fun _ h => h) rfl dX8_lay_19 ?_
  refine lv_iload_n hx hb dX8_lay_22 rfl (lv_at hl 0 rfl) ?_
  refine lv_lconst (v := 0) hx hb dX8_lay_23 (by decide) ?_
  refine va_last hx hb hK hP hD hS 1 2 rfl rfl (in_lit (by decide)) dX8_lay_24 (fun H locs hP hD hS => ?_)
  rw [fa_upd_sameL (f := fun _ => 0) (i := (5 : Int32).toNatClampNeg) (x := 0) (by first | decide | rfl)] at hP hD
  have hP : va_P D vwCl [((a 63), .inr (8, [.int v1_, .int v2_, .ref (a 67)])), ((a 67), .inl (cy 2, 30, .inr (.inl (fun _ => 0))))] H := hP
  have hD : va_D A [((a 63), .inr (8, [.int v1_, .int v2_, .ref (a 67)])), ((a 67), .inl (cy 2, 30, .inr (.inl (fun _ => 0))))] := hD
  refine lv_iinc (v := 6) (lv' := [(3, .int 6), (0, .ref (a 63)), (1, .int v1_), (2, .int v2_)]) hx hb dX8_lay_25 hl (k := 0) rfl (by decide) (by decide) rfl (fun ls hl => ?_)
  refine lv_goto (tgt := 12) hx hb dX8_lay_28 (by decide) ?_
  refine lv_iload_n hx hb dX8_lay_12 rfl (lv_at hl 0 rfl) ?_
  refine lv_bipush (v := 30) hx hb dX8_lay_13 (by decide) ?_
  refine lv_icmp_ge (tgt := 31) hx hb dX8_lay_15 (by decide) (fun q => absurd q (by decide)) (fun _ => ?_)
  refine lv_aload_n hx hb dX8_lay_18 rfl (lv_at hl 1 rfl) ?_
  refine va_get (ci := 8) (v := .ref (a 67)) (C := RX8) (T := TX8) (N := 3) hx hb htA in_X8 hown hK hP 0 rfl rfl 2 (by decide) (htA _ wd_299) (fun _ h => h) rfl dX8_lay_19 ?_
  refine lv_iload_n hx hb dX8_lay_22 rfl (lv_at hl 0 rfl) ?_
  refine lv_lconst (v := 0) hx hb dX8_lay_23 (by decide) ?_
  refine va_last hx hb hK hP hD hS 1 2 rfl rfl (in_lit (by decide)) dX8_lay_24 (fun H locs hP hD hS => ?_)
  rw [fa_upd_sameL (f := fun _ => 0) (i := (6 : Int32).toNatClampNeg) (x := 0) (by first | decide | rfl)] at hP hD
  have hP : va_P D vwCl [((a 63), .inr (8, [.int v1_, .int v2_, .ref (a 67)])), ((a 67), .inl (cy 2, 30, .inr (.inl (fun _ => 0))))] H := hP
  have hD : va_D A [((a 63), .inr (8, [.int v1_, .int v2_, .ref (a 67)])), ((a 67), .inl (cy 2, 30, .inr (.inl (fun _ => 0))))] := hD
  refine lv_iinc (v := 7) (lv' := [(3, .int 7), (0, .ref (a 63)), (1, .int v1_), (2, .int v2_)]) hx hb dX8_lay_25 hl (k := 0) rfl (by decide) (by decide) rfl (fun ls hl => ?_)
  refine lv_goto (tgt := 12) hx hb dX8_lay_28 (by decide) ?_
  refine lv_iload_n hx hb dX8_lay_12 rfl (lv_at hl 0 rfl) ?_
  refine lv_bipush (v := 30) hx hb dX8_lay_13 (by decide) ?_
  refine lv_icmp_ge (tgt := 31) hx hb dX8_lay_15 (by decide) (fun q => absurd q (by decide)) (fun _ => ?_)
  refine lv_aload_n hx hb dX8_lay_18 rfl (lv_at hl 1 rfl) ?_
  refine va_get (ci := 8) (v := .ref (a 67)) (C := RX8) (T := TX8) (N := 3) hx hb htA in_X8 hown hK hP 0 rfl rfl 2 (by decide) (htA _ wd_299) (fun _ h => h) rfl dX8_lay_19 ?_
  refine lv_iload_n hx hb dX8_lay_22 rfl (lv_at hl 0 rfl) ?_
  refine lv_lconst (v := 0) hx hb dX8_lay_23 (by decide) ?_
  refine va_last hx hb hK hP hD hS 1 2 rfl rfl (in_lit (by decide)) dX8_lay_24 (fun H locs hP hD hS => ?_)
  rw [fa_upd_sameL (f := fun _ => 0) (i := (7 : Int32).toNatClampNeg) (x := 0) (by first | decide | rfl)] at hP hD
  have hP : va_P D vwCl [((a 63), .inr (8, [.int v1_, .int v2_, .ref (a 67)])), ((a 67), .inl (cy 2, 30, .inr (.inl (fun _ => 0))))] H := hP
  have hD : va_D A [((a 63), .inr (8, [.int v1_, .int v2_, .ref (a 67)])), ((a 67), .inl (cy 2, 30, .inr (.inl (fun _ => 0))))] := hD
  refine lv_iinc (v := 8) (lv' := [(3, .int 8), (0, .ref (a 63)), (1, .int v1_), (2, .int v2_)]) hx hb dX8_lay_25 hl (k := 0) rfl (by decide) (by decide) rfl (fun ls hl => ?_)
  refine lv_goto (tgt := 12) hx hb dX8_lay_28 (by decide) ?_
  refine lv_iload_n hx hb dX8_lay_12 rfl (lv_at hl 0 rfl) ?_
  refine lv_bipush (v := 30) hx hb dX8_lay_13 (by decide) ?_
  refine lv_icmp_ge (tgt := 31) hx hb dX8_lay_15 (by decide) (fun q => absurd q (by decide)) (fun _ => ?_)
  refine lv_aload_n hx hb dX8_lay_18 rfl (lv_at hl 1 rfl) ?_
  refine va_get (ci := 8) (v := .ref (a 67)) (C := RX8) (T := TX8) (N := 3) hx hb htA in_X8 hown hK hP 0 rfl rfl 2 (by decide) (htA _ wd_299) (fun _ h => h) rfl dX8_lay_19 ?_
  refine lv_iload_n hx hb dX8_lay_22 rfl (lv_at hl 0 rfl) ?_
  refine lv_lconst (v := 0) hx hb dX8_lay_23 (by decide) ?_
  refine va_last hx hb hK hP hD hS 1 2 rfl rfl (in_lit (by decide)) dX8_lay_24 (fun H locs hP hD hS => ?_)
  rw [fa_upd_sameL (f := fun _ => 0) (i := (8 : Int32).toNatClampNeg) (x := 0) (by first | decide | rfl)] at hP hD
  have hP : va_P D vwCl [((a 63), .inr (8, [.int v1_, .int v2_, .ref (a 67)])), ((a 67), .inl (cy 2, 30, .inr (.inl (fun _ => 0))))] H := hP
  have hD : va_D A [((a 63), .inr (8, [.int v1_, .int v2_, .ref (a 67)])), ((a 67), .inl (cy 2, 30, .inr (.inl (fun _ => 0))))] := hD
  refine lv_iinc (v := 9) (lv' := [(3, .int 9), (0, .ref (a 63)), (1, .int v1_), (2, .int v2_)]) hx hb dX8_lay_25 hl (k := 0) rfl (by decide) (by decide) rfl (fun ls hl => ?_)
  refine lv_goto (tgt := 12) hx hb dX8_lay_28 (by decide) ?_
  refine lv_iload_n hx hb dX8_lay_12 rfl (lv_at hl 0 rfl) ?_
  refine lv_bipush (v := 30) hx hb dX8_lay_13 (by decide) ?_
  refine lv_icmp_ge (tgt := 31) hx hb dX8_lay_15 (by decide) (fun q => absurd q (by decide)) (fun _ => ?_)
  refine lv_aload_n hx hb dX8_lay_18 rfl (lv_at hl 1 rfl) ?_
  refine va_get (ci := 8) (v := .ref (a 67)) (C := RX8) (T := TX8) (N := 3) hx hb htA in_X8 hown hK hP 0 rfl rfl 2 (by decide) (htA _ wd_299) (fun _ h => h) rfl dX8_lay_19 ?_
  refine lv_iload_n hx hb dX8_lay_22 rfl (lv_at hl 0 rfl) ?_
  refine lv_lconst (v := 0) hx hb dX8_lay_23 (by decide) ?_
  refine va_last hx hb hK hP hD hS 1 2 rfl rfl (in_lit (by decide)) dX8_lay_24 (fun H locs hP hD hS => ?_)
  rw [fa_upd_sameL (f := fun _ => 0) (i := (9 : Int32).toNatClampNeg) (x := 0) (by first | decide | rfl)] at hP hD
  have hP : va_P D vwCl [((a 63), .inr (8, [.int v1_, .int v2_, .ref (a 67)])), ((a 67), .inl (cy 2, 30, .inr (.inl (fun _ => 0))))] H := hP
  have hD : va_D A [((a 63), .inr (8, [.int v1_, .int v2_, .ref (a 67)])), ((a 67), .inl (cy 2, 30, .inr (.inl (fun _ => 0))))] := hD
  refine lv_iinc (v := 10) (lv' := [(3, .int 10), (0, .ref (a 63)), (1, .int v1_), (2, .int v2_)]) hx hb dX8_lay_25 hl (k := 0) rfl (by decide) (by decide) rfl (fun ls hl => ?_)
  refine lv_goto (tgt := 12) hx hb dX8_lay_28 (by decide) ?_
  refine lv_iload_n hx hb dX8_lay_12 rfl (lv_at hl 0 rfl) ?_
  refine lv_bipush (v := 30) hx hb dX8_lay_13 (by decide) ?_
  refine lv_icmp_ge (tgt := 31) hx hb dX8_lay_15 (by decide) (fun q => absurd q (by decide)) (fun _ => ?_)
  refine lv_aload_n hx hb dX8_lay_18 rfl (lv_at hl 1 rfl) ?_
  refine va_get (ci := 8) (v := .ref (a 67)) (C := RX8) (T := TX8) (N := 3) hx hb htA in_X8 hown hK hP 0 rfl rfl 2 (by decide) (htA _ wd_299) (fun _ h => h) rfl dX8_lay_19 ?_
  refine lv_iload_n hx hb dX8_lay_22 rfl (lv_at hl 0 rfl) ?_
  refine lv_lconst (v := 0) hx hb dX8_lay_23 (by decide) ?_
  refine va_last hx hb hK hP hD hS 1 2 rfl rfl (in_lit (by decide)) dX8_lay_24 (fun H locs hP hD hS => ?_)
  rw [fa_upd_sameL (f := fun _ => 0) (i := (10 : Int32).toNatClampNeg) (x := 0) (by first | decide | rfl)] at hP hD
  have hP : va_P D vwCl [((a 63), .inr (8, [.int v1_, .int v2_, .ref (a 67)])), ((a 67), .inl (cy 2, 30, .inr (.inl (fun _ => 0))))] H := hP
  have hD : va_D A [((a 63), .inr (8, [.int v1_, .int v2_, .ref (a 67)])), ((a 67), .inl (cy 2, 30, .inr (.inl (fun _ => 0))))] := hD
  refine lv_iinc (v := 11) (lv' := [(3, .int 11), (0, .ref (a 63)), (1, .int v1_), (2, .int v2_)]) hx hb dX8_lay_25 hl (k := 0) rfl (by decide) (by decide) rfl (fun ls hl => ?_)
  refine lv_goto (tgt := 12) hx hb dX8_lay_28 (by decide) ?_
  refine lv_iload_n hx hb dX8_lay_12 rfl (lv_at hl 0 rfl) ?_
  refine lv_bipush (v := 30) hx hb dX8_lay_13 (by decide) ?_
  refine lv_icmp_ge (tgt := 31) hx hb dX8_lay_15 (by decide) (fun q => absurd q (by decide)) (fun _ => ?_)
  refine lv_aload_n hx hb dX8_lay_18 rfl (lv_at hl 1 rfl) ?_
  refine va_get (ci := 8) (v := .ref (a 67)) (C := RX8) (T := TX8) (N := 3) hx hb htA in_X8 hown hK hP 0 rfl rfl 2 (by decide) (htA _ wd_299) (fun _ h => h) rfl dX8_lay_19 ?_
  refine lv_iload_n hx hb dX8_lay_22 rfl (lv_at hl 0 rfl) ?_
  refine lv_lconst (v := 0) hx hb dX8_lay_23 (by decide) ?_
  refine va_last hx hb hK hP hD hS 1 2 rfl rfl (in_lit (by decide)) dX8_lay_24 (fun H locs hP hD hS => ?_)
  rw [fa_upd_sameL (f := fun _ => 0) (i := (11 : Int32).toNatClampNeg) (x := 0) (by first | decide | rfl)] at hP hD
  have hP : va_P D vwCl [((a 63), .inr (8, [.int v1_, .int v2_, .ref (a 67)])), ((a 67), .inl (cy 2, 30, .inr (.inl (fun _ => 0))))] H := hP
  have hD : va_D A [((a 63), .inr (8, [.int v1_, .int v2_, .ref (a 67)])), ((a 67), .inl (cy 2, 30, .inr (.inl (fun _ => 0))))] := hD
  refine lv_iinc (v := 12) (lv' := [(3, .int 12), (0, .ref (a 63)), (1, .int v1_), (2, .int v2_)]) hx hb dX8_lay_25 hl (k := 0) rfl (by decide) (by decide) rfl (fun ls hl => ?_)
  refine lv_goto (tgt := 12) hx hb dX8_lay_28 (by decide) ?_
  refine lv_iload_n hx hb dX8_lay_12 rfl (lv_at hl 0 rfl) ?_
  refine lv_bipush (v := 30) hx hb dX8_lay_13 (by decide) ?_
  refine lv_icmp_ge (tgt := 31) hx hb dX8_lay_15 (by decide) (fun q => absurd q (by decide)) (fun _ => ?_)
  refine lv_aload_n hx hb dX8_lay_18 rfl (lv_at hl 1 rfl) ?_
  refine va_get (ci := 8) (v := .ref (a 67)) (C := RX8) (T := TX8) (N := 3) hx hb htA in_X8 hown hK hP 0 rfl rfl 2 (by decide) (htA _ wd_299) (fun _ h => h) rfl dX8_lay_19 ?_
  refine lv_iload_n hx hb dX8_lay_22 rfl (lv_at hl 0 rfl) ?_
  refine lv_lconst (v := 0) hx hb dX8_lay_23 (by decide) ?_
  refine va_last hx hb hK hP hD hS 1 2 rfl rfl (in_lit (by decide)) dX8_lay_24 (fun H locs hP hD hS => ?_)
  rw [fa_upd_sameL (f := fun _ => 0) (i := (12 : Int32).toNatClampNeg) (x := 0) (by first | decide | rfl)] at hP hD
  have hP : va_P D vwCl [((a 63), .inr (8, [.int v1_, .int v2_, .ref (a 67)])), ((a 67), .inl (cy 2, 30, .inr (.inl (fun _ => 0))))] H := hP
  have hD : va_D A [((a 63), .inr (8, [.int v1_, .int v2_, .ref (a 67)])), ((a 67), .inl (cy 2, 30, .inr (.inl (fun _ => 0))))] := hD
  refine lv_iinc (v := 13) (lv' := [(3, .int 13), (0, .ref (a 63)), (1, .int v1_), (2, .int v2_)]) hx hb dX8_lay_25 hl (k := 0) rfl (by decide) (by decide) rfl (fun ls hl => ?_)
  refine lv_goto (tgt := 12) hx hb dX8_lay_28 (by decide) ?_
  refine lv_iload_n hx hb dX8_lay_12 rfl (lv_at hl 0 rfl) ?_
  refine lv_bipush (v := 30) hx hb dX8_lay_13 (by decide) ?_
  refine lv_icmp_ge (tgt := 31) hx hb dX8_lay_15 (by decide) (fun q => absurd q (by decide)) (fun _ => ?_)
  refine lv_aload_n hx hb dX8_lay_18 rfl (lv_at hl 1 rfl) ?_
  refine va_get (ci := 8) (v := .ref (a 67)) (C := RX8) (T := TX8) (N := 3) hx hb htA in_X8 hown hK hP 0 rfl rfl 2 (by decide) (htA _ wd_299) (fun _ h => h) rfl dX8_lay_19 ?_
  refine lv_iload_n hx hb dX8_lay_22 rfl (lv_at hl 0 rfl) ?_
  refine lv_lconst (v := 0) hx hb dX8_lay_23 (by decide) ?_
  refine va_last hx hb hK hP hD hS 1 2 rfl rfl (in_lit (by decide)) dX8_lay_24 (fun H locs hP hD hS => ?_)
  rw [fa_upd_sameL (f := fun _ => 0) (i := (13 : Int32).toNatClampNeg) (x := 0) (by first | decide | rfl)] at hP hD
  have hP : va_P D vwCl [((a 63), .inr (8, [.int v1_, .int v2_, .ref (a 67)])), ((a 67), .inl (cy 2, 30, .inr (.inl (fun _ => 0))))] H := hP
  have hD : va_D A [((a 63), .inr (8, [.int v1_, .int v2_, .ref (a 67)])), ((a 67), .inl (cy 2, 30, .inr (.inl (fun _ => 0))))] := hD
  refine lv_iinc (v := 14) (lv' := [(3, .int 14), (0, .ref (a 63)), (1, .int v1_), (2, .int v2_)]) hx hb dX8_lay_25 hl (k := 0) rfl (by decide) (by decide) rfl (fun ls hl => ?_)
  refine lv_goto (tgt := 12) hx hb dX8_lay_28 (by decide) ?_
  refine lv_iload_n hx hb dX8_lay_12 rfl (lv_at hl 0 rfl) ?_
  refine lv_bipush (v := 30) hx hb dX8_lay_13 (by decide) ?_
  refine lv_icmp_ge (tgt := 31) hx hb dX8_lay_15 (by decide) (fun q => absurd q (by decide)) (fun _ => ?_)
  refine lv_aload_n hx hb dX8_lay_18 rfl (lv_at hl 1 rfl) ?_
  refine va_get (ci := 8) (v := .ref (a 67)) (C := RX8) (T := TX8) (N := 3) hx hb htA in_X8 hown hK hP 0 rfl rfl 2 (by decide) (htA _ wd_299) (fun _ h => h) rfl dX8_lay_19 ?_
  refine lv_iload_n hx hb dX8_lay_22 rfl (lv_at hl 0 rfl) ?_
  refine lv_lconst (v := 0) hx hb dX8_lay_23 (by decide) ?_
  refine va_last hx hb hK hP hD hS 1 2 rfl rfl (in_lit (by decide)) dX8_lay_24 (fun H locs hP hD hS => ?_)
  rw [fa_upd_sameL (f := fun _ => 0) (i := (14 : Int32).toNatClampNeg) (x := 0) (by first | decide | rfl)] at hP hD
  have hP : va_P D vwCl [((a 63), .inr (8, [.int v1_, .int v2_, .ref (a 67)])), ((a 67), .inl (cy 2, 30, .inr (.inl (fun _ => 0))))] H := hP
  have hD : va_D A [((a 63), .inr (8, [.int v1_, .int v2_, .ref (a 67)])), ((a 67), .inl (cy 2, 30, .inr (.inl (fun _ => 0))))] := hD
  refine lv_iinc (v := 15) (lv' := [(3, .int 15), (0, .ref (a 63)), (1, .int v1_), (2, .int v2_)]) hx hb dX8_lay_25 hl (k := 0) rfl (by decide) (by decide) rfl (fun ls hl => ?_)
  refine lv_goto (tgt := 12) hx hb dX8_lay_28 (by decide) ?_
  refine lv_iload_n hx hb dX8_lay_12 rfl (lv_at hl 0 rfl) ?_
  refine lv_bipush (v := 30) hx hb dX8_lay_13 (by decide) ?_
  refine lv_icmp_ge (tgt := 31) hx hb dX8_lay_15 (by decide) (fun q => absurd q (by decide)) (fun _ => ?_)
  refine lv_aload_n hx hb dX8_lay_18 rfl (lv_at hl 1 rfl) ?_
  refine va_get (ci := 8) (v := .ref (a 67)) (C := RX8) (T := TX8) (N := 3) hx hb htA in_X8 hown hK hP 0 rfl rfl 2 (by decide) (htA _ wd_299) (fun _ h => h) rfl dX8_lay_19 ?_
  refine lv_iload_n hx hb dX8_lay_22 rfl (lv_at hl 0 rfl) ?_
  refine lv_lconst (v := 0) hx hb dX8_lay_23 (by decide) ?_
  refine va_last hx hb hK hP hD hS 1 2 rfl rfl (in_lit (by decide)) dX8_lay_24 (fun H locs hP hD hS => ?_)
  rw [fa_upd_sameL (f := fun _ => 0) (i := (15 : Int32).toNatClampNeg) (x := 0) (by first | decide | rfl)] at hP hD
  have hP : va_P D vwCl [((a 63), .inr (8, [.int v1_, .int v2_, .ref (a 67)])), ((a 67), .inl (cy 2, 30, .inr (.inl (fun _ => 0))))] H := hP
  have hD : va_D A [((a 63), .inr (8, [.int v1_, .int v2_, .ref (a 67)])), ((a 67), .inl (cy 2, 30, .inr (.inl (fun _ => 0))))] := hD
  refine lv_iinc (v := 16) (lv' := [(3, .int 16), (0, .ref (a 63)), (1, .int v1_), (2, .int v2_)]) hx hb dX8_lay_25 hl (k := 0) rfl (by decide) (by decide) rfl (fun ls hl => ?_)
  refine lv_goto (tgt := 12) hx hb dX8_lay_28 (by decide) ?_
  refine lv_iload_n hx hb dX8_lay_12 rfl (lv_at hl 0 rfl) ?_
  refine lv_bipush (v := 30) hx hb dX8_lay_13 (by decide) ?_
  refine lv_icmp_ge (tgt := 31) hx hb dX8_lay_15 (by decide) (fun q => absurd q (by decide)) (fun _ => ?_)
  refine lv_aload_n hx hb dX8_lay_18 rfl (lv_at hl 1 rfl) ?_
  refine va_get (ci := 8) (v := .ref (a 67)) (C := RX8) (T := TX8) (N := 3) hx hb htA in_X8 hown hK hP 0 rfl rfl 2 (by decide) (htA _ wd_299) (fun _ h => h) rfl dX8_lay_19 ?_
  refine lv_iload_n hx hb dX8_lay_22 rfl (lv_at hl 0 rfl) ?_
  refine lv_lconst (v := 0) hx hb dX8_lay_23 (by decide) ?_
  refine va_last hx hb hK hP hD hS 1 2 rfl rfl (in_lit (by decide)) dX8_lay_24 (fun H locs hP hD hS => ?_)
  rw [fa_upd_sameL (f := fun _ => 0) (i := (16 : Int32).toNatClampNeg) (x := 0) (by first | decide | rfl)] at hP hD
  have hP : va_P D vwCl [((a 63), .inr (8, [.int v1_, .int v2_, .ref (a 67)])), ((a 67), .inl (cy 2, 30, .inr (.inl (fun _ => 0))))] H := hP
  have hD : va_D A [((a 63), .inr (8, [.int v1_, .int v2_, .ref (a 67)])), ((a 67), .inl (cy 2, 30, .inr (.inl (fun _ => 0))))] := hD
  refine lv_iinc (v := 17) (lv' := [(3, .int 17), (0, .ref (a 63)), (1, .int v1_), (2, .int v2_)]) hx hb dX8_lay_25 hl (k := 0) rfl (by decide) (by decide) rfl (fun ls hl => ?_)
  refine lv_goto (tgt := 12) hx hb dX8_lay_28 (by decide) ?_
  refine lv_iload_n hx hb dX8_lay_12 rfl (lv_at hl 0 rfl) ?_
  refine lv_bipush (v := 30) hx hb dX8_lay_13 (by decide) ?_
  refine lv_icmp_ge (tgt := 31) hx hb dX8_lay_15 (by decide) (fun q => absurd q (by decide)) (fun _ => ?_)
  refine lv_aload_n hx hb dX8_lay_18 rfl (lv_at hl 1 rfl) ?_
  refine va_get (ci := 8) (v := .ref (a 67)) (C := RX8) (T := TX8) (N := 3) hx hb htA in_X8 hown hK hP 0 rfl rfl 2 (by decide) (htA _ wd_299) (fun _ h => h) rfl dX8_lay_19 ?_
  refine lv_iload_n hx hb dX8_lay_22 rfl (lv_at hl 0 rfl) ?_
  refine lv_lconst (v := 0) hx hb dX8_lay_23 (by decide) ?_
  refine va_last hx hb hK hP hD hS 1 2 rfl rfl (in_lit (by decide)) dX8_lay_24 (fun H locs hP hD hS => ?_)
  rw [fa_upd_sameL (f := fun _ => 0) (i := (17 : Int32).toNatClampNeg) (x := 0) (by first | decide | rfl)] at hP hD
  have hP : va_P D vwCl [((a 63), .inr (8, [.int v1_, .int v2_, .ref (a 67)])), ((a 67), .inl (cy 2, 30, .inr (.inl (fun _ => 0))))] H := hP
  have hD : va_D A [((a 63), .inr (8, [.int v1_, .int v2_, .ref (a 67)])), ((a 67), .inl (cy 2, 30, .inr (.inl (fun _ => 0))))] := hD
  refine lv_iinc (v := 18) (lv' := [(3, .int 18), (0, .ref (a 63)), (1, .int v1_), (2, .int v2_)]) hx hb dX8_lay_25 hl (k := 0) rfl (by decide) (by decide) rfl (fun ls hl => ?_)
  refine lv_goto (tgt := 12) hx hb dX8_lay_28 (by decide) ?_
  refine lv_iload_n hx hb dX8_lay_12 rfl (lv_at hl 0 rfl) ?_
  refine lv_bipush (v := 30) hx hb dX8_lay_13 (by decide) ?_
  refine lv_icmp_ge (tgt := 31) hx hb dX8_lay_15 (by decide) (fun q => absurd q (by decide)) (fun _ => ?_)
  refine lv_aload_n hx hb dX8_lay_18 rfl (lv_at hl 1 rfl) ?_
  refine va_get (ci := 8) (v := .ref (a 67)) (C := RX8) (T := TX8) (N := 3) hx hb htA in_X8 hown hK hP 0 rfl rfl 2 (by decide) (htA _ wd_299) (fun _ h => h) rfl dX8_lay_19 ?_
  refine lv_iload_n hx hb dX8_lay_22 rfl (lv_at hl 0 rfl) ?_
  refine lv_lconst (v := 0) hx hb dX8_lay_23 (by decide) ?_
  refine va_last hx hb hK hP hD hS 1 2 rfl rfl (in_lit (by decide)) dX8_lay_24 (fun H locs hP hD hS => ?_)
  rw [fa_upd_sameL (f := fun _ => 0) (i := (18 : Int32).toNatClampNeg) (x := 0) (by first | decide | rfl)] at hP hD
  have hP : va_P D vwCl [((a 63), .inr (8, [.int v1_, .int v2_, .ref (a 67)])), ((a 67), .inl (cy 2, 30, .inr (.inl (fun _ => 0))))] H := hP
  have hD : va_D A [((a 63), .inr (8, [.int v1_, .int v2_, .ref (a 67)])), ((a 67), .inl (cy 2, 30, .inr (.inl (fun _ => 0))))] := hD
  refine lv_iinc (v := 19) (lv' := [(3, .int 19), (0, .ref (a 63)), (1, .int v1_), (2, .int v2_)]) hx hb dX8_lay_25 hl (k := 0) rfl (by decide) (by decide) rfl (fun ls hl => ?_)
  refine lv_goto (tgt := 12) hx hb dX8_lay_28 (by decide) ?_
  refine lv_iload_n hx hb dX8_lay_12 rfl (lv_at hl 0 rfl) ?_
  refine lv_bipush (v := 30) hx hb dX8_lay_13 (by decide) ?_
  refine lv_icmp_ge (tgt := 31) hx hb dX8_lay_15 (by decide) (fun q => absurd q (by decide)) (fun _ => ?_)
  refine lv_aload_n hx hb dX8_lay_18 rfl (lv_at hl 1 rfl) ?_
  refine va_get (ci := 8) (v := .ref (a 67)) (C := RX8) (T := TX8) (N := 3) hx hb htA in_X8 hown hK hP 0 rfl rfl 2 (by decide) (htA _ wd_299) (fun _ h => h) rfl dX8_lay_19 ?_
  refine lv_iload_n hx hb dX8_lay_22 rfl (lv_at hl 0 rfl) ?_
  refine lv_lconst (v := 0) hx hb dX8_lay_23 (by decide) ?_
  refine va_last hx hb hK hP hD hS 1 2 rfl rfl (in_lit (by decide)) dX8_lay_24 (fun H locs hP hD hS => ?_)
  rw [fa_upd_sameL (f := fun _ => 0) (i := (19 : Int32).toNatClampNeg) (x := 0) (by first | decide | rfl)] at hP hD
  have hP : va_P D vwCl [((a 63), .inr (8, [.int v1_, .int v2_, .ref (a 67)])), ((a 67), .inl (cy 2, 30, .inr (.inl (fun _ => 0))))] H := hP
  have hD : va_D A [((a 63), .inr (8, [.int v1_, .int v2_, .ref (a 67)])), ((a 67), .inl (cy 2, 30, .inr (.inl (fun _ => 0))))] := hD
  refine lv_iinc (v := 20) (lv' := [(3, .int 20), (0, .ref (a 63)), (1, .int v1_), (2, .int v2_)]) hx hb dX8_lay_25 hl (k := 0) rfl (by decide) (by decide) rfl (fun ls hl => ?_)
  refine lv_goto (tgt := 12) hx hb dX8_lay_28 (by decide) ?_
  refine lv_iload_n hx hb dX8_lay_12 rfl (lv_at hl 0 rfl) ?_
  refine lv_bipush (v := 30) hx hb dX8_lay_13 (by decide) ?_
  refine lv_icmp_ge (tgt := 31) hx hb dX8_lay_15 (by decide) (fun q => absurd q (by decide)) (fun _ => ?_)
  refine lv_aload_n hx hb dX8_lay_18 rfl (lv_at hl 1 rfl) ?_
  refine va_get (ci := 8) (v := .ref (a 67)) (C := RX8) (T := TX8) (N := 3) hx hb htA in_X8 hown hK hP 0 rfl rfl 2 (by decide) (htA _ wd_299) (fun _ h => h) rfl dX8_lay_19 ?_
  refine lv_iload_n hx hb dX8_lay_22 rfl (lv_at hl 0 rfl) ?_
  refine lv_lconst (v := 0) hx hb dX8_lay_23 (by decide) ?_
  refine va_last hx hb hK hP hD hS 1 2 rfl rfl (in_lit (by decide)) dX8_lay_24 (fun H locs hP hD hS => ?_)
  rw [fa_upd_sameL (f := fun _ => 0) (i := (20 : Int32).toNatClampNeg) (x := 0) (by first | decide | rfl)] at hP hD
  have hP : va_P D vwCl [((a 63), .inr (8, [.int v1_, .int v2_, .ref (a 67)])), ((a 67), .inl (cy 2, 30, .inr (.inl (fun _ => 0))))] H := hP
  have hD : va_D A [((a 63), .inr (8, [.int v1_, .int v2_, .ref (a 67)])), ((a 67), .inl (cy 2, 30, .inr (.inl (fun _ => 0))))] := hD
  refine lv_iinc (v := 21) (lv' := [(3, .int 21), (0, .ref (a 63)), (1, .int v1_), (2, .int v2_)]) hx hb dX8_lay_25 hl (k := 0) rfl (by decide) (by decide) rfl (fun ls hl => ?_)
  refine lv_goto (tgt := 12) hx hb dX8_lay_28 (by decide) ?_
  refine lv_iload_n hx hb dX8_lay_12 rfl (lv_at hl 0 rfl) ?_
  refine lv_bipush (v := 30) hx hb dX8_lay_13 (by decide) ?_
  refine lv_icmp_ge (tgt := 31) hx hb dX8_lay_15 (by decide) (fun q => absurd q (by decide)) (fun _ => ?_)
  refine lv_aload_n hx hb dX8_lay_18 rfl (lv_at hl 1 rfl) ?_
  refine va_get (ci := 8) (v := .ref (a 67)) (C := RX8) (T := TX8) (N := 3) hx hb htA in_X8 hown hK hP 0 rfl rfl 2 (by decide) (htA _ wd_299) (fun _ h => h) rfl dX8_lay_19 ?_
  refine lv_iload_n hx hb dX8_lay_22 rfl (lv_at hl 0 rfl) ?_
  refine lv_lconst (v := 0) hx hb dX8_lay_23 (by decide) ?_
  refine va_last hx hb hK hP hD hS 1 2 rfl rfl (in_lit (by decide)) dX8_lay_24 (fun H locs hP hD hS => ?_)
  rw [fa_upd_sameL (f := fun _ => 0) (i := (21 : Int32).toNatClampNeg) (x := 0) (by first | decide | rfl)] at hP hD
  have hP : va_P D vwCl [((a 63), .inr (8, [.int v1_, .int v2_, .ref (a 67)])), ((a 67), .inl (cy 2, 30, .inr (.inl (fun _ => 0))))] H := hP
  have hD : va_D A [((a 63), .inr (8, [.int v1_, .int v2_, .ref (a 67)])), ((a 67), .inl (cy 2, 30, .inr (.inl (fun _ => 0))))] := hD
  refine lv_iinc (v := 22) (lv' := [(3, .int 22), (0, .ref (a 63)), (1, .int v1_), (2, .int v2_)]) hx hb dX8_lay_25 hl (k := 0) rfl (by decide) (by decide) rfl (fun ls hl => ?_)
  refine lv_goto (tgt := 12) hx hb dX8_lay_28 (by decide) ?_
  refine lv_iload_n hx hb dX8_lay_12 rfl (lv_at hl 0 rfl) ?_
  refine lv_bipush (v := 30) hx hb dX8_lay_13 (by decide) ?_
  refine lv_icmp_ge (tgt := 31) hx hb dX8_lay_15 (by decide) (fun q => absurd q (by decide)) (fun _ => ?_)
  refine lv_aload_n hx hb dX8_lay_18 rfl (lv_at hl 1 rfl) ?_
  refine va_get (ci := 8) (v := .ref (a 67)) (C := RX8) (T := TX8) (N := 3) hx hb htA in_X8 hown hK hP 0 rfl rfl 2 (by decide) (htA _ wd_299) (fun _ h => h) rfl dX8_lay_19 ?_
  refine lv_iload_n hx hb dX8_lay_22 rfl (lv_at hl 0 rfl) ?_
  refine lv_lconst (v := 0) hx hb dX8_lay_23 (by decide) ?_
  refine va_last hx hb hK hP hD hS 1 2 rfl rfl (in_lit (by decide)) dX8_lay_24 (fun H locs hP hD hS => ?_)
  rw [fa_upd_sameL (f := fun _ => 0) (i := (22 : Int32).toNatClampNeg) (x := 0) (by first | decide | rfl)] at hP hD
  have hP : va_P D vwCl [((a 63), .inr (8, [.int v1_, .int v2_, .ref (a 67)])), ((a 67), .inl (cy 2, 30, .inr (.inl (fun _ => 0))))] H := hP
  have hD : va_D A [((a 63), .inr (8, [.int v1_, .int v2_, .ref (a 67)])), ((a 67), .inl (cy 2, 30, .inr (.inl (fun _ => 0))))] := hD
  refine lv_iinc (v := 23) (lv' := [(3, .int 23), (0, .ref (a 63)), (1, .int v1_), (2, .int v2_)]) hx hb dX8_lay_25 hl (k := 0) rfl (by decide) (by decide) rfl (fun ls hl => ?_)
  refine lv_goto (tgt := 12) hx hb dX8_lay_28 (by decide) ?_
  refine lv_iload_n hx hb dX8_lay_12 rfl (lv_at hl 0 rfl) ?_
  refine lv_bipush (v := 30) hx hb dX8_lay_13 (by decide) ?_
  refine lv_icmp_ge (tgt := 31) hx hb dX8_lay_15 (by decide) (fun q => absurd q (by decide)) (fun _ => ?_)
  refine lv_aload_n hx hb dX8_lay_18 rfl (lv_at hl 1 rfl) ?_
  refine va_get (ci := 8) (v := .ref (a 67)) (C := RX8) (T := TX8) (N := 3) hx hb htA in_X8 hown hK hP 0 rfl rfl 2 (by decide) (htA _ wd_299) (fun _ h => h) rfl dX8_lay_19 ?_
  refine lv_iload_n hx hb dX8_lay_22 rfl (lv_at hl 0 rfl) ?_
  refine lv_lconst (v := 0) hx hb dX8_lay_23 (by decide) ?_
  refine va_last hx hb hK hP hD hS 1 2 rfl rfl (in_lit (by decide)) dX8_lay_24 (fun H locs hP hD hS => ?_)
  rw [fa_upd_sameL (f := fun _ => 0) (i := (23 : Int32).toNatClampNeg) (x := 0) (by first | decide | rfl)] at hP hD
  have hP : va_P D vwCl [((a 63), .inr (8, [.int v1_, .int v2_, .ref (a 67)])), ((a 67), .inl (cy 2, 30, .inr (.inl (fun _ => 0))))] H := hP
  have hD : va_D A [((a 63), .inr (8, [.int v1_, .int v2_, .ref (a 67)])), ((a 67), .inl (cy 2, 30, .inr (.inl (fun _ => 0))))] := hD
  refine lv_iinc (v := 24) (lv' := [(3, .int 24), (0, .ref (a 63)), (1, .int v1_), (2, .int v2_)]) hx hb dX8_lay_25 hl (k := 0) rfl (by decide) (by decide) rfl (fun ls hl => ?_)
  refine lv_goto (tgt := 12) hx hb dX8_lay_28 (by decide) ?_
  refine lv_iload_n hx hb dX8_lay_12 rfl (lv_at hl 0 rfl) ?_
  refine lv_bipush (v := 30) hx hb dX8_lay_13 (by decide) ?_
  refine lv_icmp_ge (tgt := 31) hx hb dX8_lay_15 (by decide) (fun q => absurd q (by decide)) (fun _ => ?_)
  refine lv_aload_n hx hb dX8_lay_18 rfl (lv_at hl 1 rfl) ?_
  refine va_get (ci := 8) (v := .ref (a 67)) (C := RX8) (T := TX8) (N := 3) hx hb htA in_X8 hown hK hP 0 rfl rfl 2 (by decide) (htA _ wd_299) (fun _ h => h) rfl dX8_lay_19 ?_
  refine lv_iload_n hx hb dX8_lay_22 rfl (lv_at hl 0 rfl) ?_
  refine lv_lconst (v := 0) hx hb dX8_lay_23 (by decide) ?_
  refine va_last hx hb hK hP hD hS 1 2 rfl rfl (in_lit (by decide)) dX8_lay_24 (fun H locs hP hD hS => ?_)
  rw [fa_upd_sameL (f := fun _ => 0) (i := (24 : Int32).toNatClampNeg) (x := 0) (by first | decide | rfl)] at hP hD
  have hP : va_P D vwCl [((a 63), .inr (8, [.int v1_, .int v2_, .ref (a 67)])), ((a 67), .inl (cy 2, 30, .inr (.inl (fun _ => 0))))] H := hP
  have hD : va_D A [((a 63), .inr (8, [.int v1_, .int v2_, .ref (a 67)])), ((a 67), .inl (cy 2, 30, .inr (.inl (fun _ => 0))))] := hD
  refine lv_iinc (v := 25) (lv' := [(3, .int 25), (0, .ref (a 63)), (1, .int v1_), (2, .int v2_)]) hx hb dX8_lay_25 hl (k := 0) rfl (by decide) (by decide) rfl (fun ls hl => ?_)
  refine lv_goto (tgt := 12) hx hb dX8_lay_28 (by decide) ?_
  refine lv_iload_n hx hb dX8_lay_12 rfl (lv_at hl 0 rfl) ?_
  refine lv_bipush (v := 30) hx hb dX8_lay_13 (by decide) ?_
  refine lv_icmp_ge (tgt := 31) hx hb dX8_lay_15 (by decide) (fun q => absurd q (by decide)) (fun _ => ?_)
  refine lv_aload_n hx hb dX8_lay_18 rfl (lv_at hl 1 rfl) ?_
  refine va_get (ci := 8) (v := .ref (a 67)) (C := RX8) (T := TX8) (N := 3) hx hb htA in_X8 hown hK hP 0 rfl rfl 2 (by decide) (htA _ wd_299) (fun _ h => h) rfl dX8_lay_19 ?_
  refine lv_iload_n hx hb dX8_lay_22 rfl (lv_at hl 0 rfl) ?_
  refine lv_lconst (v := 0) hx hb dX8_lay_23 (by decide) ?_
  refine va_last hx hb hK hP hD hS 1 2 rfl rfl (in_lit (by decide)) dX8_lay_24 (fun H locs hP hD hS => ?_)
  rw [fa_upd_sameL (f := fun _ => 0) (i := (25 : Int32).toNatClampNeg) (x := 0) (by first | decide | rfl)] at hP hD
  have hP : va_P D vwCl [((a 63), .inr (8, [.int v1_, .int v2_, .ref (a 67)])), ((a 67), .inl (cy 2, 30, .inr (.inl (fun _ => 0))))] H := hP
  have hD : va_D A [((a 63), .inr (8, [.int v1_, .int v2_, .ref (a 67)])), ((a 67), .inl (cy 2, 30, .inr (.inl (fun _ => 0))))] := hD
  refine lv_iinc (v := 26) (lv' := [(3, .int 26), (0, .ref (a 63)), (1, .int v1_), (2, .int v2_)]) hx hb dX8_lay_25 hl (k := 0) rfl (by decide) (by decide) rfl (fun ls hl => ?_)
  refine lv_goto (tgt := 12) hx hb dX8_lay_28 (by decide) ?_
  refine lv_iload_n hx hb dX8_lay_12 rfl (lv_at hl 0 rfl) ?_
  refine lv_bipush (v := 30) hx hb dX8_lay_13 (by decide) ?_
  refine lv_icmp_ge (tgt := 31) hx hb dX8_lay_15 (by decide) (fun q => absurd q (by decide)) (fun _ => ?_)
  refine lv_aload_n hx hb dX8_lay_18 rfl (lv_at hl 1 rfl) ?_
  refine va_get (ci := 8) (v := .ref (a 67)) (C := RX8) (T := TX8) (N := 3) hx hb htA in_X8 hown hK hP 0 rfl rfl 2 (by decide) (htA _ wd_299) (fun _ h => h) rfl dX8_lay_19 ?_
  refine lv_iload_n hx hb dX8_lay_22 rfl (lv_at hl 0 rfl) ?_
  refine lv_lconst (v := 0) hx hb dX8_lay_23 (by decide) ?_
  refine va_last hx hb hK hP hD hS 1 2 rfl rfl (in_lit (by decide)) dX8_lay_24 (fun H locs hP hD hS => ?_)
  rw [fa_upd_sameL (f := fun _ => 0) (i := (26 : Int32).toNatClampNeg) (x := 0) (by first | decide | rfl)] at hP hD
  have hP : va_P D vwCl [((a 63), .inr (8, [.int v1_, .int v2_, .ref (a 67)])), ((a 67), .inl (cy 2, 30, .inr (.inl (fun _ => 0))))] H := hP
  have hD : va_D A [((a 63), .inr (8, [.int v1_, .int v2_, .ref (a 67)])), ((a 67), .inl (cy 2, 30, .inr (.inl (fun _ => 0))))] := hD
  refine lv_iinc (v := 27) (lv' := [(3, .int 27), (0, .ref (a 63)), (1, .int v1_), (2, .int v2_)]) hx hb dX8_lay_25 hl (k := 0) rfl (by decide) (by decide) rfl (fun ls hl => ?_)
  refine lv_goto (tgt := 12) hx hb dX8_lay_28 (by decide) ?_
  refine lv_iload_n hx hb dX8_lay_12 rfl (lv_at hl 0 rfl) ?_
  refine lv_bipush (v := 30) hx hb dX8_lay_13 (by decide) ?_
  refine lv_icmp_ge (tgt := 31) hx hb dX8_lay_15 (by decide) (fun q => absurd q (by decide)) (fun _ => ?_)
  refine lv_aload_n hx hb dX8_lay_18 rfl (lv_at hl 1 rfl) ?_
  refine va_get (ci := 8) (v := .ref (a 67)) (C := RX8) (T := TX8) (N := 3) hx hb htA in_X8 hown hK hP 0 rfl rfl 2 (by decide) (htA _ wd_299) (fun _ h => h) rfl dX8_lay_19 ?_
  refine lv_iload_n hx hb dX8_lay_22 rfl (lv_at hl 0 rfl) ?_
  refine lv_lconst (v := 0) hx hb dX8_lay_23 (by decide) ?_
  refine va_last hx hb hK hP hD hS 1 2 rfl rfl (in_lit (by decide)) dX8_lay_24 (fun H locs hP hD hS => ?_)
  rw [fa_upd_sameL (f := fun _ => 0) (i := (27 : Int32).toNatClampNeg) (x := 0) (by first | decide | rfl)] at hP hD
  have hP : va_P D vwCl [((a 63), .inr (8, [.int v1_, .int v2_, .ref (a 67)])), ((a 67), .inl (cy 2, 30, .inr (.inl (fun _ => 0))))] H := hP
  have hD : va_D A [((a 63), .inr (8, [.int v1_, .int v2_, .ref (a 67)])), ((a 67), .inl (cy 2, 30, .inr (.inl (fun _ => 0))))] := hD
  refine lv_iinc (v := 28) (lv' := [(3, .int 28), (0, .ref (a 63)), (1, .int v1_), (2, .int v2_)]) hx hb dX8_lay_25 hl (k := 0) rfl (by decide) (by decide) rfl (fun ls hl => ?_)
  refine lv_goto (tgt := 12) hx hb dX8_lay_28 (by decide) ?_
  refine lv_iload_n hx hb dX8_lay_12 rfl (lv_at hl 0 rfl) ?_
  refine lv_bipush (v := 30) hx hb dX8_lay_13 (by decide) ?_
  refine lv_icmp_ge (tgt := 31) hx hb dX8_lay_15 (by decide) (fun q => absurd q (by decide)) (fun _ => ?_)
  refine lv_aload_n hx hb dX8_lay_18 rfl (lv_at hl 1 rfl) ?_
  refine va_get (ci := 8) (v := .ref (a 67)) (C := RX8) (T := TX8) (N := 3) hx hb htA in_X8 hown hK hP 0 rfl rfl 2 (by decide) (htA _ wd_299) (fun _ h => h) rfl dX8_lay_19 ?_
  refine lv_iload_n hx hb dX8_lay_22 rfl (lv_at hl 0 rfl) ?_
  refine lv_lconst (v := 0) hx hb dX8_lay_23 (by decide) ?_
  refine va_last hx hb hK hP hD hS 1 2 rfl rfl (in_lit (by decide)) dX8_lay_24 (fun H locs hP hD hS => ?_)
  rw [fa_upd_sameL (f := fun _ => 0) (i := (28 : Int32).toNatClampNeg) (x := 0) (by first | decide | rfl)] at hP hD
  have hP : va_P D vwCl [((a 63), .inr (8, [.int v1_, .int v2_, .ref (a 67)])), ((a 67), .inl (cy 2, 30, .inr (.inl (fun _ => 0))))] H := hP
  have hD : va_D A [((a 63), .inr (8, [.int v1_, .int v2_, .ref (a 67)])), ((a 67), .inl (cy 2, 30, .inr (.inl (fun _ => 0))))] := hD
  refine lv_iinc (v := 29) (lv' := [(3, .int 29), (0, .ref (a 63)), (1, .int v1_), (2, .int v2_)]) hx hb dX8_lay_25 hl (k := 0) rfl (by decide) (by decide) rfl (fun ls hl => ?_)
  refine lv_goto (tgt := 12) hx hb dX8_lay_28 (by decide) ?_
  refine lv_iload_n hx hb dX8_lay_12 rfl (lv_at hl 0 rfl) ?_
  refine lv_bipush (v := 30) hx hb dX8_lay_13 (by decide) ?_
  refine lv_icmp_ge (tgt := 31) hx hb dX8_lay_15 (by decide) (fun q => absurd q (by decide)) (fun _ => ?_)
  refine lv_aload_n hx hb dX8_lay_18 rfl (lv_at hl 1 rfl) ?_
  refine va_get (ci := 8) (v := .ref (a 67)) (C := RX8) (T := TX8) (N := 3) hx hb htA in_X8 hown hK hP 0 rfl rfl 2 (by decide) (htA _ wd_299) (fun _ h => h) rfl dX8_lay_19 ?_
  refine lv_iload_n hx hb dX8_lay_22 rfl (lv_at hl 0 rfl) ?_
  refine lv_lconst (v := 0) hx hb dX8_lay_23 (by decide) ?_
  refine va_last hx hb hK hP hD hS 1 2 rfl rfl (in_lit (by decide)) dX8_lay_24 (fun H locs hP hD hS => ?_)
  rw [fa_upd_sameL (f := fun _ => 0) (i := (29 : Int32).toNatClampNeg) (x := 0) (by first | decide | rfl)] at hP hD
  have hP : va_P D vwCl [((a 63), .inr (8, [.int v1_, .int v2_, .ref (a 67)])), ((a 67), .inl (cy 2, 30, .inr (.inl (fun _ => 0))))] H := hP
  have hD : va_D A [((a 63), .inr (8, [.int v1_, .int v2_, .ref (a 67)])), ((a 67), .inl (cy 2, 30, .inr (.inl (fun _ => 0))))] := hD
  refine lv_iinc (v := 30) (lv' := [(3, .int 30), (0, .ref (a 63)), (1, .int v1_), (2, .int v2_)]) hx hb dX8_lay_25 hl (k := 0) rfl (by decide) (by decide) rfl (fun ls hl => ?_)
  refine lv_goto (tgt := 12) hx hb dX8_lay_28 (by decide) ?_
  refine lv_iload_n hx hb dX8_lay_12 rfl (lv_at hl 0 rfl) ?_
  refine lv_bipush (v := 30) hx hb dX8_lay_13 (by decide) ?_
  refine lv_icmp_ge (tgt := 31) hx hb dX8_lay_15 (by decide) (fun _ => ?_) (fun q => absurd (by decide) q)
  exact rV hX hE hP hD hS dX8_lay_31 (by decide) (by decide) (rfl)
set_option maxHeartbeats 4000000 in
set_option maxRecDepth 100000 in
theorem m_tray (l : Launch) (hlt : l.stackTraces = false) (D : va_G) (cy : Nat → ClassId) (a : Nat → Nat) (p1 : Int32) (p2 : Int32) (p3 : Int32) : Xv l yX10_tray cX10_tray 5 none { frames := 7, cells := 2, slots := 12, locals := 111 } D cy [.ref (a 0), .int p1, .int p2, .int p3] [((a 0), .inr (10, [.ref (a 1), .int 0, .int 0, .int (-1), .ref (a 2), .ref (a 3), .ref (a 4), .ref (a 5), .ref (a 6), .ref (a 7), .ref (a 8), .ref (a 9), .int 0])), ((a 8), .inl (cy 5, 4, .inr (.inr (.inr (.inr (va_up (va_up (va_up (va_up (fun _ => none) (0 : Int32).toNatClampNeg (some (a 60))) (1 : Int32).toNatClampNeg (some (a 61))) (2 : Int32).toNatClampNeg (some (a 62))) (3 : Int32).toNatClampNeg (some (a 63)))))))), ((a 60), .inr (8, [.int (-1), .int 0, .ref (a 64)])), ((a 61), .inr (8, [.int (-1), .int 0, .ref (a 65)])), ((a 62), .inr (8, [.int (-1), .int 0, .ref (a 66)])), ((a 63), .inr (8, [.int (-1), .int 0, .ref (a 67)])), ((a 64), .inl (cy 2, 30, .inr (.inl (fun _ => 0)))), ((a 65), .inl (cy 2, 30, .inr (.inl (fun _ => 0)))), ((a 66), .inl (cy 2, 30, .inr (.inl (fun _ => 0)))), ((a 67), .inl (cy 2, 30, .inr (.inl (fun _ => 0))))] (fun _ => kf_tray p1 p2 p3 = 0) (fun E _ => (E = "java/util/NoSuchElementException" ∧ kf_tray p1 p2 p3 = 1) ∨ (E = "java/lang/IllegalArgumentException" ∧ kf_tray p1 p2 p3 = 2)) := by
  refine Xv.of (by decide) (Nat.le_of_ble_eq_true rfl) ?_
  intro p e s m below meth c A ls hX hE hP hD hl hxt
  obtain ⟨hx, hb, hr, hml, hown, htA, hlk⟩ := id hX
  have hK := hE.1
  have hS : va_S A s.heap s.heap [] := va_S.rf
  have hl : lv_has ls 5 [(0, .ref (a 0)), (1, .int p1), (2, .int p2), (3, .int p3)] := hl
  refine lv_aload_n hx hb dX10_tray_0 rfl (lv_at hl 0 rfl) ?_
  refine lv_iload_n hx hb dX10_tray_1 rfl (lv_at hl 1 rfl) ?_
  refine xVr (As := [.int p1]) (rest := []) (wr := [((a 60), .inr (8, [.int (-1), .int 0, .ref (a 64)])), ((a 61), .inr (8, [.int (-1), .int 0, .ref (a 65)])), ((a 62), .inr (8, [.int (-1), .int 0, .ref (a 66)])), ((a 63), .inr (8, [.int (-1), .int 0, .ref (a 67)])), ((a 64), .inl (cy 2, 30, .inr (.inl (fun _ => 0)))), ((a 65), .inl (cy 2, 30, .inr (.inl (fun _ => 0)))), ((a 66), .inl (cy 2, 30, .inr (.inl (fun _ => 0)))), ((a 67), .inl (cy 2, 30, .inr (.inl (fun _ => 0))))]) hX hE (au_X10_anyTray_8 l hlt D cy a p1) (cwVA 1 htA wd_977 wd_974 wd_1 wd_976 wp_31 (by decide +kernel) ⟨by decide, by decide⟩) hP hD hS [0, 1] [2, 3, 4, 5, 6, 7, 8, 9] rfl rfl (by decide) 0 rfl rfl rfl rfl hl.1 rfl (Nat.le_of_ble_eq_true rfl) dX10_tray_2 (by decide) (fun E ce q9 W1 H locs hw hP hD hS hce hcv hcl => ?_) (fun r_ W1 H locs hw hP hD hS => ?_)
  · rcases hw with ⟨g13, rfl⟩ | ⟨g14, g15, rfl⟩
    · exact xO hX hE hxt hP hD hS hce hcv hcl (by decide) (by decide) (Or.inl (⟨rfl, (by have kg13 := g13; (try simp only [lg_cmp_lt, lg_cmp_le, lg_cmp_ge, lg_cmp_gt, lg_cmp_eq, fa_lt, fa_le, fa_eq, fa_lt64, fa_le64, fa_eq64, Int32.toInt_toInt64, li_0, lj_0] at kg13); first | rfl | (unfold kf_tray; (repeat' split) <;> first | rfl | (exfalso; omega)))⟩))
    · exact xO hX hE hxt hP hD hS hce hcv hcl (by decide) (by decide) (Or.inl (⟨rfl, (by have kg14 := g14; have kg15 := g15; (try simp only [lg_cmp_lt, lg_cmp_le, lg_cmp_ge, lg_cmp_gt, lg_cmp_eq, fa_lt, fa_le, fa_eq, fa_lt64, fa_le64, fa_eq64, Int32.toInt_toInt64, li_0, lj_0, li_4, lj_4] at kg14); (try simp only [lg_cmp_lt, lg_cmp_le, lg_cmp_ge, lg_cmp_gt, lg_cmp_eq, fa_lt, fa_le, fa_eq, fa_lt64, fa_le64, fa_eq64, Int32.toInt_toInt64, li_0, lj_0, li_4, lj_4] at kg15); first | rfl | (unfold kf_tray; (repeat' split) <;> first | rfl | (exfalso; omega)))⟩))
  · refine W.widen (k := 1) (n := 6) (by decide) (by decide) ?_
    rcases hw with ⟨g1, g2, g3, rfl, rfl⟩ | ⟨g4, g5, g6, rfl, rfl⟩ | ⟨g7, g8, g9, rfl, rfl⟩ | ⟨g10, g11, g12, rfl, rfl⟩
    · have hP : va_P D vwCl [((a 60), .inr (8, [.int (-1), .int 0, .ref (a 64)])), ((a 61), .inr (8, [.int (-1), .int 0, .ref (a 65)])), ((a 62), .inr (8, [.int (-1), .int 0, .ref (a 66)])), ((a 63), .inr (8, [.int (-1), .int 0, .ref (a 67)])), ((a 64), .inl (cy 2, 30, .inr (.inl (fun _ => 0)))), ((a 65), .inl (cy 2, 30, .inr (.inl (fun _ => 0)))), ((a 66), .inl (cy 2, 30, .inr (.inl (fun _ => 0)))), ((a 67), .inl (cy 2, 30, .inr (.inl (fun _ => 0)))), ((a 0), .inr (10, [.ref (a 1), .int 0, .int 0, .int (-1), .ref (a 2), .ref (a 3), .ref (a 4), .ref (a 5), .ref (a 6), .ref (a 7), .ref (a 8), .ref (a 9), .int 0])), ((a 8), .inl (cy 5, 4, .inr (.inr (.inr (.inr (va_up (va_up (va_up (va_up (fun _ => none) (0 : Int32).toNatClampNeg (some (a 60))) (1 : Int32).toNatClampNeg (some (a 61))) (2 : Int32).toNatClampNeg (some (a 62))) (3 : Int32).toNatClampNeg (some (a 63))))))))] H := hP
      have hD : va_D A [((a 60), .inr (8, [.int (-1), .int 0, .ref (a 64)])), ((a 61), .inr (8, [.int (-1), .int 0, .ref (a 65)])), ((a 62), .inr (8, [.int (-1), .int 0, .ref (a 66)])), ((a 63), .inr (8, [.int (-1), .int 0, .ref (a 67)])), ((a 64), .inl (cy 2, 30, .inr (.inl (fun _ => 0)))), ((a 65), .inl (cy 2, 30, .inr (.inl (fun _ => 0)))), ((a 66), .inl (cy 2, 30, .inr (.inl (fun _ => 0)))), ((a 67), .inl (cy 2, 30, .inr (.inl (fun _ => 0)))), ((a 0), .inr (10, [.ref (a 1), .int 0, .int 0, .int (-1), .ref (a 2), .ref (a 3), .ref (a 4), .ref (a 5), .ref (a 6), .ref (a 7), .ref (a 8), .ref (a 9), .int 0])), ((a 8), .inl (cy 5, 4, .inr (.inr (.inr (.inr (va_up (va_up (va_up (va_up (fun _ => none) (0 : Int32).toNatClampNeg (some (a 60))) (1 : Int32).toNatClampNeg (some (a 61))) (2 : Int32).toNatClampNeg (some (a 62))) (3 : Int32).toNatClampNeg (some (a 63))))))))] := hD
      refine lv_astore (lv' := [(4, .ref (a 60)), (0, .ref (a 0)), (1, .int p1), (2, .int p2), (3, .int p3)]) hx hb dX10_tray_5 hl (by decide) rfl (fun ls hl => ?_)
      refine lv_iload_n hx hb dX10_tray_7 rfl (lv_at hl 3 rfl) ?_
      refine lv_if_lt (tgt := 26) hx hb dX10_tray_8 (by decide) (fun c16 => ?_) (fun c16 => ?_)
      · exact k_throwSW hlt hX hE hxt hP hD hS hl.1 (by decide) (htA _ wd_531) (htA _ wd_14) (xSW_in hE.2.2.2 "LateFalls" 376 "no such sort, or not so many" (by decide)) (at_X10_87 htA hE.2.2.2) ot_X10_83_87 dX10_tray_26 dX10_tray_29 dX10_tray_30 dX10_tray_33 dX10_tray_36 (by decide) (by decide) (by decide) (by decide) (by decide) (by decide) (Or.inr (⟨rfl, (by have kg1 := g1; have kg2 := g2; have kg3 := g3; have kc16 := c16; (try simp only [lg_cmp_lt, lg_cmp_le, lg_cmp_ge, lg_cmp_gt, lg_cmp_eq, fa_lt, fa_le, fa_eq, fa_lt64, fa_le64, fa_eq64, Int32.toInt_toInt64, li_0, lj_0, li_4, lj_4] at kg1); (try simp only [lg_cmp_lt, lg_cmp_le, lg_cmp_ge, lg_cmp_gt, lg_cmp_eq, fa_lt, fa_le, fa_eq, fa_lt64, fa_le64, fa_eq64, Int32.toInt_toInt64, li_0, lj_0, li_4, lj_4] at kg2); (try simp only [lg_cmp_lt, lg_cmp_le, lg_cmp_ge, lg_cmp_gt, lg_cmp_eq, fa_lt, fa_le, fa_eq, fa_lt64, fa_le64, fa_eq64, Int32.toInt_toInt64, li_0, lj_0, li_4, lj_4] at kg3); (try simp only [lg_cmp_lt, lg_cmp_le, lg_cmp_ge, lg_cmp_gt, lg_cmp_eq, fa_lt, fa_le, fa_eq, fa_lt64, fa_le64, fa_eq64, Int32.toInt_toInt64, li_0, lj_0, li_4, lj_4] at kc16); first | rfl | (unfold kf_tray; (repeat' split) <;> first | rfl | (exfalso; omega)))⟩))
      · refine lv_iload_n hx hb dX10_tray_11 rfl (lv_at hl 3 rfl) ?_
        refine lv_iconst (v := 4) hx hb dX10_tray_12 (by decide) ?_
        refine lv_icmp_ge (tgt := 26) hx hb dX10_tray_13 (by decide) (fun c17 => ?_) (fun c17 => ?_)
        · exact k_throwSW hlt hX hE hxt hP hD hS hl.1 (by decide) (htA _ wd_531) (htA _ wd_14) (xSW_in hE.2.2.2 "LateFalls" 376 "no such sort, or not so many" (by decide)) (at_X10_87 htA hE.2.2.2) ot_X10_83_87 dX10_tray_26 dX10_tray_29 dX10_tray_30 dX10_tray_33 dX10_tray_36 (by decide) (by decide) (by decide) (by decide) (by decide) (by decide) (Or.inr (⟨rfl, (by have kg1 := g1; have kg2 := g2; have kg3 := g3; have kc16 := c16; have kc17 := c17; (try simp only [lg_cmp_lt, lg_cmp_le, lg_cmp_ge, lg_cmp_gt, lg_cmp_eq, fa_lt, fa_le, fa_eq, fa_lt64, fa_le64, fa_eq64, Int32.toInt_toInt64, li_0, lj_0, li_4, lj_4] at kg1); (try simp only [lg_cmp_lt, lg_cmp_le, lg_cmp_ge, lg_cmp_gt, lg_cmp_eq, fa_lt, fa_le, fa_eq, fa_lt64, fa_le64, fa_eq64, Int32.toInt_toInt64, li_0, lj_0, li_4, lj_4] at kg2); (try simp only [lg_cmp_lt, lg_cmp_le, lg_cmp_ge, lg_cmp_gt, lg_cmp_eq, fa_lt, fa_le, fa_eq, fa_lt64, fa_le64, fa_eq64, Int32.toInt_toInt64, li_0, lj_0, li_4, lj_4] at kg3); (try simp only [lg_cmp_lt, lg_cmp_le, lg_cmp_ge, lg_cmp_gt, lg_cmp_eq, fa_lt, fa_le, fa_eq, fa_lt64, fa_le64, fa_eq64, Int32.toInt_toInt64, li_0, lj_0, li_4, lj_4] at kc16); (try simp only [lg_cmp_lt, lg_cmp_le, lg_cmp_ge, lg_cmp_gt, lg_cmp_eq, fa_lt, fa_le, fa_eq, fa_lt64, fa_le64, fa_eq64, Int32.toInt_toInt64, li_0, lj_0, li_4, lj_4] at kc17); first | rfl | (unfold kf_tray; (repeat' split) <;> first | rfl | (exfalso; omega)))⟩))
        · refine lv_iload_n hx hb dX10_tray_16 rfl (lv_at hl 4 rfl) ?_
          refine lv_if_lt (tgt := 26) hx hb dX10_tray_17 (by decide) (fun c18 => ?_) (fun c18 => ?_)
          · exact k_throwSW hlt hX hE hxt hP hD hS hl.1 (by decide) (htA _ wd_531) (htA _ wd_14) (xSW_in hE.2.2.2 "LateFalls" 376 "no such sort, or not so many" (by decide)) (at_X10_87 htA hE.2.2.2) ot_X10_83_87 dX10_tray_26 dX10_tray_29 dX10_tray_30 dX10_tray_33 dX10_tray_36 (by decide) (by decide) (by decide) (by decide) (by decide) (by decide) (Or.inr (⟨rfl, (by have kg1 := g1; have kg2 := g2; have kg3 := g3; have kc16 := c16; have kc17 := c17; have kc18 := c18; (try simp only [lg_cmp_lt, lg_cmp_le, lg_cmp_ge, lg_cmp_gt, lg_cmp_eq, fa_lt, fa_le, fa_eq, fa_lt64, fa_le64, fa_eq64, Int32.toInt_toInt64, li_0, lj_0, li_4, lj_4] at kg1); (try simp only [lg_cmp_lt, lg_cmp_le, lg_cmp_ge, lg_cmp_gt, lg_cmp_eq, fa_lt, fa_le, fa_eq, fa_lt64, fa_le64, fa_eq64, Int32.toInt_toInt64, li_0, lj_0, li_4, lj_4] at kg2); (try simp only [lg_cmp_lt, lg_cmp_le, lg_cmp_ge, lg_cmp_gt, lg_cmp_eq, fa_lt, fa_le, fa_eq, fa_lt64, fa_le64, fa_eq64, Int32.toInt_toInt64, li_0, lj_0, li_4, lj_4] at kg3); (try simp only [lg_cmp_lt, lg_cmp_le, lg_cmp_ge, lg_cmp_gt, lg_cmp_eq, fa_lt, fa_le, fa_eq, fa_lt64, fa_le64, fa_eq64, Int32.toInt_toInt64, li_0, lj_0, li_4, lj_4] at kc16); (try simp only [lg_cmp_lt, lg_cmp_le, lg_cmp_ge, lg_cmp_gt, lg_cmp_eq, fa_lt, fa_le, fa_eq, fa_lt64, fa_le64, fa_eq64, Int32.toInt_toInt64, li_0, lj_0, li_4, lj_4] at kc17); (try simp only [lg_cmp_lt, lg_cmp_le, lg_cmp_ge, lg_cmp_gt, lg_cmp_eq, fa_lt, fa_le, fa_eq, fa_lt64, fa_le64, fa_eq64, Int32.toInt_toInt64, li_0, lj_0, li_4, lj_4] at kc18); first | rfl | (unfold kf_tray; (repeat' split) <;> first | rfl | (exfalso; omega)))⟩))
          · refine lv_iload_n hx hb dX10_tray_20 rfl (lv_at hl 4 rfl) ?_
            refine lv_bipush (v := 30) hx hb dX10_tray_21 (by decide) ?_
            refine lv_icmp_le (tgt := 37) hx hb dX10_tray_23 (by decide) (fun c19 => ?_) (fun c19 => ?_)
            · refine lv_aload hx hb dX10_tray_37 (lv_at hl 0 rfl) ?_
              refine lv_iload_n hx hb dX10_tray_39 rfl (lv_at hl 3 rfl) ?_
              refine lv_iload_n hx hb dX10_tray_40 rfl (lv_at hl 4 rfl) ?_
              refine kVv (As := [.int p2, .int p3]) (rest := []) (wr := [((a 61), .inr (8, [.int (-1), .int 0, .ref (a 65)])), ((a 62), .inr (8, [.int (-1), .int 0, .ref (a 66)])), ((a 63), .inr (8, [.int (-1), .int 0, .ref (a 67)])), ((a 65), .inl (cy 2, 30, .inr (.inl (fun _ => 0)))), ((a 66), .inl (cy 2, 30, .inr (.inl (fun _ => 0)))), ((a 67), .inl (cy 2, 30, .inr (.inl (fun _ => 0)))), ((a 0), .inr (10, [.ref (a 1), .int 0, .int 0, .int (-1), .ref (a 2), .ref (a 3), .ref (a 4), .ref (a 5), .ref (a 6), .ref (a 7), .ref (a 8), .ref (a 9), .int 0])), ((a 8), .inl (cy 5, 4, .inr (.inr (.inr (.inr (va_up (va_up (va_up (va_up (fun _ => none) (0 : Int32).toNatClampNeg (some (a 60))) (1 : Int32).toNatClampNeg (some (a 61))) (2 : Int32).toNatClampNeg (some (a 62))) (3 : Int32).toNatClampNeg (some (a 63))))))))]) hX hE (au_X8_lay_39 l D cy a p2 p3) (cwVA 2 htA wd_1268 wd_1265 wd_9 wd_1266 wd_1267 (by decide +kernel) ⟨by decide, by decide⟩) hP hD hS [0, 4] [1, 2, 3, 5, 6, 7, 8, 9] rfl rfl (by decide) 0 rfl rfl rfl rfl hl.1 rfl (Nat.le_of_ble_eq_true rfl) dX10_tray_41 (by decide) (fun W1 H locs hw hP hD hS => ?_)
              refine W.widen (k := 1) (n := 6) (by decide) (by decide) ?_
              obtain rfl := hw
              have hP : va_P D vwCl [((a 61), .inr (8, [.int (-1), .int 0, .ref (a 65)])), ((a 62), .inr (8, [.int (-1), .int 0, .ref (a 66)])), ((a 63), .inr (8, [.int (-1), .int 0, .ref (a 67)])), ((a 65), .inl (cy 2, 30, .inr (.inl (fun _ => 0)))), ((a 66), .inl (cy 2, 30, .inr (.inl (fun _ => 0)))), ((a 67), .inl (cy 2, 30, .inr (.inl (fun _ => 0)))), ((a 0), .inr (10, [.ref (a 1), .int 0, .int 0, .int (-1), .ref (a 2), .ref (a 3), .ref (a 4), .ref (a 5), .ref (a 6), .ref (a 7), .ref (a 8), .ref (a 9), .int 0])), ((a 8), .inl (cy 5, 4, .inr (.inr (.inr (.inr (va_up (va_up (va_up (va_up (fun _ => none) (0 : Int32).toNatClampNeg (some (a 60))) (1 : Int32).toNatClampNeg (some (a 61))) (2 : Int32).toNatClampNeg (some (a 62))) (3 : Int32).toNatClampNeg (some (a 63)))))))), ((a 60), .inr (8, [.int p2, .int p3, .ref (a 64)])), ((a 64), .inl (cy 2, 30, .inr (.inl (fun _ => 0))))] H := hP
              have hD : va_D A [((a 61), .inr (8, [.int (-1), .int 0, .ref (a 65)])), ((a 62), .inr (8, [.int (-1), .int 0, .ref (a 66)])), ((a 63), .inr (8, [.int (-1), .int 0, .ref (a 67)])), ((a 65), .inl (cy 2, 30, .inr (.inl (fun _ => 0)))), ((a 66), .inl (cy 2, 30, .inr (.inl (fun _ => 0)))), ((a 67), .inl (cy 2, 30, .inr (.inl (fun _ => 0)))), ((a 0), .inr (10, [.ref (a 1), .int 0, .int 0, .int (-1), .ref (a 2), .ref (a 3), .ref (a 4), .ref (a 5), .ref (a 6), .ref (a 7), .ref (a 8), .ref (a 9), .int 0])), ((a 8), .inl (cy 5, 4, .inr (.inr (.inr (.inr (va_up (va_up (va_up (va_up (fun _ => none) (0 : Int32).toNatClampNeg (some (a 60))) (1 : Int32).toNatClampNeg (some (a 61))) (2 : Int32).toNatClampNeg (some (a 62))) (3 : Int32).toNatClampNeg (some (a 63)))))))), ((a 60), .inr (8, [.int p2, .int p3, .ref (a 64)])), ((a 64), .inl (cy 2, 30, .inr (.inl (fun _ => 0))))] := hD
              obtain rfl : p1 = 0 := (by have kg1 := g1; have kg2 := g2; have kg3 := g3; have kc16 := c16; have kc17 := c17; have kc18 := c18; have kc19 := c19; (try simp only [lg_cmp_lt, lg_cmp_le, lg_cmp_ge, lg_cmp_gt, lg_cmp_eq, fa_lt, fa_le, fa_eq, fa_lt64, fa_le64, fa_eq64, Int32.toInt_toInt64, li_0, lj_0, li_4, lj_4, li_30, lj_30] at kg1); (try simp only [lg_cmp_lt, lg_cmp_le, lg_cmp_ge, lg_cmp_gt, lg_cmp_eq, fa_lt, fa_le, fa_eq, fa_lt64, fa_le64, fa_eq64, Int32.toInt_toInt64, li_0, lj_0, li_4, lj_4, li_30, lj_30] at kg2); (try simp only [lg_cmp_lt, lg_cmp_le, lg_cmp_ge, lg_cmp_gt, lg_cmp_eq, fa_lt, fa_le, fa_eq, fa_lt64, fa_le64, fa_eq64, Int32.toInt_toInt64, li_0, lj_0, li_4, lj_4, li_30, lj_30] at kg3); (try simp only [lg_cmp_lt, lg_cmp_le, lg_cmp_ge, lg_cmp_gt, lg_cmp_eq, fa_lt, fa_le, fa_eq, fa_lt64, fa_le64, fa_eq64, Int32.toInt_toInt64, li_0, lj_0, li_4, lj_4, li_30, lj_30] at kc16); (try simp only [lg_cmp_lt, lg_cmp_le, lg_cmp_ge, lg_cmp_gt, lg_cmp_eq, fa_lt, fa_le, fa_eq, fa_lt64, fa_le64, fa_eq64, Int32.toInt_toInt64, li_0, lj_0, li_4, lj_4, li_30, lj_30] at kc17); (try simp only [lg_cmp_lt, lg_cmp_le, lg_cmp_ge, lg_cmp_gt, lg_cmp_eq, fa_lt, fa_le, fa_eq, fa_lt64, fa_le64, fa_eq64, Int32.toInt_toInt64, li_0, lj_0, li_4, lj_4, li_30, lj_30] at kc18); (try simp only [lg_cmp_lt, lg_cmp_le, lg_cmp_ge, lg_cmp_gt, lg_cmp_eq, fa_lt, fa_le, fa_eq, fa_lt64, fa_le64, fa_eq64, Int32.toInt_toInt64, li_0, lj_0, li_4, lj_4, li_30, lj_30] at kc19); rw [fa_eq, li_0]; omega)
              exact vx_ret (rV hX hE hP hD hS dX10_tray_44 (by decide) (by decide) ((by have kg1 := g1; have kg2 := g2; have kg3 := g3; have kc16 := c16; have kc17 := c17; have kc18 := c18; have kc19 := c19; (try simp only [lg_cmp_lt, lg_cmp_le, lg_cmp_ge, lg_cmp_gt, lg_cmp_eq, fa_lt, fa_le, fa_eq, fa_lt64, fa_le64, fa_eq64, Int32.toInt_toInt64, li_0, lj_0, li_4, lj_4, li_30, lj_30] at kg1); (try simp only [lg_cmp_lt, lg_cmp_le, lg_cmp_ge, lg_cmp_gt, lg_cmp_eq, fa_lt, fa_le, fa_eq, fa_lt64, fa_le64, fa_eq64, Int32.toInt_toInt64, li_0, lj_0, li_4, lj_4, li_30, lj_30] at kg2); (try simp only [lg_cmp_lt, lg_cmp_le, lg_cmp_ge, lg_cmp_gt, lg_cmp_eq, fa_lt, fa_le, fa_eq, fa_lt64, fa_le64, fa_eq64, Int32.toInt_toInt64, li_0, lj_0, li_4, lj_4, li_30, lj_30] at kg3); (try simp only [lg_cmp_lt, lg_cmp_le, lg_cmp_ge, lg_cmp_gt, lg_cmp_eq, fa_lt, fa_le, fa_eq, fa_lt64, fa_le64, fa_eq64, Int32.toInt_toInt64, li_0, lj_0, li_4, lj_4, li_30, lj_30] at kc16); (try simp only [lg_cmp_lt, lg_cmp_le, lg_cmp_ge, lg_cmp_gt, lg_cmp_eq, fa_lt, fa_le, fa_eq, fa_lt64, fa_le64, fa_eq64, Int32.toInt_toInt64, li_0, lj_0, li_4, lj_4, li_30, lj_30] at kc17); (try simp only [lg_cmp_lt, lg_cmp_le, lg_cmp_ge, lg_cmp_gt, lg_cmp_eq, fa_lt, fa_le, fa_eq, fa_lt64, fa_le64, fa_eq64, Int32.toInt_toInt64, li_0, lj_0, li_4, lj_4, li_30, lj_30] at kc18); (try simp only [lg_cmp_lt, lg_cmp_le, lg_cmp_ge, lg_cmp_gt, lg_cmp_eq, fa_lt, fa_le, fa_eq, fa_lt64, fa_le64, fa_eq64, Int32.toInt_toInt64, li_0, lj_0, li_4, lj_4, li_30, lj_30] at kc19); first | rfl | (unfold kf_tray; (try simp only [li_0, and_self, and_true, true_and, if_true]); (repeat' split) <;> first | rfl | (exfalso; omega)))))
            · exact k_throwSW hlt hX hE hxt hP hD hS hl.1 (by decide) (htA _ wd_531) (htA _ wd_14) (xSW_in hE.2.2.2 "LateFalls" 376 "no such sort, or not so many" (by decide)) (at_X10_87 htA hE.2.2.2) ot_X10_83_87 dX10_tray_26 dX10_tray_29 dX10_tray_30 dX10_tray_33 dX10_tray_36 (by decide) (by decide) (by decide) (by decide) (by decide) (by decide) (Or.inr (⟨rfl, (by have kg1 := g1; have kg2 := g2; have kg3 := g3; have kc16 := c16; have kc17 := c17; have kc18 := c18; have kc19 := c19; (try simp only [lg_cmp_lt, lg_cmp_le, lg_cmp_ge, lg_cmp_gt, lg_cmp_eq, fa_lt, fa_le, fa_eq, fa_lt64, fa_le64, fa_eq64, Int32.toInt_toInt64, li_0, lj_0, li_4, lj_4, li_30, lj_30] at kg1); (try simp only [lg_cmp_lt, lg_cmp_le, lg_cmp_ge, lg_cmp_gt, lg_cmp_eq, fa_lt, fa_le, fa_eq, fa_lt64, fa_le64, fa_eq64, Int32.toInt_toInt64, li_0, lj_0, li_4, lj_4, li_30, lj_30] at kg2); (try simp only [lg_cmp_lt, lg_cmp_le, lg_cmp_ge, lg_cmp_gt, lg_cmp_eq, fa_lt, fa_le, fa_eq, fa_lt64, fa_le64, fa_eq64, Int32.toInt_toInt64, li_0, lj_0, li_4, lj_4, li_30, lj_30] at kg3); (try simp only [lg_cmp_lt, lg_cmp_le, lg_cmp_ge, lg_cmp_gt, lg_cmp_eq, fa_lt, fa_le, fa_eq, fa_lt64, fa_le64, fa_eq64, Int32.toInt_toInt64, li_0, lj_0, li_4, lj_4, li_30, lj_30] at kc16); (try simp only [lg_cmp_lt, lg_cmp_le, lg_cmp_ge, lg_cmp_gt, lg_cmp_eq, fa_lt, fa_le, fa_eq, fa_lt64, fa_le64, fa_eq64, Int32.toInt_toInt64, li_0, lj_0, li_4, lj_4, li_30, lj_30] at kc17); (try simp only [lg_cmp_lt, lg_cmp_le, lg_cmp_ge, lg_cmp_gt, lg_cmp_eq, fa_lt, fa_le, fa_eq, fa_lt64, fa_le64, fa_eq64, Int32.toInt_toInt64, li_0, lj_0, li_4, lj_4, li_30, lj_30] at kc18); (try simp only [lg_cmp_lt, lg_cmp_le, lg_cmp_ge, lg_cmp_gt, lg_cmp_eq, fa_lt, fa_le, fa_eq, fa_lt64, fa_le64, fa_eq64, Int32.toInt_toInt64, li_0, lj_0, li_4, lj_4, li_30, lj_30] at kc19); first | rfl | (unfold kf_tray; (repeat' split) <;> first | rfl | (exfalso; omega)))⟩))
    · have hP : va_P D vwCl [((a 60), .inr (8, [.int (-1), .int 0, .ref (a 64)])), ((a 61), .inr (8, [.int (-1), .int 0, .ref (a 65)])), ((a 62), .inr (8, [.int (-1), .int 0, .ref (a 66)])), ((a 63), .inr (8, [.int (-1), .int 0, .ref (a 67)])), ((a 64), .inl (cy 2, 30, .inr (.inl (fun _ => 0)))), ((a 65), .inl (cy 2, 30, .inr (.inl (fun _ => 0)))), ((a 66), .inl (cy 2, 30, .inr (.inl (fun _ => 0)))), ((a 67), .inl (cy 2, 30, .inr (.inl (fun _ => 0)))), ((a 0), .inr (10, [.ref (a 1), .int 0, .int 0, .int (-1), .ref (a 2), .ref (a 3), .ref (a 4), .ref (a 5), .ref (a 6), .ref (a 7), .ref (a 8), .ref (a 9), .int 0])), ((a 8), .inl (cy 5, 4, .inr (.inr (.inr (.inr (va_up (va_up (va_up (va_up (fun _ => none) (0 : Int32).toNatClampNeg (some (a 60))) (1 : Int32).toNatClampNeg (some (a 61))) (2 : Int32).toNatClampNeg (some (a 62))) (3 : Int32).toNatClampNeg (some (a 63))))))))] H := hP
      have hD : va_D A [((a 60), .inr (8, [.int (-1), .int 0, .ref (a 64)])), ((a 61), .inr (8, [.int (-1), .int 0, .ref (a 65)])), ((a 62), .inr (8, [.int (-1), .int 0, .ref (a 66)])), ((a 63), .inr (8, [.int (-1), .int 0, .ref (a 67)])), ((a 64), .inl (cy 2, 30, .inr (.inl (fun _ => 0)))), ((a 65), .inl (cy 2, 30, .inr (.inl (fun _ => 0)))), ((a 66), .inl (cy 2, 30, .inr (.inl (fun _ => 0)))), ((a 67), .inl (cy 2, 30, .inr (.inl (fun _ => 0)))), ((a 0), .inr (10, [.ref (a 1), .int 0, .int 0, .int (-1), .ref (a 2), .ref (a 3), .ref (a 4), .ref (a 5), .ref (a 6), .ref (a 7), .ref (a 8), .ref (a 9), .int 0])), ((a 8), .inl (cy 5, 4, .inr (.inr (.inr (.inr (va_up (va_up (va_up (va_up (fun _ => none) (0 : Int32).toNatClampNeg (some (a 60))) (1 : Int32).toNatClampNeg (some (a 61))) (2 : Int32).toNatClampNeg (some (a 62))) (3 : Int32).toNatClampNeg (some (a 63))))))))] := hD
      refine lv_astore (lv' := [(4, .ref (a 61)), (0, .ref (a 0)), (1, .int p1), (2, .int p2), (3, .int p3)]) hx hb dX10_tray_5 hl (by decide) rfl (fun ls hl => ?_)
      refine lv_iload_n hx hb dX10_tray_7 rfl (lv_at hl 3 rfl) ?_
      refine lv_if_lt (tgt := 26) hx hb dX10_tray_8 (by decide) (fun c20 => ?_) (fun c20 => ?_)
      · exact k_throwSW hlt hX hE hxt hP hD hS hl.1 (by decide) (htA _ wd_531) (htA _ wd_14) (xSW_in hE.2.2.2 "LateFalls" 376 "no such sort, or not so many" (by decide)) (at_X10_87 htA hE.2.2.2) ot_X10_83_87 dX10_tray_26 dX10_tray_29 dX10_tray_30 dX10_tray_33 dX10_tray_36 (by decide) (by decide) (by decide) (by decide) (by decide) (by decide) (Or.inr (⟨rfl, (by have kg4 := g4; have kg5 := g5; have kg6 := g6; have kc20 := c20; (try simp only [lg_cmp_lt, lg_cmp_le, lg_cmp_ge, lg_cmp_gt, lg_cmp_eq, fa_lt, fa_le, fa_eq, fa_lt64, fa_le64, fa_eq64, Int32.toInt_toInt64, li_0, lj_0, li_1, lj_1, li_4, lj_4] at kg4); (try simp only [lg_cmp_lt, lg_cmp_le, lg_cmp_ge, lg_cmp_gt, lg_cmp_eq, fa_lt, fa_le, fa_eq, fa_lt64, fa_le64, fa_eq64, Int32.toInt_toInt64, li_0, lj_0, li_1, lj_1, li_4, lj_4] at kg5); (try simp only [lg_cmp_lt, lg_cmp_le, lg_cmp_ge, lg_cmp_gt, lg_cmp_eq, fa_lt, fa_le, fa_eq, fa_lt64, fa_le64, fa_eq64, Int32.toInt_toInt64, li_0, lj_0, li_1, lj_1, li_4, lj_4] at kg6); (try simp only [lg_cmp_lt, lg_cmp_le, lg_cmp_ge, lg_cmp_gt, lg_cmp_eq, fa_lt, fa_le, fa_eq, fa_lt64, fa_le64, fa_eq64, Int32.toInt_toInt64, li_0, lj_0, li_1, lj_1, li_4, lj_4] at kc20); first | rfl | (unfold kf_tray; (repeat' split) <;> first | rfl | (exfalso; omega)))⟩))
      · refine lv_iload_n hx hb dX10_tray_11 rfl (lv_at hl 3 rfl) ?_
        refine lv_iconst (v := 4) hx hb dX10_tray_12 (by decide) ?_
        refine lv_icmp_ge (tgt := 26) hx hb dX10_tray_13 (by decide) (fun c21 => ?_) (fun c21 => ?_)
        · exact k_throwSW hlt hX hE hxt hP hD hS hl.1 (by decide) (htA _ wd_531) (htA _ wd_14) (xSW_in hE.2.2.2 "LateFalls" 376 "no such sort, or not so many" (by decide)) (at_X10_87 htA hE.2.2.2) ot_X10_83_87 dX10_tray_26 dX10_tray_29 dX10_tray_30 dX10_tray_33 dX10_tray_36 (by decide) (by decide) (by decide) (by decide) (by decide) (by decide) (Or.inr (⟨rfl, (by have kg4 := g4; have kg5 := g5; have kg6 := g6; have kc20 := c20; have kc21 := c21; (try simp only [lg_cmp_lt, lg_cmp_le, lg_cmp_ge, lg_cmp_gt, lg_cmp_eq, fa_lt, fa_le, fa_eq, fa_lt64, fa_le64, fa_eq64, Int32.toInt_toInt64, li_0, lj_0, li_1, lj_1, li_4, lj_4] at kg4); (try simp only [lg_cmp_lt, lg_cmp_le, lg_cmp_ge, lg_cmp_gt, lg_cmp_eq, fa_lt, fa_le, fa_eq, fa_lt64, fa_le64, fa_eq64, Int32.toInt_toInt64, li_0, lj_0, li_1, lj_1, li_4, lj_4] at kg5); (try simp only [lg_cmp_lt, lg_cmp_le, lg_cmp_ge, lg_cmp_gt, lg_cmp_eq, fa_lt, fa_le, fa_eq, fa_lt64, fa_le64, fa_eq64, Int32.toInt_toInt64, li_0, lj_0, li_1, lj_1, li_4, lj_4] at kg6); (try simp only [lg_cmp_lt, lg_cmp_le, lg_cmp_ge, lg_cmp_gt, lg_cmp_eq, fa_lt, fa_le, fa_eq, fa_lt64, fa_le64, fa_eq64, Int32.toInt_toInt64, li_0, lj_0, li_1, lj_1, li_4, lj_4] at kc20); (try simp only [lg_cmp_lt, lg_cmp_le, lg_cmp_ge, lg_cmp_gt, lg_cmp_eq, fa_lt, fa_le, fa_eq, fa_lt64, fa_le64, fa_eq64, Int32.toInt_toInt64, li_0, lj_0, li_1, lj_1, li_4, lj_4] at kc21); first | rfl | (unfold kf_tray; (repeat' split) <;> first | rfl | (exfalso; omega)))⟩))
        · refine lv_iload_n hx hb dX10_tray_16 rfl (lv_at hl 4 rfl) ?_
          refine lv_if_lt (tgt := 26) hx hb dX10_tray_17 (by decide) (fun c22 => ?_) (fun c22 => ?_)
          · exact k_throwSW hlt hX hE hxt hP hD hS hl.1 (by decide) (htA _ wd_531) (htA _ wd_14) (xSW_in hE.2.2.2 "LateFalls" 376 "no such sort, or not so many" (by decide)) (at_X10_87 htA hE.2.2.2) ot_X10_83_87 dX10_tray_26 dX10_tray_29 dX10_tray_30 dX10_tray_33 dX10_tray_36 (by decide) (by decide) (by decide) (by decide) (by decide) (by decide) (Or.inr (⟨rfl, (by have kg4 := g4; have kg5 := g5; have kg6 := g6; have kc20 := c20; have kc21 := c21; have kc22 := c22; (try simp only [lg_cmp_lt, lg_cmp_le, lg_cmp_ge, lg_cmp_gt, lg_cmp_eq, fa_lt, fa_le, fa_eq, fa_lt64, fa_le64, fa_eq64, Int32.toInt_toInt64, li_0, lj_0, li_1, lj_1, li_4, lj_4] at kg4); (try simp only [lg_cmp_lt, lg_cmp_le, lg_cmp_ge, lg_cmp_gt, lg_cmp_eq, fa_lt, fa_le, fa_eq, fa_lt64, fa_le64, fa_eq64, Int32.toInt_toInt64, li_0, lj_0, li_1, lj_1, li_4, lj_4] at kg5); (try simp only [lg_cmp_lt, lg_cmp_le, lg_cmp_ge, lg_cmp_gt, lg_cmp_eq, fa_lt, fa_le, fa_eq, fa_lt64, fa_le64, fa_eq64, Int32.toInt_toInt64, li_0, lj_0, li_1, lj_1, li_4, lj_4] at kg6); (try simp only [lg_cmp_lt, lg_cmp_le, lg_cmp_ge, lg_cmp_gt, lg_cmp_eq, fa_lt, fa_le, fa_eq, fa_lt64, fa_le64, fa_eq64, Int32.toInt_toInt64, li_0, lj_0, li_1, lj_1, li_4, lj_4] at kc20); (try simp only [lg_cmp_lt, lg_cmp_le, lg_cmp_ge, lg_cmp_gt, lg_cmp_eq, fa_lt, fa_le, fa_eq, fa_lt64, fa_le64, fa_eq64, Int32.toInt_toInt64, li_0, lj_0, li_1, lj_1, li_4, lj_4] at kc21); (try simp only [lg_cmp_lt, lg_cmp_le, lg_cmp_ge, lg_cmp_gt, lg_cmp_eq, fa_lt, fa_le, fa_eq, fa_lt64, fa_le64, fa_eq64, Int32.toInt_toInt64, li_0, lj_0, li_1, lj_1, li_4, lj_4] at kc22); first | rfl | (unfold kf_tray; (repeat' split) <;> first | rfl | (exfalso; omega)))⟩))
          · refine lv_iload_n hx hb dX10_tray_20 rfl (lv_at hl 4 rfl) ?_
            refine lv_bipush (v := 30) hx hb dX10_tray_21 (by decide) ?_
            refine lv_icmp_le (tgt := 37) hx hb dX10_tray_23 (by decide) (fun c23 => ?_) (fun c23 => ?_)
            · refine lv_aload hx hb dX10_tray_37 (lv_at hl 0 rfl) ?_
              refine lv_iload_n hx hb dX10_tray_39 rfl (lv_at hl 3 rfl) ?_
              refine lv_iload_n hx hb dX10_tray_40 rfl (lv_at hl 4 rfl) ?_
              refine kVv (As := [.int p2, .int p3]) (rest := []) (wr := [((a 60), .inr (8, [.int (-1), .int 0, .ref (a 64)])), ((a 62), .inr (8, [.int (-1), .int 0, .ref (a 66)])), ((a 63), .inr (8, [.int (-1), .int 0, .ref (a 67)])), ((a 64), .inl (cy 2, 30, .inr (.inl (fun _ => 0)))), ((a 66), .inl (cy 2, 30, .inr (.inl (fun _ => 0)))), ((a 67), .inl (cy 2, 30, .inr (.inl (fun _ => 0)))), ((a 0), .inr (10, [.ref (a 1), .int 0, .int 0, .int (-1), .ref (a 2), .ref (a 3), .ref (a 4), .ref (a 5), .ref (a 6), .ref (a 7), .ref (a 8), .ref (a 9), .int 0])), ((a 8), .inl (cy 5, 4, .inr (.inr (.inr (.inr (va_up (va_up (va_up (va_up (fun _ => none) (0 : Int32).toNatClampNeg (some (a 60))) (1 : Int32).toNatClampNeg (some (a 61))) (2 : Int32).toNatClampNeg (some (a 62))) (3 : Int32).toNatClampNeg (some (a 63))))))))]) hX hE (au_X8_lay_40 l D cy a p2 p3) (cwVA 2 htA wd_1268 wd_1265 wd_9 wd_1266 wd_1267 (by decide +kernel) ⟨by decide, by decide⟩) hP hD hS [1, 5] [0, 2, 3, 4, 6, 7, 8, 9] rfl rfl (by decide) 0 rfl rfl rfl rfl hl.1 rfl (Nat.le_of_ble_eq_true rfl) dX10_tray_41 (by decide) (fun W1 H locs hw hP hD hS => ?_)
              refine W.widen (k := 1) (n := 6) (by decide) (by decide) ?_
              obtain rfl := hw
              have hP : va_P D vwCl [((a 60), .inr (8, [.int (-1), .int 0, .ref (a 64)])), ((a 62), .inr (8, [.int (-1), .int 0, .ref (a 66)])), ((a 63), .inr (8, [.int (-1), .int 0, .ref (a 67)])), ((a 64), .inl (cy 2, 30, .inr (.inl (fun _ => 0)))), ((a 66), .inl (cy 2, 30, .inr (.inl (fun _ => 0)))), ((a 67), .inl (cy 2, 30, .inr (.inl (fun _ => 0)))), ((a 0), .inr (10, [.ref (a 1), .int 0, .int 0, .int (-1), .ref (a 2), .ref (a 3), .ref (a 4), .ref (a 5), .ref (a 6), .ref (a 7), .ref (a 8), .ref (a 9), .int 0])), ((a 8), .inl (cy 5, 4, .inr (.inr (.inr (.inr (va_up (va_up (va_up (va_up (fun _ => none) (0 : Int32).toNatClampNeg (some (a 60))) (1 : Int32).toNatClampNeg (some (a 61))) (2 : Int32).toNatClampNeg (some (a 62))) (3 : Int32).toNatClampNeg (some (a 63)))))))), ((a 61), .inr (8, [.int p2, .int p3, .ref (a 65)])), ((a 65), .inl (cy 2, 30, .inr (.inl (fun _ => 0))))] H := hP
              have hD : va_D A [((a 60), .inr (8, [.int (-1), .int 0, .ref (a 64)])), ((a 62), .inr (8, [.int (-1), .int 0, .ref (a 66)])), ((a 63), .inr (8, [.int (-1), .int 0, .ref (a 67)])), ((a 64), .inl (cy 2, 30, .inr (.inl (fun _ => 0)))), ((a 66), .inl (cy 2, 30, .inr (.inl (fun _ => 0)))), ((a 67), .inl (cy 2, 30, .inr (.inl (fun _ => 0)))), ((a 0), .inr (10, [.ref (a 1), .int 0, .int 0, .int (-1), .ref (a 2), .ref (a 3), .ref (a 4), .ref (a 5), .ref (a 6), .ref (a 7), .ref (a 8), .ref (a 9), .int 0])), ((a 8), .inl (cy 5, 4, .inr (.inr (.inr (.inr (va_up (va_up (va_up (va_up (fun _ => none) (0 : Int32).toNatClampNeg (some (a 60))) (1 : Int32).toNatClampNeg (some (a 61))) (2 : Int32).toNatClampNeg (some (a 62))) (3 : Int32).toNatClampNeg (some (a 63)))))))), ((a 61), .inr (8, [.int p2, .int p3, .ref (a 65)])), ((a 65), .inl (cy 2, 30, .inr (.inl (fun _ => 0))))] := hD
              obtain rfl : p1 = 1 := (by have kg4 := g4; have kg5 := g5; have kg6 := g6; have kc20 := c20; have kc21 := c21; have kc22 := c22; have kc23 := c23; (try simp only [lg_cmp_lt, lg_cmp_le, lg_cmp_ge, lg_cmp_gt, lg_cmp_eq, fa_lt, fa_le, fa_eq, fa_lt64, fa_le64, fa_eq64, Int32.toInt_toInt64, li_0, lj_0, li_1, lj_1, li_4, lj_4, li_30, lj_30] at kg4); (try simp only [lg_cmp_lt, lg_cmp_le, lg_cmp_ge, lg_cmp_gt, lg_cmp_eq, fa_lt, fa_le, fa_eq, fa_lt64, fa_le64, fa_eq64, Int32.toInt_toInt64, li_0, lj_0, li_1, lj_1, li_4, lj_4, li_30, lj_30] at kg5); (try simp only [lg_cmp_lt, lg_cmp_le, lg_cmp_ge, lg_cmp_gt, lg_cmp_eq, fa_lt, fa_le, fa_eq, fa_lt64, fa_le64, fa_eq64, Int32.toInt_toInt64, li_0, lj_0, li_1, lj_1, li_4, lj_4, li_30, lj_30] at kg6); (try simp only [lg_cmp_lt, lg_cmp_le, lg_cmp_ge, lg_cmp_gt, lg_cmp_eq, fa_lt, fa_le, fa_eq, fa_lt64, fa_le64, fa_eq64, Int32.toInt_toInt64, li_0, lj_0, li_1, lj_1, li_4, lj_4, li_30, lj_30] at kc20); (try simp only [lg_cmp_lt, lg_cmp_le, lg_cmp_ge, lg_cmp_gt, lg_cmp_eq, fa_lt, fa_le, fa_eq, fa_lt64, fa_le64, fa_eq64, Int32.toInt_toInt64, li_0, lj_0, li_1, lj_1, li_4, lj_4, li_30, lj_30] at kc21); (try simp only [lg_cmp_lt, lg_cmp_le, lg_cmp_ge, lg_cmp_gt, lg_cmp_eq, fa_lt, fa_le, fa_eq, fa_lt64, fa_le64, fa_eq64, Int32.toInt_toInt64, li_0, lj_0, li_1, lj_1, li_4, lj_4, li_30, lj_30] at kc22); (try simp only [lg_cmp_lt, lg_cmp_le, lg_cmp_ge, lg_cmp_gt, lg_cmp_eq, fa_lt, fa_le, fa_eq, fa_lt64, fa_le64, fa_eq64, Int32.toInt_toInt64, li_0, lj_0, li_1, lj_1, li_4, lj_4, li_30, lj_30] at kc23); rw [fa_eq, li_1]; omega)
              exact vx_ret (rV hX hE hP hD hS dX10_tray_44 (by decide) (by decide) ((by have kg4 := g4; have kg5 := g5; have kg6 := g6; have kc20 := c20; have kc21 := c21; have kc22 := c22; have kc23 := c23; (try simp only [lg_cmp_lt, lg_cmp_le, lg_cmp_ge, lg_cmp_gt, lg_cmp_eq, fa_lt, fa_le, fa_eq, fa_lt64, fa_le64, fa_eq64, Int32.toInt_toInt64, li_0, lj_0, li_1, lj_1, li_4, lj_4, li_30, lj_30] at kg4); (try simp only [lg_cmp_lt, lg_cmp_le, lg_cmp_ge, lg_cmp_gt, lg_cmp_eq, fa_lt, fa_le, fa_eq, fa_lt64, fa_le64, fa_eq64, Int32.toInt_toInt64, li_0, lj_0, li_1, lj_1, li_4, lj_4, li_30, lj_30] at kg5); (try simp only [lg_cmp_lt, lg_cmp_le, lg_cmp_ge, lg_cmp_gt, lg_cmp_eq, fa_lt, fa_le, fa_eq, fa_lt64, fa_le64, fa_eq64, Int32.toInt_toInt64, li_0, lj_0, li_1, lj_1, li_4, lj_4, li_30, lj_30] at kg6); (try simp only [lg_cmp_lt, lg_cmp_le, lg_cmp_ge, lg_cmp_gt, lg_cmp_eq, fa_lt, fa_le, fa_eq, fa_lt64, fa_le64, fa_eq64, Int32.toInt_toInt64, li_0, lj_0, li_1, lj_1, li_4, lj_4, li_30, lj_30] at kc20); (try simp only [lg_cmp_lt, lg_cmp_le, lg_cmp_ge, lg_cmp_gt, lg_cmp_eq, fa_lt, fa_le, fa_eq, fa_lt64, fa_le64, fa_eq64, Int32.toInt_toInt64, li_0, lj_0, li_1, lj_1, li_4, lj_4, li_30, lj_30] at kc21); (try simp only [lg_cmp_lt, lg_cmp_le, lg_cmp_ge, lg_cmp_gt, lg_cmp_eq, fa_lt, fa_le, fa_eq, fa_lt64, fa_le64, fa_eq64, Int32.toInt_toInt64, li_0, lj_0, li_1, lj_1, li_4, lj_4, li_30, lj_30] at kc22); (try simp only [lg_cmp_lt, lg_cmp_le, lg_cmp_ge, lg_cmp_gt, lg_cmp_eq, fa_lt, fa_le, fa_eq, fa_lt64, fa_le64, fa_eq64, Int32.toInt_toInt64, li_0, lj_0, li_1, lj_1, li_4, lj_4, li_30, lj_30] at kc23); first | rfl | (unfold kf_tray; (try simp only [li_1, and_self, and_true, true_and, if_true]); (repeat' split) <;> first | rfl | (exfalso; omega)))))
            · exact k_throwSW hlt hX hE hxt hP hD hS hl.1 (by decide) (htA _ wd_531) (htA _ wd_14) (xSW_in hE.2.2.2 "LateFalls" 376 "no such sort, or not so many" (by decide)) (at_X10_87 htA hE.2.2.2) ot_X10_83_87 dX10_tray_26 dX10_tray_29 dX10_tray_30 dX10_tray_33 dX10_tray_36 (by decide) (by decide) (by decide) (by decide) (by decide) (by decide) (Or.inr (⟨rfl, (by have kg4 := g4; have kg5 := g5; have kg6 := g6; have kc20 := c20; have kc21 := c21; have kc22 := c22; have kc23 := c23; (try simp only [lg_cmp_lt, lg_cmp_le, lg_cmp_ge, lg_cmp_gt, lg_cmp_eq, fa_lt, fa_le, fa_eq, fa_lt64, fa_le64, fa_eq64, Int32.toInt_toInt64, li_0, lj_0, li_1, lj_1, li_4, lj_4, li_30, lj_30] at kg4); (try simp only [lg_cmp_lt, lg_cmp_le, lg_cmp_ge, lg_cmp_gt, lg_cmp_eq, fa_lt, fa_le, fa_eq, fa_lt64, fa_le64, fa_eq64, Int32.toInt_toInt64, li_0, lj_0, li_1, lj_1, li_4, lj_4, li_30, lj_30] at kg5); (try simp only [lg_cmp_lt, lg_cmp_le, lg_cmp_ge, lg_cmp_gt, lg_cmp_eq, fa_lt, fa_le, fa_eq, fa_lt64, fa_le64, fa_eq64, Int32.toInt_toInt64, li_0, lj_0, li_1, lj_1, li_4, lj_4, li_30, lj_30] at kg6); (try simp only [lg_cmp_lt, lg_cmp_le, lg_cmp_ge, lg_cmp_gt, lg_cmp_eq, fa_lt, fa_le, fa_eq, fa_lt64, fa_le64, fa_eq64, Int32.toInt_toInt64, li_0, lj_0, li_1, lj_1, li_4, lj_4, li_30, lj_30] at kc20); (try simp only [lg_cmp_lt, lg_cmp_le, lg_cmp_ge, lg_cmp_gt, lg_cmp_eq, fa_lt, fa_le, fa_eq, fa_lt64, fa_le64, fa_eq64, Int32.toInt_toInt64, li_0, lj_0, li_1, lj_1, li_4, lj_4, li_30, lj_30] at kc21); (try simp only [lg_cmp_lt, lg_cmp_le, lg_cmp_ge, lg_cmp_gt, lg_cmp_eq, fa_lt, fa_le, fa_eq, fa_lt64, fa_le64, fa_eq64, Int32.toInt_toInt64, li_0, lj_0, li_1, lj_1, li_4, lj_4, li_30, lj_30] at kc22); (try simp only [lg_cmp_lt, lg_cmp_le, lg_cmp_ge, lg_cmp_gt, lg_cmp_eq, fa_lt, fa_le, fa_eq, fa_lt64, fa_le64, fa_eq64, Int32.toInt_toInt64, li_0, lj_0, li_1, lj_1, li_4, lj_4, li_30, lj_30] at kc23); first | rfl | (unfold kf_tray; (repeat' split) <;> first | rfl | (exfalso; omega)))⟩))
    · have hP : va_P D vwCl [((a 60), .inr (8, [.int (-1), .int 0, .ref (a 64)])), ((a 61), .inr (8, [.int (-1), .int 0, .ref (a 65)])), ((a 62), .inr (8, [.int (-1), .int 0, .ref (a 66)])), ((a 63), .inr (8, [.int (-1), .int 0, .ref (a 67)])), ((a 64), .inl (cy 2, 30, .inr (.inl (fun _ => 0)))), ((a 65), .inl (cy 2, 30, .inr (.inl (fun _ => 0)))), ((a 66), .inl (cy 2, 30, .inr (.inl (fun _ => 0)))), ((a 67), .inl (cy 2, 30, .inr (.inl (fun _ => 0)))), ((a 0), .inr (10, [.ref (a 1), .int 0, .int 0, .int (-1), .ref (a 2), .ref (a 3), .ref (a 4), .ref (a 5), .ref (a 6), .ref (a 7), .ref (a 8), .ref (a 9), .int 0])), ((a 8), .inl (cy 5, 4, .inr (.inr (.inr (.inr (va_up (va_up (va_up (va_up (fun _ => none) (0 : Int32).toNatClampNeg (some (a 60))) (1 : Int32).toNatClampNeg (some (a 61))) (2 : Int32).toNatClampNeg (some (a 62))) (3 : Int32).toNatClampNeg (some (a 63))))))))] H := hP
      have hD : va_D A [((a 60), .inr (8, [.int (-1), .int 0, .ref (a 64)])), ((a 61), .inr (8, [.int (-1), .int 0, .ref (a 65)])), ((a 62), .inr (8, [.int (-1), .int 0, .ref (a 66)])), ((a 63), .inr (8, [.int (-1), .int 0, .ref (a 67)])), ((a 64), .inl (cy 2, 30, .inr (.inl (fun _ => 0)))), ((a 65), .inl (cy 2, 30, .inr (.inl (fun _ => 0)))), ((a 66), .inl (cy 2, 30, .inr (.inl (fun _ => 0)))), ((a 67), .inl (cy 2, 30, .inr (.inl (fun _ => 0)))), ((a 0), .inr (10, [.ref (a 1), .int 0, .int 0, .int (-1), .ref (a 2), .ref (a 3), .ref (a 4), .ref (a 5), .ref (a 6), .ref (a 7), .ref (a 8), .ref (a 9), .int 0])), ((a 8), .inl (cy 5, 4, .inr (.inr (.inr (.inr (va_up (va_up (va_up (va_up (fun _ => none) (0 : Int32).toNatClampNeg (some (a 60))) (1 : Int32).toNatClampNeg (some (a 61))) (2 : Int32).toNatClampNeg (some (a 62))) (3 : Int32).toNatClampNeg (some (a 63))))))))] := hD
      refine lv_astore (lv' := [(4, .ref (a 62)), (0, .ref (a 0)), (1, .int p1), (2, .int p2), (3, .int p3)]) hx hb dX10_tray_5 hl (by decide) rfl (fun ls hl => ?_)
      refine lv_iload_n hx hb dX10_tray_7 rfl (lv_at hl 3 rfl) ?_
      refine lv_if_lt (tgt := 26) hx hb dX10_tray_8 (by decide) (fun c24 => ?_) (fun c24 => ?_)
      · exact k_throwSW hlt hX hE hxt hP hD hS hl.1 (by decide) (htA _ wd_531) (htA _ wd_14) (xSW_in hE.2.2.2 "LateFalls" 376 "no such sort, or not so many" (by decide)) (at_X10_87 htA hE.2.2.2) ot_X10_83_87 dX10_tray_26 dX10_tray_29 dX10_tray_30 dX10_tray_33 dX10_tray_36 (by decide) (by decide) (by decide) (by decide) (by decide) (by decide) (Or.inr (⟨rfl, (by have kg7 := g7; have kg8 := g8; have kg9 := g9; have kc24 := c24; (try simp only [lg_cmp_lt, lg_cmp_le, lg_cmp_ge, lg_cmp_gt, lg_cmp_eq, fa_lt, fa_le, fa_eq, fa_lt64, fa_le64, fa_eq64, Int32.toInt_toInt64, li_0, lj_0, li_2, lj_2, li_4, lj_4] at kg7); (try simp only [lg_cmp_lt, lg_cmp_le, lg_cmp_ge, lg_cmp_gt, lg_cmp_eq, fa_lt, fa_le, fa_eq, fa_lt64, fa_le64, fa_eq64, Int32.toInt_toInt64, li_0, lj_0, li_2, lj_2, li_4, lj_4] at kg8); (try simp only [lg_cmp_lt, lg_cmp_le, lg_cmp_ge, lg_cmp_gt, lg_cmp_eq, fa_lt, fa_le, fa_eq, fa_lt64, fa_le64, fa_eq64, Int32.toInt_toInt64, li_0, lj_0, li_2, lj_2, li_4, lj_4] at kg9); (try simp only [lg_cmp_lt, lg_cmp_le, lg_cmp_ge, lg_cmp_gt, lg_cmp_eq, fa_lt, fa_le, fa_eq, fa_lt64, fa_le64, fa_eq64, Int32.toInt_toInt64, li_0, lj_0, li_2, lj_2, li_4, lj_4] at kc24); first | rfl | (unfold kf_tray; (repeat' split) <;> first | rfl | (exfalso; omega)))⟩))
      · refine lv_iload_n hx hb dX10_tray_11 rfl (lv_at hl 3 rfl) ?_
        refine lv_iconst (v := 4) hx hb dX10_tray_12 (by decide) ?_
        refine lv_icmp_ge (tgt := 26) hx hb dX10_tray_13 (by decide) (fun c25 => ?_) (fun c25 => ?_)
        · exact k_throwSW hlt hX hE hxt hP hD hS hl.1 (by decide) (htA _ wd_531) (htA _ wd_14) (xSW_in hE.2.2.2 "LateFalls" 376 "no such sort, or not so many" (by decide)) (at_X10_87 htA hE.2.2.2) ot_X10_83_87 dX10_tray_26 dX10_tray_29 dX10_tray_30 dX10_tray_33 dX10_tray_36 (by decide) (by decide) (by decide) (by decide) (by decide) (by decide) (Or.inr (⟨rfl, (by have kg7 := g7; have kg8 := g8; have kg9 := g9; have kc24 := c24; have kc25 := c25; (try simp only [lg_cmp_lt, lg_cmp_le, lg_cmp_ge, lg_cmp_gt, lg_cmp_eq, fa_lt, fa_le, fa_eq, fa_lt64, fa_le64, fa_eq64, Int32.toInt_toInt64, li_0, lj_0, li_2, lj_2, li_4, lj_4] at kg7); (try simp only [lg_cmp_lt, lg_cmp_le, lg_cmp_ge, lg_cmp_gt, lg_cmp_eq, fa_lt, fa_le, fa_eq, fa_lt64, fa_le64, fa_eq64, Int32.toInt_toInt64, li_0, lj_0, li_2, lj_2, li_4, lj_4] at kg8); (try simp only [lg_cmp_lt, lg_cmp_le, lg_cmp_ge, lg_cmp_gt, lg_cmp_eq, fa_lt, fa_le, fa_eq, fa_lt64, fa_le64, fa_eq64, Int32.toInt_toInt64, li_0, lj_0, li_2, lj_2, li_4, lj_4] at kg9); (try simp only [lg_cmp_lt, lg_cmp_le, lg_cmp_ge, lg_cmp_gt, lg_cmp_eq, fa_lt, fa_le, fa_eq, fa_lt64, fa_le64, fa_eq64, Int32.toInt_toInt64, li_0, lj_0, li_2, lj_2, li_4, lj_4] at kc24); (try simp only [lg_cmp_lt, lg_cmp_le, lg_cmp_ge, lg_cmp_gt, lg_cmp_eq, fa_lt, fa_le, fa_eq, fa_lt64, fa_le64, fa_eq64, Int32.toInt_toInt64, li_0, lj_0, li_2, lj_2, li_4, lj_4] at kc25); first | rfl | (unfold kf_tray; (repeat' split) <;> first | rfl | (exfalso; omega)))⟩))
        · refine lv_iload_n hx hb dX10_tray_16 rfl (lv_at hl 4 rfl) ?_
          refine lv_if_lt (tgt := 26) hx hb dX10_tray_17 (by decide) (fun c26 => ?_) (fun c26 => ?_)
          · exact k_throwSW hlt hX hE hxt hP hD hS hl.1 (by decide) (htA _ wd_531) (htA _ wd_14) (xSW_in hE.2.2.2 "LateFalls" 376 "no such sort, or not so many" (by decide)) (at_X10_87 htA hE.2.2.2) ot_X10_83_87 dX10_tray_26 dX10_tray_29 dX10_tray_30 dX10_tray_33 dX10_tray_36 (by decide) (by decide) (by decide) (by decide) (by decide) (by decide) (Or.inr (⟨rfl, (by have kg7 := g7; have kg8 := g8; have kg9 := g9; have kc24 := c24; have kc25 := c25; have kc26 := c26; (try simp only [lg_cmp_lt, lg_cmp_le, lg_cmp_ge, lg_cmp_gt, lg_cmp_eq, fa_lt, fa_le, fa_eq, fa_lt64, fa_le64, fa_eq64, Int32.toInt_toInt64, li_0, lj_0, li_2, lj_2, li_4, lj_4] at kg7); (try simp only [lg_cmp_lt, lg_cmp_le, lg_cmp_ge, lg_cmp_gt, lg_cmp_eq, fa_lt, fa_le, fa_eq, fa_lt64, fa_le64, fa_eq64, Int32.toInt_toInt64, li_0, lj_0, li_2, lj_2, li_4, lj_4] at kg8); (try simp only [lg_cmp_lt, lg_cmp_le, lg_cmp_ge, lg_cmp_gt, lg_cmp_eq, fa_lt, fa_le, fa_eq, fa_lt64, fa_le64, fa_eq64, Int32.toInt_toInt64, li_0, lj_0, li_2, lj_2, li_4, lj_4] at kg9); (try simp only [lg_cmp_lt, lg_cmp_le, lg_cmp_ge, lg_cmp_gt, lg_cmp_eq, fa_lt, fa_le, fa_eq, fa_lt64, fa_le64, fa_eq64, Int32.toInt_toInt64, li_0, lj_0, li_2, lj_2, li_4, lj_4] at kc24); (try simp only [lg_cmp_lt, lg_cmp_le, lg_cmp_ge, lg_cmp_gt, lg_cmp_eq, fa_lt, fa_le, fa_eq, fa_lt64, fa_le64, fa_eq64, Int32.toInt_toInt64, li_0, lj_0, li_2, lj_2, li_4, lj_4] at kc25); (try simp only [lg_cmp_lt, lg_cmp_le, lg_cmp_ge, lg_cmp_gt, lg_cmp_eq, fa_lt, fa_le, fa_eq, fa_lt64, fa_le64, fa_eq64, Int32.toInt_toInt64, li_0, lj_0, li_2, lj_2, li_4, lj_4] at kc26); first | rfl | (unfold kf_tray; (repeat' split) <;> first | rfl | (exfalso; omega)))⟩))
          · refine lv_iload_n hx hb dX10_tray_20 rfl (lv_at hl 4 rfl) ?_
            refine lv_bipush (v := 30) hx hb dX10_tray_21 (by decide) ?_
            refine lv_icmp_le (tgt := 37) hx hb dX10_tray_23 (by decide) (fun c27 => ?_) (fun c27 => ?_)
            · refine lv_aload hx hb dX10_tray_37 (lv_at hl 0 rfl) ?_
              refine lv_iload_n hx hb dX10_tray_39 rfl (lv_at hl 3 rfl) ?_
              refine lv_iload_n hx hb dX10_tray_40 rfl (lv_at hl 4 rfl) ?_
              refine kVv (As := [.int p2, .int p3]) (rest := []) (wr := [((a 60), .inr (8, [.int (-1), .int 0, .ref (a 64)])), ((a 61), .inr (8, [.int (-1), .int 0, .ref (a 65)])), ((a 63), .inr (8, [.int (-1), .int 0, .ref (a 67)])), ((a 64), .inl (cy 2, 30, .inr (.inl (fun _ => 0)))), ((a 65), .inl (cy 2, 30, .inr (.inl (fun _ => 0)))), ((a 67), .inl (cy 2, 30, .inr (.inl (fun _ => 0)))), ((a 0), .inr (10, [.ref (a 1), .int 0, .int 0, .int (-1), .ref (a 2), .ref (a 3), .ref (a 4), .ref (a 5), .ref (a 6), .ref (a 7), .ref (a 8), .ref (a 9), .int 0])), ((a 8), .inl (cy 5, 4, .inr (.inr (.inr (.inr (va_up (va_up (va_up (va_up (fun _ => none) (0 : Int32).toNatClampNeg (some (a 60))) (1 : Int32).toNatClampNeg (some (a 61))) (2 : Int32).toNatClampNeg (some (a 62))) (3 : Int32).toNatClampNeg (some (a 63))))))))]) hX hE (au_X8_lay_41 l D cy a p2 p3) (cwVA 2 htA wd_1268 wd_1265 wd_9 wd_1266 wd_1267 (by decide +kernel) ⟨by decide, by decide⟩) hP hD hS [2, 6] [0, 1, 3, 4, 5, 7, 8, 9] rfl rfl (by decide) 0 rfl rfl rfl rfl hl.1 rfl (Nat.le_of_ble_eq_true rfl) dX10_tray_41 (by decide) (fun W1 H locs hw hP hD hS => ?_)
              refine W.widen (k := 1) (n := 6) (by decide) (by decide) ?_
              obtain rfl := hw
              have hP : va_P D vwCl [((a 60), .inr (8, [.int (-1), .int 0, .ref (a 64)])), ((a 61), .inr (8, [.int (-1), .int 0, .ref (a 65)])), ((a 63), .inr (8, [.int (-1), .int 0, .ref (a 67)])), ((a 64), .inl (cy 2, 30, .inr (.inl (fun _ => 0)))), ((a 65), .inl (cy 2, 30, .inr (.inl (fun _ => 0)))), ((a 67), .inl (cy 2, 30, .inr (.inl (fun _ => 0)))), ((a 0), .inr (10, [.ref (a 1), .int 0, .int 0, .int (-1), .ref (a 2), .ref (a 3), .ref (a 4), .ref (a 5), .ref (a 6), .ref (a 7), .ref (a 8), .ref (a 9), .int 0])), ((a 8), .inl (cy 5, 4, .inr (.inr (.inr (.inr (va_up (va_up (va_up (va_up (fun _ => none) (0 : Int32).toNatClampNeg (some (a 60))) (1 : Int32).toNatClampNeg (some (a 61))) (2 : Int32).toNatClampNeg (some (a 62))) (3 : Int32).toNatClampNeg (some (a 63)))))))), ((a 62), .inr (8, [.int p2, .int p3, .ref (a 66)])), ((a 66), .inl (cy 2, 30, .inr (.inl (fun _ => 0))))] H := hP
              have hD : va_D A [((a 60), .inr (8, [.int (-1), .int 0, .ref (a 64)])), ((a 61), .inr (8, [.int (-1), .int 0, .ref (a 65)])), ((a 63), .inr (8, [.int (-1), .int 0, .ref (a 67)])), ((a 64), .inl (cy 2, 30, .inr (.inl (fun _ => 0)))), ((a 65), .inl (cy 2, 30, .inr (.inl (fun _ => 0)))), ((a 67), .inl (cy 2, 30, .inr (.inl (fun _ => 0)))), ((a 0), .inr (10, [.ref (a 1), .int 0, .int 0, .int (-1), .ref (a 2), .ref (a 3), .ref (a 4), .ref (a 5), .ref (a 6), .ref (a 7), .ref (a 8), .ref (a 9), .int 0])), ((a 8), .inl (cy 5, 4, .inr (.inr (.inr (.inr (va_up (va_up (va_up (va_up (fun _ => none) (0 : Int32).toNatClampNeg (some (a 60))) (1 : Int32).toNatClampNeg (some (a 61))) (2 : Int32).toNatClampNeg (some (a 62))) (3 : Int32).toNatClampNeg (some (a 63)))))))), ((a 62), .inr (8, [.int p2, .int p3, .ref (a 66)])), ((a 66), .inl (cy 2, 30, .inr (.inl (fun _ => 0))))] := hD
              obtain rfl : p1 = 2 := (by have kg7 := g7; have kg8 := g8; have kg9 := g9; have kc24 := c24; have kc25 := c25; have kc26 := c26; have kc27 := c27; (try simp only [lg_cmp_lt, lg_cmp_le, lg_cmp_ge, lg_cmp_gt, lg_cmp_eq, fa_lt, fa_le, fa_eq, fa_lt64, fa_le64, fa_eq64, Int32.toInt_toInt64, li_0, lj_0, li_2, lj_2, li_4, lj_4, li_30, lj_30] at kg7); (try simp only [lg_cmp_lt, lg_cmp_le, lg_cmp_ge, lg_cmp_gt, lg_cmp_eq, fa_lt, fa_le, fa_eq, fa_lt64, fa_le64, fa_eq64, Int32.toInt_toInt64, li_0, lj_0, li_2, lj_2, li_4, lj_4, li_30, lj_30] at kg8); (try simp only [lg_cmp_lt, lg_cmp_le, lg_cmp_ge, lg_cmp_gt, lg_cmp_eq, fa_lt, fa_le, fa_eq, fa_lt64, fa_le64, fa_eq64, Int32.toInt_toInt64, li_0, lj_0, li_2, lj_2, li_4, lj_4, li_30, lj_30] at kg9); (try simp only [lg_cmp_lt, lg_cmp_le, lg_cmp_ge, lg_cmp_gt, lg_cmp_eq, fa_lt, fa_le, fa_eq, fa_lt64, fa_le64, fa_eq64, Int32.toInt_toInt64, li_0, lj_0, li_2, lj_2, li_4, lj_4, li_30, lj_30] at kc24); (try simp only [lg_cmp_lt, lg_cmp_le, lg_cmp_ge, lg_cmp_gt, lg_cmp_eq, fa_lt, fa_le, fa_eq, fa_lt64, fa_le64, fa_eq64, Int32.toInt_toInt64, li_0, lj_0, li_2, lj_2, li_4, lj_4, li_30, lj_30] at kc25); (try simp only [lg_cmp_lt, lg_cmp_le, lg_cmp_ge, lg_cmp_gt, lg_cmp_eq, fa_lt, fa_le, fa_eq, fa_lt64, fa_le64, fa_eq64, Int32.toInt_toInt64, li_0, lj_0, li_2, lj_2, li_4, lj_4, li_30, lj_30] at kc26); (try simp only [lg_cmp_lt, lg_cmp_le, lg_cmp_ge, lg_cmp_gt, lg_cmp_eq, fa_lt, fa_le, fa_eq, fa_lt64, fa_le64, fa_eq64, Int32.toInt_toInt64, li_0, lj_0, li_2, lj_2, li_4, lj_4, li_30, lj_30] at kc27); rw [fa_eq, li_2]; omega)
              exact vx_ret (rV hX hE hP hD hS dX10_tray_44 (by decide) (by decide) ((by have kg7 := g7; have kg8 := g8; have kg9 := g9; have kc24 := c24; have kc25 := c25; have kc26 := c26; have kc27 := c27; (try simp only [lg_cmp_lt, lg_cmp_le, lg_cmp_ge, lg_cmp_gt, lg_cmp_eq, fa_lt, fa_le, fa_eq, fa_lt64, fa_le64, fa_eq64, Int32.toInt_toInt64, li_0, lj_0, li_2, lj_2, li_4, lj_4, li_30, lj_30] at kg7); (try simp only [lg_cmp_lt, lg_cmp_le, lg_cmp_ge, lg_cmp_gt, lg_cmp_eq, fa_lt, fa_le, fa_eq, fa_lt64, fa_le64, fa_eq64, Int32.toInt_toInt64, li_0, lj_0, li_2, lj_2, li_4, lj_4, li_30, lj_30] at kg8); (try simp only [lg_cmp_lt, lg_cmp_le, lg_cmp_ge, lg_cmp_gt, lg_cmp_eq, fa_lt, fa_le, fa_eq, fa_lt64, fa_le64, fa_eq64, Int32.toInt_toInt64, li_0, lj_0, li_2, lj_2, li_4, lj_4, li_30, lj_30] at kg9); (try simp only [lg_cmp_lt, lg_cmp_le, lg_cmp_ge, lg_cmp_gt, lg_cmp_eq, fa_lt, fa_le, fa_eq, fa_lt64, fa_le64, fa_eq64, Int32.toInt_toInt64, li_0, lj_0, li_2, lj_2, li_4, lj_4, li_30, lj_30] at kc24); (try simp only [lg_cmp_lt, lg_cmp_le, lg_cmp_ge, lg_cmp_gt, lg_cmp_eq, fa_lt, fa_le, fa_eq, fa_lt64, fa_le64, fa_eq64, Int32.toInt_toInt64, li_0, lj_0, li_2, lj_2, li_4, lj_4, li_30, lj_30] at kc25); (try simp only [lg_cmp_lt, lg_cmp_le, lg_cmp_ge, lg_cmp_gt, lg_cmp_eq, fa_lt, fa_le, fa_eq, fa_lt64, fa_le64, fa_eq64, Int32.toInt_toInt64, li_0, lj_0, li_2, lj_2, li_4, lj_4, li_30, lj_30] at kc26); (try simp only [lg_cmp_lt, lg_cmp_le, lg_cmp_ge, lg_cmp_gt, lg_cmp_eq, fa_lt, fa_le, fa_eq, fa_lt64, fa_le64, fa_eq64, Int32.toInt_toInt64, li_0, lj_0, li_2, lj_2, li_4, lj_4, li_30, lj_30] at kc27); first | rfl | (unfold kf_tray; (try simp only [li_2, and_self, and_true, true_and, if_true]); (repeat' split) <;> first | rfl | (exfalso; omega)))))
            · exact k_throwSW hlt hX hE hxt hP hD hS hl.1 (by decide) (htA _ wd_531) (htA _ wd_14) (xSW_in hE.2.2.2 "LateFalls" 376 "no such sort, or not so many" (by decide)) (at_X10_87 htA hE.2.2.2) ot_X10_83_87 dX10_tray_26 dX10_tray_29 dX10_tray_30 dX10_tray_33 dX10_tray_36 (by decide) (by decide) (by decide) (by decide) (by decide) (by decide) (Or.inr (⟨rfl, (by have kg7 := g7; have kg8 := g8; have kg9 := g9; have kc24 := c24; have kc25 := c25; have kc26 := c26; have kc27 := c27; (try simp only [lg_cmp_lt, lg_cmp_le, lg_cmp_ge, lg_cmp_gt, lg_cmp_eq, fa_lt, fa_le, fa_eq, fa_lt64, fa_le64, fa_eq64, Int32.toInt_toInt64, li_0, lj_0, li_2, lj_2, li_4, lj_4, li_30, lj_30] at kg7); (try simp only [lg_cmp_lt, lg_cmp_le, lg_cmp_ge, lg_cmp_gt, lg_cmp_eq, fa_lt, fa_le, fa_eq, fa_lt64, fa_le64, fa_eq64, Int32.toInt_toInt64, li_0, lj_0, li_2, lj_2, li_4, lj_4, li_30, lj_30] at kg8); (try simp only [lg_cmp_lt, lg_cmp_le, lg_cmp_ge, lg_cmp_gt, lg_cmp_eq, fa_lt, fa_le, fa_eq, fa_lt64, fa_le64, fa_eq64, Int32.toInt_toInt64, li_0, lj_0, li_2, lj_2, li_4, lj_4, li_30, lj_30] at kg9); (try simp only [lg_cmp_lt, lg_cmp_le, lg_cmp_ge, lg_cmp_gt, lg_cmp_eq, fa_lt, fa_le, fa_eq, fa_lt64, fa_le64, fa_eq64, Int32.toInt_toInt64, li_0, lj_0, li_2, lj_2, li_4, lj_4, li_30, lj_30] at kc24); (try simp only [lg_cmp_lt, lg_cmp_le, lg_cmp_ge, lg_cmp_gt, lg_cmp_eq, fa_lt, fa_le, fa_eq, fa_lt64, fa_le64, fa_eq64, Int32.toInt_toInt64, li_0, lj_0, li_2, lj_2, li_4, lj_4, li_30, lj_30] at kc25); (try simp only [lg_cmp_lt, lg_cmp_le, lg_cmp_ge, lg_cmp_gt, lg_cmp_eq, fa_lt, fa_le, fa_eq, fa_lt64, fa_le64, fa_eq64, Int32.toInt_toInt64, li_0, lj_0, li_2, lj_2, li_4, lj_4, li_30, lj_30] at kc26); (try simp only [lg_cmp_lt, lg_cmp_le, lg_cmp_ge, lg_cmp_gt, lg_cmp_eq, fa_lt, fa_le, fa_eq, fa_lt64, fa_le64, fa_eq64, Int32.toInt_toInt64, li_0, lj_0, li_2, lj_2, li_4, lj_4, li_30, lj_30] at kc27); first | rfl | (unfold kf_tray; (repeat' split) <;> first | rfl | (exfalso; omega)))⟩))
    · have hP : va_P D vwCl [((a 60), .inr (8, [.int (-1), .int 0, .ref (a 64)])), ((a 61), .inr (8, [.int (-1), .int 0, .ref (a 65)])), ((a 62), .inr (8, [.int (-1), .int 0, .ref (a 66)])), ((a 63), .inr (8, [.int (-1), .int 0, .ref (a 67)])), ((a 64), .inl (cy 2, 30, .inr (.inl (fun _ => 0)))), ((a 65), .inl (cy 2, 30, .inr (.inl (fun _ => 0)))), ((a 66), .inl (cy 2, 30, .inr (.inl (fun _ => 0)))), ((a 67), .inl (cy 2, 30, .inr (.inl (fun _ => 0)))), ((a 0), .inr (10, [.ref (a 1), .int 0, .int 0, .int (-1), .ref (a 2), .ref (a 3), .ref (a 4), .ref (a 5), .ref (a 6), .ref (a 7), .ref (a 8), .ref (a 9), .int 0])), ((a 8), .inl (cy 5, 4, .inr (.inr (.inr (.inr (va_up (va_up (va_up (va_up (fun _ => none) (0 : Int32).toNatClampNeg (some (a 60))) (1 : Int32).toNatClampNeg (some (a 61))) (2 : Int32).toNatClampNeg (some (a 62))) (3 : Int32).toNatClampNeg (some (a 63))))))))] H := hP
      have hD : va_D A [((a 60), .inr (8, [.int (-1), .int 0, .ref (a 64)])), ((a 61), .inr (8, [.int (-1), .int 0, .ref (a 65)])), ((a 62), .inr (8, [.int (-1), .int 0, .ref (a 66)])), ((a 63), .inr (8, [.int (-1), .int 0, .ref (a 67)])), ((a 64), .inl (cy 2, 30, .inr (.inl (fun _ => 0)))), ((a 65), .inl (cy 2, 30, .inr (.inl (fun _ => 0)))), ((a 66), .inl (cy 2, 30, .inr (.inl (fun _ => 0)))), ((a 67), .inl (cy 2, 30, .inr (.inl (fun _ => 0)))), ((a 0), .inr (10, [.ref (a 1), .int 0, .int 0, .int (-1), .ref (a 2), .ref (a 3), .ref (a 4), .ref (a 5), .ref (a 6), .ref (a 7), .ref (a 8), .ref (a 9), .int 0])), ((a 8), .inl (cy 5, 4, .inr (.inr (.inr (.inr (va_up (va_up (va_up (va_up (fun _ => none) (0 : Int32).toNatClampNeg (some (a 60))) (1 : Int32).toNatClampNeg (some (a 61))) (2 : Int32).toNatClampNeg (some (a 62))) (3 : Int32).toNatClampNeg (some (a 63))))))))] := hD
      refine lv_astore (lv' := [(4, .ref (a 63)), (0, .ref (a 0)), (1, .int p1), (2, .int p2), (3, .int p3)]) hx hb dX10_tray_5 hl (by decide) rfl (fun ls hl => ?_)
      refine lv_iload_n hx hb dX10_tray_7 rfl (lv_at hl 3 rfl) ?_
      refine lv_if_lt (tgt := 26) hx hb dX10_tray_8 (by decide) (fun c28 => ?_) (fun c28 => ?_)
      · exact k_throwSW hlt hX hE hxt hP hD hS hl.1 (by decide) (htA _ wd_531) (htA _ wd_14) (xSW_in hE.2.2.2 "LateFalls" 376 "no such sort, or not so many" (by decide)) (at_X10_87 htA hE.2.2.2) ot_X10_83_87 dX10_tray_26 dX10_tray_29 dX10_tray_30 dX10_tray_33 dX10_tray_36 (by decide) (by decide) (by decide) (by decide) (by decide) (by decide) (Or.inr (⟨rfl, (by have kg10 := g10; have kg11 := g11; have kg12 := g12; have kc28 := c28; (try simp only [lg_cmp_lt, lg_cmp_le, lg_cmp_ge, lg_cmp_gt, lg_cmp_eq, fa_lt, fa_le, fa_eq, fa_lt64, fa_le64, fa_eq64, Int32.toInt_toInt64, li_0, lj_0, li_3, lj_3, li_4, lj_4] at kg10); (try simp only [lg_cmp_lt, lg_cmp_le, lg_cmp_ge, lg_cmp_gt, lg_cmp_eq, fa_lt, fa_le, fa_eq, fa_lt64, fa_le64, fa_eq64, Int32.toInt_toInt64, li_0, lj_0, li_3, lj_3, li_4, lj_4] at kg11); (try simp only [lg_cmp_lt, lg_cmp_le, lg_cmp_ge, lg_cmp_gt, lg_cmp_eq, fa_lt, fa_le, fa_eq, fa_lt64, fa_le64, fa_eq64, Int32.toInt_toInt64, li_0, lj_0, li_3, lj_3, li_4, lj_4] at kg12); (try simp only [lg_cmp_lt, lg_cmp_le, lg_cmp_ge, lg_cmp_gt, lg_cmp_eq, fa_lt, fa_le, fa_eq, fa_lt64, fa_le64, fa_eq64, Int32.toInt_toInt64, li_0, lj_0, li_3, lj_3, li_4, lj_4] at kc28); first | rfl | (unfold kf_tray; (repeat' split) <;> first | rfl | (exfalso; omega)))⟩))
      · refine lv_iload_n hx hb dX10_tray_11 rfl (lv_at hl 3 rfl) ?_
        refine lv_iconst (v := 4) hx hb dX10_tray_12 (by decide) ?_
        refine lv_icmp_ge (tgt := 26) hx hb dX10_tray_13 (by decide) (fun c29 => ?_) (fun c29 => ?_)
        · exact k_throwSW hlt hX hE hxt hP hD hS hl.1 (by decide) (htA _ wd_531) (htA _ wd_14) (xSW_in hE.2.2.2 "LateFalls" 376 "no such sort, or not so many" (by decide)) (at_X10_87 htA hE.2.2.2) ot_X10_83_87 dX10_tray_26 dX10_tray_29 dX10_tray_30 dX10_tray_33 dX10_tray_36 (by decide) (by decide) (by decide) (by decide) (by decide) (by decide) (Or.inr (⟨rfl, (by have kg10 := g10; have kg11 := g11; have kg12 := g12; have kc28 := c28; have kc29 := c29; (try simp only [lg_cmp_lt, lg_cmp_le, lg_cmp_ge, lg_cmp_gt, lg_cmp_eq, fa_lt, fa_le, fa_eq, fa_lt64, fa_le64, fa_eq64, Int32.toInt_toInt64, li_0, lj_0, li_3, lj_3, li_4, lj_4] at kg10); (try simp only [lg_cmp_lt, lg_cmp_le, lg_cmp_ge, lg_cmp_gt, lg_cmp_eq, fa_lt, fa_le, fa_eq, fa_lt64, fa_le64, fa_eq64, Int32.toInt_toInt64, li_0, lj_0, li_3, lj_3, li_4, lj_4] at kg11); (try simp only [lg_cmp_lt, lg_cmp_le, lg_cmp_ge, lg_cmp_gt, lg_cmp_eq, fa_lt, fa_le, fa_eq, fa_lt64, fa_le64, fa_eq64, Int32.toInt_toInt64, li_0, lj_0, li_3, lj_3, li_4, lj_4] at kg12); (try simp only [lg_cmp_lt, lg_cmp_le, lg_cmp_ge, lg_cmp_gt, lg_cmp_eq, fa_lt, fa_le, fa_eq, fa_lt64, fa_le64, fa_eq64, Int32.toInt_toInt64, li_0, lj_0, li_3, lj_3, li_4, lj_4] at kc28); (try simp only [lg_cmp_lt, lg_cmp_le, lg_cmp_ge, lg_cmp_gt, lg_cmp_eq, fa_lt, fa_le, fa_eq, fa_lt64, fa_le64, fa_eq64, Int32.toInt_toInt64, li_0, lj_0, li_3, lj_3, li_4, lj_4] at kc29); first | rfl | (unfold kf_tray; (repeat' split) <;> first | rfl | (exfalso; omega)))⟩))
        · refine lv_iload_n hx hb dX10_tray_16 rfl (lv_at hl 4 rfl) ?_
          refine lv_if_lt (tgt := 26) hx hb dX10_tray_17 (by decide) (fun c30 => ?_) (fun c30 => ?_)
          · exact k_throwSW hlt hX hE hxt hP hD hS hl.1 (by decide) (htA _ wd_531) (htA _ wd_14) (xSW_in hE.2.2.2 "LateFalls" 376 "no such sort, or not so many" (by decide)) (at_X10_87 htA hE.2.2.2) ot_X10_83_87 dX10_tray_26 dX10_tray_29 dX10_tray_30 dX10_tray_33 dX10_tray_36 (by decide) (by decide) (by decide) (by decide) (by decide) (by decide) (Or.inr (⟨rfl, (by have kg10 := g10; have kg11 := g11; have kg12 := g12; have kc28 := c28; have kc29 := c29; have kc30 := c30; (try simp only [lg_cmp_lt, lg_cmp_le, lg_cmp_ge, lg_cmp_gt, lg_cmp_eq, fa_lt, fa_le, fa_eq, fa_lt64, fa_le64, fa_eq64, Int32.toInt_toInt64, li_0, lj_0, li_3, lj_3, li_4, lj_4] at kg10); (try simp only [lg_cmp_lt, lg_cmp_le, lg_cmp_ge, lg_cmp_gt, lg_cmp_eq, fa_lt, fa_le, fa_eq, fa_lt64, fa_le64, fa_eq64, Int32.toInt_toInt64, li_0, lj_0, li_3, lj_3, li_4, lj_4] at kg11); (try simp only [lg_cmp_lt, lg_cmp_le, lg_cmp_ge, lg_cmp_gt, lg_cmp_eq, fa_lt, fa_le, fa_eq, fa_lt64, fa_le64, fa_eq64, Int32.toInt_toInt64, li_0, lj_0, li_3, lj_3, li_4, lj_4] at kg12); (try simp only [lg_cmp_lt, lg_cmp_le, lg_cmp_ge, lg_cmp_gt, lg_cmp_eq, fa_lt, fa_le, fa_eq, fa_lt64, fa_le64, fa_eq64, Int32.toInt_toInt64, li_0, lj_0, li_3, lj_3, li_4, lj_4] at kc28); (try simp only [lg_cmp_lt, lg_cmp_le, lg_cmp_ge, lg_cmp_gt, lg_cmp_eq, fa_lt, fa_le, fa_eq, fa_lt64, fa_le64, fa_eq64, Int32.toInt_toInt64, li_0, lj_0, li_3, lj_3, li_4, lj_4] at kc29); (try simp only [lg_cmp_lt, lg_cmp_le, lg_cmp_ge, lg_cmp_gt, lg_cmp_eq, fa_lt, fa_le, fa_eq, fa_lt64, fa_le64, fa_eq64, Int32.toInt_toInt64, li_0, lj_0, li_3, lj_3, li_4, lj_4] at kc30); first | rfl | (unfold kf_tray; (repeat' split) <;> first | rfl | (exfalso; omega)))⟩))
          · refine lv_iload_n hx hb dX10_tray_20 rfl (lv_at hl 4 rfl) ?_
            refine lv_bipush (v := 30) hx hb dX10_tray_21 (by decide) ?_
            refine lv_icmp_le (tgt := 37) hx hb dX10_tray_23 (by decide) (fun c31 => ?_) (fun c31 => ?_)
            · refine lv_aload hx hb dX10_tray_37 (lv_at hl 0 rfl) ?_
              refine lv_iload_n hx hb dX10_tray_39 rfl (lv_at hl 3 rfl) ?_
              refine lv_iload_n hx hb dX10_tray_40 rfl (lv_at hl 4 rfl) ?_
              refine kVv (As := [.int p2, .int p3]) (rest := []) (wr := [((a 60), .inr (8, [.int (-1), .int 0, .ref (a 64)])), ((a 61), .inr (8, [.int (-1), .int 0, .ref (a 65)])), ((a 62), .inr (8, [.int (-1), .int 0, .ref (a 66)])), ((a 64), .inl (cy 2, 30, .inr (.inl (fun _ => 0)))), ((a 65), .inl (cy 2, 30, .inr (.inl (fun _ => 0)))), ((a 66), .inl (cy 2, 30, .inr (.inl (fun _ => 0)))), ((a 0), .inr (10, [.ref (a 1), .int 0, .int 0, .int (-1), .ref (a 2), .ref (a 3), .ref (a 4), .ref (a 5), .ref (a 6), .ref (a 7), .ref (a 8), .ref (a 9), .int 0])), ((a 8), .inl (cy 5, 4, .inr (.inr (.inr (.inr (va_up (va_up (va_up (va_up (fun _ => none) (0 : Int32).toNatClampNeg (some (a 60))) (1 : Int32).toNatClampNeg (some (a 61))) (2 : Int32).toNatClampNeg (some (a 62))) (3 : Int32).toNatClampNeg (some (a 63))))))))]) hX hE (au_X8_lay_42 l D cy a p2 p3) (cwVA 2 htA wd_1268 wd_1265 wd_9 wd_1266 wd_1267 (by decide +kernel) ⟨by decide, by decide⟩) hP hD hS [3, 7] [0, 1, 2, 4, 5, 6, 8, 9] rfl rfl (by decide) 0 rfl rfl rfl rfl hl.1 rfl (Nat.le_of_ble_eq_true rfl) dX10_tray_41 (by decide) (fun W1 H locs hw hP hD hS => ?_)
              refine W.widen (k := 1) (n := 6) (by decide) (by decide) ?_
              obtain rfl := hw
              have hP : va_P D vwCl [((a 60), .inr (8, [.int (-1), .int 0, .ref (a 64)])), ((a 61), .inr (8, [.int (-1), .int 0, .ref (a 65)])), ((a 62), .inr (8, [.int (-1), .int 0, .ref (a 66)])), ((a 64), .inl (cy 2, 30, .inr (.inl (fun _ => 0)))), ((a 65), .inl (cy 2, 30, .inr (.inl (fun _ => 0)))), ((a 66), .inl (cy 2, 30, .inr (.inl (fun _ => 0)))), ((a 0), .inr (10, [.ref (a 1), .int 0, .int 0, .int (-1), .ref (a 2), .ref (a 3), .ref (a 4), .ref (a 5), .ref (a 6), .ref (a 7), .ref (a 8), .ref (a 9), .int 0])), ((a 8), .inl (cy 5, 4, .inr (.inr (.inr (.inr (va_up (va_up (va_up (va_up (fun _ => none) (0 : Int32).toNatClampNeg (some (a 60))) (1 : Int32).toNatClampNeg (some (a 61))) (2 : Int32).toNatClampNeg (some (a 62))) (3 : Int32).toNatClampNeg (some (a 63)))))))), ((a 63), .inr (8, [.int p2, .int p3, .ref (a 67)])), ((a 67), .inl (cy 2, 30, .inr (.inl (fun _ => 0))))] H := hP
              have hD : va_D A [((a 60), .inr (8, [.int (-1), .int 0, .ref (a 64)])), ((a 61), .inr (8, [.int (-1), .int 0, .ref (a 65)])), ((a 62), .inr (8, [.int (-1), .int 0, .ref (a 66)])), ((a 64), .inl (cy 2, 30, .inr (.inl (fun _ => 0)))), ((a 65), .inl (cy 2, 30, .inr (.inl (fun _ => 0)))), ((a 66), .inl (cy 2, 30, .inr (.inl (fun _ => 0)))), ((a 0), .inr (10, [.ref (a 1), .int 0, .int 0, .int (-1), .ref (a 2), .ref (a 3), .ref (a 4), .ref (a 5), .ref (a 6), .ref (a 7), .ref (a 8), .ref (a 9), .int 0])), ((a 8), .inl (cy 5, 4, .inr (.inr (.inr (.inr (va_up (va_up (va_up (va_up (fun _ => none) (0 : Int32).toNatClampNeg (some (a 60))) (1 : Int32).toNatClampNeg (some (a 61))) (2 : Int32).toNatClampNeg (some (a 62))) (3 : Int32).toNatClampNeg (some (a 63)))))))), ((a 63), .inr (8, [.int p2, .int p3, .ref (a 67)])), ((a 67), .inl (cy 2, 30, .inr (.inl (fun _ => 0))))] := hD
              obtain rfl : p1 = 3 := (by have kg10 := g10; have kg11 := g11; have kg12 := g12; have kc28 := c28; have kc29 := c29; have kc30 := c30; have kc31 := c31; (try simp only [lg_cmp_lt, lg_cmp_le, lg_cmp_ge, lg_cmp_gt, lg_cmp_eq, fa_lt, fa_le, fa_eq, fa_lt64, fa_le64, fa_eq64, Int32.toInt_toInt64, li_0, lj_0, li_3, lj_3, li_4, lj_4, li_30, lj_30] at kg10); (try simp only [lg_cmp_lt, lg_cmp_le, lg_cmp_ge, lg_cmp_gt, lg_cmp_eq, fa_lt, fa_le, fa_eq, fa_lt64, fa_le64, fa_eq64, Int32.toInt_toInt64, li_0, lj_0, li_3, lj_3, li_4, lj_4, li_30, lj_30] at kg11); (try simp only [lg_cmp_lt, lg_cmp_le, lg_cmp_ge, lg_cmp_gt, lg_cmp_eq, fa_lt, fa_le, fa_eq, fa_lt64, fa_le64, fa_eq64, Int32.toInt_toInt64, li_0, lj_0, li_3, lj_3, li_4, lj_4, li_30, lj_30] at kg12); (try simp only [lg_cmp_lt, lg_cmp_le, lg_cmp_ge, lg_cmp_gt, lg_cmp_eq, fa_lt, fa_le, fa_eq, fa_lt64, fa_le64, fa_eq64, Int32.toInt_toInt64, li_0, lj_0, li_3, lj_3, li_4, lj_4, li_30, lj_30] at kc28); (try simp only [lg_cmp_lt, lg_cmp_le, lg_cmp_ge, lg_cmp_gt, lg_cmp_eq, fa_lt, fa_le, fa_eq, fa_lt64, fa_le64, fa_eq64, Int32.toInt_toInt64, li_0, lj_0, li_3, lj_3, li_4, lj_4, li_30, lj_30] at kc29); (try simp only [lg_cmp_lt, lg_cmp_le, lg_cmp_ge, lg_cmp_gt, lg_cmp_eq, fa_lt, fa_le, fa_eq, fa_lt64, fa_le64, fa_eq64, Int32.toInt_toInt64, li_0, lj_0, li_3, lj_3, li_4, lj_4, li_30, lj_30] at kc30); (try simp only [lg_cmp_lt, lg_cmp_le, lg_cmp_ge, lg_cmp_gt, lg_cmp_eq, fa_lt, fa_le, fa_eq, fa_lt64, fa_le64, fa_eq64, Int32.toInt_toInt64, li_0, lj_0, li_3, lj_3, li_4, lj_4, li_30, lj_30] at kc31); rw [fa_eq, li_3]; omega)
              exact vx_ret (rV hX hE hP hD hS dX10_tray_44 (by decide) (by decide) ((by have kg10 := g10; have kg11 := g11; have kg12 := g12; have kc28 := c28; have kc29 := c29; have kc30 := c30; have kc31 := c31; (try simp only [lg_cmp_lt, lg_cmp_le, lg_cmp_ge, lg_cmp_gt, lg_cmp_eq, fa_lt, fa_le, fa_eq, fa_lt64, fa_le64, fa_eq64, Int32.toInt_toInt64, li_0, lj_0, li_3, lj_3, li_4, lj_4, li_30, lj_30] at kg10); (try simp only [lg_cmp_lt, lg_cmp_le, lg_cmp_ge, lg_cmp_gt, lg_cmp_eq, fa_lt, fa_le, fa_eq, fa_lt64, fa_le64, fa_eq64, Int32.toInt_toInt64, li_0, lj_0, li_3, lj_3, li_4, lj_4, li_30, lj_30] at kg11); (try simp only [lg_cmp_lt, lg_cmp_le, lg_cmp_ge, lg_cmp_gt, lg_cmp_eq, fa_lt, fa_le, fa_eq, fa_lt64, fa_le64, fa_eq64, Int32.toInt_toInt64, li_0, lj_0, li_3, lj_3, li_4, lj_4, li_30, lj_30] at kg12); (try simp only [lg_cmp_lt, lg_cmp_le, lg_cmp_ge, lg_cmp_gt, lg_cmp_eq, fa_lt, fa_le, fa_eq, fa_lt64, fa_le64, fa_eq64, Int32.toInt_toInt64, li_0, lj_0, li_3, lj_3, li_4, lj_4, li_30, lj_30] at kc28); (try simp only [lg_cmp_lt, lg_cmp_le, lg_cmp_ge, lg_cmp_gt, lg_cmp_eq, fa_lt, fa_le, fa_eq, fa_lt64, fa_le64, fa_eq64, Int32.toInt_toInt64, li_0, lj_0, li_3, lj_3, li_4, lj_4, li_30, lj_30] at kc29); (try simp only [lg_cmp_lt, lg_cmp_le, lg_cmp_ge, lg_cmp_gt, lg_cmp_eq, fa_lt, fa_le, fa_eq, fa_lt64, fa_le64, fa_eq64, Int32.toInt_toInt64, li_0, lj_0, li_3, lj_3, li_4, lj_4, li_30, lj_30] at kc30); (try simp only [lg_cmp_lt, lg_cmp_le, lg_cmp_ge, lg_cmp_gt, lg_cmp_eq, fa_lt, fa_le, fa_eq, fa_lt64, fa_le64, fa_eq64, Int32.toInt_toInt64, li_0, lj_0, li_3, lj_3, li_4, lj_4, li_30, lj_30] at kc31); first | rfl | (unfold kf_tray; (try simp only [li_3, and_self, and_true, true_and, if_true]); (repeat' split) <;> first | rfl | (exfalso; omega)))))
            · exact k_throwSW hlt hX hE hxt hP hD hS hl.1 (by decide) (htA _ wd_531) (htA _ wd_14) (xSW_in hE.2.2.2 "LateFalls" 376 "no such sort, or not so many" (by decide)) (at_X10_87 htA hE.2.2.2) ot_X10_83_87 dX10_tray_26 dX10_tray_29 dX10_tray_30 dX10_tray_33 dX10_tray_36 (by decide) (by decide) (by decide) (by decide) (by decide) (by decide) (Or.inr (⟨rfl, (by have kg10 := g10; have kg11 := g11; have kg12 := g12; have kc28 := c28; have kc29 := c29; have kc30 := c30; have kc31 := c31; (try simp only [lg_cmp_lt, lg_cmp_le, lg_cmp_ge, lg_cmp_gt, lg_cmp_eq, fa_lt, fa_le, fa_eq, fa_lt64, fa_le64, fa_eq64, Int32.toInt_toInt64, li_0, lj_0, li_3, lj_3, li_4, lj_4, li_30, lj_30] at kg10); (try simp only [lg_cmp_lt, lg_cmp_le, lg_cmp_ge, lg_cmp_gt, lg_cmp_eq, fa_lt, fa_le, fa_eq, fa_lt64, fa_le64, fa_eq64, Int32.toInt_toInt64, li_0, lj_0, li_3, lj_3, li_4, lj_4, li_30, lj_30] at kg11); (try simp only [lg_cmp_lt, lg_cmp_le, lg_cmp_ge, lg_cmp_gt, lg_cmp_eq, fa_lt, fa_le, fa_eq, fa_lt64, fa_le64, fa_eq64, Int32.toInt_toInt64, li_0, lj_0, li_3, lj_3, li_4, lj_4, li_30, lj_30] at kg12); (try simp only [lg_cmp_lt, lg_cmp_le, lg_cmp_ge, lg_cmp_gt, lg_cmp_eq, fa_lt, fa_le, fa_eq, fa_lt64, fa_le64, fa_eq64, Int32.toInt_toInt64, li_0, lj_0, li_3, lj_3, li_4, lj_4, li_30, lj_30] at kc28); (try simp only [lg_cmp_lt, lg_cmp_le, lg_cmp_ge, lg_cmp_gt, lg_cmp_eq, fa_lt, fa_le, fa_eq, fa_lt64, fa_le64, fa_eq64, Int32.toInt_toInt64, li_0, lj_0, li_3, lj_3, li_4, lj_4, li_30, lj_30] at kc29); (try simp only [lg_cmp_lt, lg_cmp_le, lg_cmp_ge, lg_cmp_gt, lg_cmp_eq, fa_lt, fa_le, fa_eq, fa_lt64, fa_le64, fa_eq64, Int32.toInt_toInt64, li_0, lj_0, li_3, lj_3, li_4, lj_4, li_30, lj_30] at kc30); (try simp only [lg_cmp_lt, lg_cmp_le, lg_cmp_ge, lg_cmp_gt, lg_cmp_eq, fa_lt, fa_le, fa_eq, fa_lt64, fa_le64, fa_eq64, Int32.toInt_toInt64, li_0, lj_0, li_3, lj_3, li_4, lj_4, li_30, lj_30] at kc31); first | rfl | (unfold kf_tray; (repeat' split) <;> first | rfl | (exfalso; omega)))⟩))
