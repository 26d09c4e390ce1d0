/-! calls over a world with a tail -/
theorem hC_tail {X pl WS : va_W} {isC : List Nat} (hC : isC.map (fun i => X[i]?) = WS.map some) : isC.map (fun i => (X ++ pl)[i]?) = WS.map some := by
  rw [← hC]
  apply List.map_congr_left
  intro i hi
  have hm : X[i]? ∈ isC.map (fun i => X[i]?) := List.mem_map.mpr ⟨i, hi, rfl⟩
  rw [hC] at hm
  obtain ⟨w, -, hw⟩ := List.mem_map.mp hm
  exact List.getElem?_append_left (List.getElem?_eq_some_iff.mp hw.symm).1
theorem cP_payP {D : va_G} {cy : Nat → ClassId} {X WS pl : va_W} {A0 : Nat → Prop} {s : State} {H : Heap} {locs : List Loc} (hE : Ew D cy A0 s) (hP : va_P D vwCl (X ++ pl) H) (hD : va_D A0 (X ++ pl)) (hS : va_S A0 s.heap H locs) (isC : List Nat) (hC : isC.map (fun i => X[i]?) = WS.map some) (hn : va_nd isC = true) (U : State) (hU : U.heap = H) (hW : s.WarmedH U.vm) : cP D cy (WS ++ pl) H.size U := by
  obtain ⟨hK, hA, hG, hX⟩ := hE
  refine ⟨by rw [hU], by rw [hU]; exact hP.part isC hC, va_K.moved hW.alike hK, (hD.part isC hn hC).weaken (fun _ _ _ _ => trivial), ?_, hX.warm hW⟩
  rw [hU]
  exact ((hG.kept hS.2.1).warm hW).narrow (va_freeP hD hS hA isC hC)
section TailCalls
variable {p : Program} {l : Launch} {e : Env} {R : Room} {s : State} {m : MethodId} {args : Array Value} {below : List Frame} {meth : Method} {c : Code} {H : Heap} {locs : List Loc} {cells slots : Nat} {Q : State → Prop} {cc bytes : ByteArray} {rt rt0 : Option FieldType} {nL pc n index maxL : Nat} {own C host : String} {ls : Array Slot} {D : va_G} {cy : Nat → ClassId} {A0 : Nat → Prop} {W0 wr WS : va_W} {rm : Room} {y : MethodName} {b : Nat} {As rest st0 : List Value} {px : String → va_W → Prop} {X pl : va_W}
theorem tkVi {post : Int32 → va_W → Prop} (hX : Ex p s m args meth c cc rt0 nL own) (hE : Ew D cy A0 s) (hM : Ci l y bytes maxL rt rm D cy (.ref b :: As) WS post) (cw : CallW R s args own C index y bytes maxL rt (Cond.code y bytes maxL rt :: wA) rm rm.cells rm.slots n)
    (hP : va_P D vwCl (X ++ pl) H) (hD : va_D A0 (X ++ pl)) (hS : va_S A0 s.heap H locs) (isC isR : List Nat) (hC : isC.map (fun i => X[i]?) = WS.map some) (hR : isR.map (fun i => X[i]?) = wr.map some) (hnd : va_nd isC = true ∧ va_nd isR = true ∧ ∀ i ∈ isR, i ∉ isC)
    (q0 : Nat) {ci : Nat} {fs : List Value} {r : vw_C} (hq : WS[q0]? = some (b, .inr (ci, fs))) (hc : vwCl[ci]? = some r) (hrC : r.1 = C) (hn : As.length = n) (hsize : ls.size = nL) (hst : st0 = As.reverse ++ .ref b :: rest) (hW : (rest.map fun v => v.category).sum ≤ 8) (hdg : decode cc pc = .ok (.invokevirtual index, 3)) (hf : cells + rm.cells ≤ R.cells ∧ slots + rm.slots ≤ R.slots)
    (kk : ∀ (r : Int32) (W1 : va_W) (H1 : Heap) (locs1 : List Loc), post r W1 → va_P D vwCl ((wr ++ W1) ++ pl) H1 → va_D A0 ((wr ++ W1) ++ pl) → va_S A0 s.heap H1 locs1 → W p l e R s m args below meth c H1 locs1 (cells + rm.cells) (slots + rm.slots) Q (F0 m (pc + 3) ls (.int r :: rest))) : W p l e R s m args below meth c H locs cells slots Q (F0 m pc ls st0) := by
  subst hrC
  have hF := va_free hD hS hE.2.1 isC (hC_tail hC)
  refine va_calli (va_runV (fixA hX) (hM H.size) cw ⟨cP_blind, recvA hE hP isC (hC_tail hC) hq hc, fun U hU hW => ⟨rfl, cP_pay hE hP hD hS isC (hC_tail hC) hnd.1 U hU hW⟩⟩ rfl hn hsize hst (lv_room hW) hdg hf) hS (fun q _ h => hF q h) hF (fun r u t H1 locs1 ht hvm hw hB hz1 hk1 hS1 => ?_)
  obtain ⟨hP1, hK1, hD1⟩ := hB
  rw [ht] at hP1
  obtain ⟨ha, hb⟩ := va_joinQ hP hD isC isR hC hR hnd.2.1 hnd.2.2 hk1 hF hP1 hD1
  exact kk r u H1 locs1 hw ha hb hS1
theorem ukVi {post : Int32 → va_W → Prop} {po : Int32 → va_W → va_W → Prop} (hX : Ex p s m args meth c cc rt0 nL own) (hE : Ew D cy A0 s) (hM : Ci l y bytes maxL rt rm D cy (.ref b :: As) (WS ++ pl) post) (cw : CallW R s args own C index y bytes maxL rt (Cond.code y bytes maxL rt :: wA) rm rm.cells rm.slots n)
    (hP : va_P D vwCl (X ++ pl) H) (hD : va_D A0 (X ++ pl)) (hS : va_S A0 s.heap H locs) (isC isR : List Nat) (hC : isC.map (fun i => X[i]?) = WS.map some) (hR : isR.map (fun i => X[i]?) = wr.map some) (hnd : va_nd isC = true ∧ va_nd isR = true ∧ ∀ i ∈ isR, i ∉ isC)
    (q0 : Nat) {ci : Nat} {fs : List Value} {r : vw_C} (hq : WS[q0]? = some (b, .inr (ci, fs))) (hc : vwCl[ci]? = some r) (hrC : r.1 = C) (hn : As.length = n) (hsize : ls.size = nL) (hst : st0 = As.reverse ++ .ref b :: rest) (hW : (rest.map fun v => v.category).sum ≤ 8) (hdg : decode cc pc = .ok (.invokevirtual index, 3)) (hf : cells + rm.cells ≤ R.cells ∧ slots + rm.slots ≤ R.slots)
    (hpo : ∀ (r : Int32) (W1 : va_W), post r W1 → ∃ rx pl1 : va_W, W1 = rx ++ pl1 ∧ po r rx pl1)
    (kk : ∀ (r : Int32) (rx pl1 : va_W) (H1 : Heap) (locs1 : List Loc), po r rx pl1 → va_P D vwCl ((wr ++ rx) ++ pl1) H1 → va_D A0 ((wr ++ rx) ++ pl1) → va_S A0 s.heap H1 locs1 → W p l e R s m args below meth c H1 locs1 (cells + rm.cells) (slots + rm.slots) Q (F0 m (pc + 3) ls (.int r :: rest))) : W p l e R s m args below meth c H locs cells slots Q (F0 m pc ls st0) := by
  subst hrC
  have hF := va_freeP hD hS hE.2.1 isC hC
  refine va_calli (va_runV (fixA hX) (hM H.size) cw ⟨cP_blind, recvA hE hP isC (hC_tail hC) hq hc, fun U hU hW => ⟨rfl, cP_payP hE hP hD hS isC hC hnd.1 U hU hW⟩⟩ rfl hn hsize hst (lv_room hW) hdg hf) hS (fun q _ h => hF q h) hF (fun r u t H1 locs1 ht hvm hw hB hz1 hk1 hS1 => ?_)
  obtain ⟨hP1, hK1, hD1⟩ := hB
  obtain ⟨rx, pl1, rfl, hz⟩ := hpo _ _ hw
  rw [ht] at hP1
  obtain ⟨ha, hb⟩ := va_joinP hP hD isC isR hC hR hnd.2.1 hnd.2.2 hk1 hF hP1 hD1
  exact kk r rx pl1 H1 locs1 hz ha hb hS1
theorem tkVv {post : va_W → Prop} (hX : Ex p s m args meth c cc rt0 nL own) (hE : Ew D cy A0 s) (hM : Cv l y bytes maxL rt rm D cy (.ref b :: As) WS post) (cw : CallW R s args own C index y bytes maxL rt (Cond.code y bytes maxL rt :: wA) rm rm.cells rm.slots n)
    (hP : va_P D vwCl (X ++ pl) H) (hD : va_D A0 (X ++ pl)) (hS : va_S A0 s.heap H locs) (isC isR : List Nat) (hC : isC.map (fun i => X[i]?) = WS.map some) (hR : isR.map (fun i => X[i]?) = wr.map some) (hnd : va_nd isC = true ∧ va_nd isR = true ∧ ∀ i ∈ isR, i ∉ isC)
    (q0 : Nat) {ci : Nat} {fs : List Value} {r : vw_C} (hq : WS[q0]? = some (b, .inr (ci, fs))) (hc : vwCl[ci]? = some r) (hrC : r.1 = C) (hn : As.length = n) (hsize : ls.size = nL) (hst : st0 = As.reverse ++ .ref b :: rest) (hW : (rest.map fun v => v.category).sum ≤ 8) (hdg : decode cc pc = .ok (.invokevirtual index, 3)) (hf : cells + rm.cells ≤ R.cells ∧ slots + rm.slots ≤ R.slots)
    (kk : ∀ (W1 : va_W) (H1 : Heap) (locs1 : List Loc), post W1 → va_P D vwCl ((wr ++ W1) ++ pl) H1 → va_D A0 ((wr ++ W1) ++ pl) → va_S A0 s.heap H1 locs1 → W p l e R s m args below meth c H1 locs1 (cells + rm.cells) (slots + rm.slots) Q (F0 m (pc + 3) ls rest)) : W p l e R s m args below meth c H locs cells slots Q (F0 m pc ls st0) := by
  subst hrC
  have hF := va_free hD hS hE.2.1 isC (hC_tail hC)
  refine va_callv (va_runV (fixA hX) (hM H.size) cw ⟨cP_blind, recvA hE hP isC (hC_tail hC) hq hc, fun U hU hW => ⟨rfl, cP_pay hE hP hD hS isC (hC_tail hC) hnd.1 U hU hW⟩⟩ rfl hn hsize hst (lv_room hW) hdg hf) hS (fun q _ h => hF q h) hF (fun u t H1 locs1 ht hvm hw hB hz1 hk1 hS1 => ?_)
  obtain ⟨hP1, hK1, hD1⟩ := hB
  rw [ht] at hP1
  obtain ⟨ha, hb⟩ := va_joinQ hP hD isC isR hC hR hnd.2.1 hnd.2.2 hk1 hF hP1 hD1
  exact kk u H1 locs1 hw ha hb hS1
theorem ukVv {post : va_W → Prop} {po : va_W → va_W → Prop} (hX : Ex p s m args meth c cc rt0 nL own) (hE : Ew D cy A0 s) (hM : Cv l y bytes maxL rt rm D cy (.ref b :: As) (WS ++ pl) post) (cw : CallW R s args own C index y bytes maxL rt (Cond.code y bytes maxL rt :: wA) rm rm.cells rm.slots n)
    (hP : va_P D vwCl (X ++ pl) H) (hD : va_D A0 (X ++ pl)) (hS : va_S A0 s.heap H locs) (isC isR : List Nat) (hC : isC.map (fun i => X[i]?) = WS.map some) (hR : isR.map (fun i => X[i]?) = wr.map some) (hnd : va_nd isC = true ∧ va_nd isR = true ∧ ∀ i ∈ isR, i ∉ isC)
    (q0 : Nat) {ci : Nat} {fs : List Value} {r : vw_C} (hq : WS[q0]? = some (b, .inr (ci, fs))) (hc : vwCl[ci]? = some r) (hrC : r.1 = C) (hn : As.length = n) (hsize : ls.size = nL) (hst : st0 = As.reverse ++ .ref b :: rest) (hW : (rest.map fun v => v.category).sum ≤ 8) (hdg : decode cc pc = .ok (.invokevirtual index, 3)) (hf : cells + rm.cells ≤ R.cells ∧ slots + rm.slots ≤ R.slots)
    (hpo : ∀ (W1 : va_W), post W1 → ∃ rx pl1 : va_W, W1 = rx ++ pl1 ∧ po rx pl1)
    (kk : ∀ (rx pl1 : va_W) (H1 : Heap) (locs1 : List Loc), po rx pl1 → va_P D vwCl ((wr ++ rx) ++ pl1) H1 → va_D A0 ((wr ++ rx) ++ pl1) → va_S A0 s.heap H1 locs1 → W p l e R s m args below meth c H1 locs1 (cells + rm.cells) (slots + rm.slots) Q (F0 m (pc + 3) ls rest)) : W p l e R s m args below meth c H locs cells slots Q (F0 m pc ls st0) := by
  subst hrC
  have hF := va_freeP hD hS hE.2.1 isC hC
  refine va_callv (va_runV (fixA hX) (hM H.size) cw ⟨cP_blind, recvA hE hP isC (hC_tail hC) hq hc, fun U hU hW => ⟨rfl, cP_payP hE hP hD hS isC hC hnd.1 U hU hW⟩⟩ rfl hn hsize hst (lv_room hW) hdg hf) hS (fun q _ h => hF q h) hF (fun u t H1 locs1 ht hvm hw hB hz1 hk1 hS1 => ?_)
  obtain ⟨hP1, hK1, hD1⟩ := hB
  obtain ⟨rx, pl1, rfl, hz⟩ := hpo _ hw
  rw [ht] at hP1
  obtain ⟨ha, hb⟩ := va_joinP hP hD isC isR hC hR hnd.2.1 hnd.2.2 hk1 hF hP1 hD1
  exact kk rx pl1 H1 locs1 hz ha hb hS1
theorem tkVl {post : Int64 → va_W → Prop} (hX : Ex p s m args meth c cc rt0 nL own) (hE : Ew D cy A0 s) (hM : Cl l y bytes maxL rt rm D cy (.ref b :: As) WS post) (cw : CallW R s args own C index y bytes maxL rt (Cond.code y bytes maxL rt :: wA) rm rm.cells rm.slots n)
    (hP : va_P D vwCl (X ++ pl) H) (hD : va_D A0 (X ++ pl)) (hS : va_S A0 s.heap H locs) (isC isR : List Nat) (hC : isC.map (fun i => X[i]?) = WS.map some) (hR : isR.map (fun i => X[i]?) = wr.map some) (hnd : va_nd isC = true ∧ va_nd isR = true ∧ ∀ i ∈ isR, i ∉ isC)
    (q0 : Nat) {ci : Nat} {fs : List Value} {r : vw_C} (hq : WS[q0]? = some (b, .inr (ci, fs))) (hc : vwCl[ci]? = some r) (hrC : r.1 = C) (hn : As.length = n) (hsize : ls.size = nL) (hst : st0 = As.reverse ++ .ref b :: rest) (hW : (rest.map fun v => v.category).sum ≤ 8) (hdg : decode cc pc = .ok (.invokevirtual index, 3)) (hf : cells + rm.cells ≤ R.cells ∧ slots + rm.slots ≤ R.slots)
    (kk : ∀ (r : Int64) (W1 : va_W) (H1 : Heap) (locs1 : List Loc), post r W1 → va_P D vwCl ((wr ++ W1) ++ pl) H1 → va_D A0 ((wr ++ W1) ++ pl) → va_S A0 s.heap H1 locs1 → W p l e R s m args below meth c H1 locs1 (cells + rm.cells) (slots + rm.slots) Q (F0 m (pc + 3) ls (.long r :: rest))) : W p l e R s m args below meth c H locs cells slots Q (F0 m pc ls st0) := by
  subst hrC
  have hF := va_free hD hS hE.2.1 isC (hC_tail hC)
  refine va_calll (va_runV (fixA hX) (hM H.size) cw ⟨cP_blind, recvA hE hP isC (hC_tail hC) hq hc, fun U hU hW => ⟨rfl, cP_pay hE hP hD hS isC (hC_tail hC) hnd.1 U hU hW⟩⟩ rfl hn hsize hst (lv_room hW) hdg hf) hS (fun q _ h => hF q h) hF (fun r u t H1 locs1 ht hvm hw hB hz1 hk1 hS1 => ?_)
  obtain ⟨hP1, hK1, hD1⟩ := hB
  rw [ht] at hP1
  obtain ⟨ha, hb⟩ := va_joinQ hP hD isC isR hC hR hnd.2.1 hnd.2.2 hk1 hF hP1 hD1
  exact kk r u H1 locs1 hw ha hb hS1
theorem ukVl {post : Int64 → va_W → Prop} {po : Int64 → va_W → va_W → Prop} (hX : Ex p s m args meth c cc rt0 nL own) (hE : Ew D cy A0 s) (hM : Cl l y bytes maxL rt rm D cy (.ref b :: As) (WS ++ pl) post) (cw : CallW R s args own C index y bytes maxL rt (Cond.code y bytes maxL rt :: wA) rm rm.cells rm.slots n)
    (hP : va_P D vwCl (X ++ pl) H) (hD : va_D A0 (X ++ pl)) (hS : va_S A0 s.heap H locs) (isC isR : List Nat) (hC : isC.map (fun i => X[i]?) = WS.map some) (hR : isR.map (fun i => X[i]?) = wr.map some) (hnd : va_nd isC = true ∧ va_nd isR = true ∧ ∀ i ∈ isR, i ∉ isC)
    (q0 : Nat) {ci : Nat} {fs : List Value} {r : vw_C} (hq : WS[q0]? = some (b, .inr (ci, fs))) (hc : vwCl[ci]? = some r) (hrC : r.1 = C) (hn : As.length = n) (hsize : ls.size = nL) (hst : st0 = As.reverse ++ .ref b :: rest) (hW : (rest.map fun v => v.category).sum ≤ 8) (hdg : decode cc pc = .ok (.invokevirtual index, 3)) (hf : cells + rm.cells ≤ R.cells ∧ slots + rm.slots ≤ R.slots)
    (hpo : ∀ (r : Int64) (W1 : va_W), post r W1 → ∃ rx pl1 : va_W, W1 = rx ++ pl1 ∧ po r rx pl1)
    (kk : ∀ (r : Int64) (rx pl1 : va_W) (H1 : Heap) (locs1 : List Loc), po r rx pl1 → va_P D vwCl ((wr ++ rx) ++ pl1) H1 → va_D A0 ((wr ++ rx) ++ pl1) → va_S A0 s.heap H1 locs1 → W p l e R s m args below meth c H1 locs1 (cells + rm.cells) (slots + rm.slots) Q (F0 m (pc + 3) ls (.long r :: rest))) : W p l e R s m args below meth c H locs cells slots Q (F0 m pc ls st0) := by
  subst hrC
  have hF := va_freeP hD hS hE.2.1 isC hC
  refine va_calll (va_runV (fixA hX) (hM H.size) cw ⟨cP_blind, recvA hE hP isC (hC_tail hC) hq hc, fun U hU hW => ⟨rfl, cP_payP hE hP hD hS isC hC hnd.1 U hU hW⟩⟩ rfl hn hsize hst (lv_room hW) hdg hf) hS (fun q _ h => hF q h) hF (fun r u t H1 locs1 ht hvm hw hB hz1 hk1 hS1 => ?_)
  obtain ⟨hP1, hK1, hD1⟩ := hB
  obtain ⟨rx, pl1, rfl, hz⟩ := hpo _ _ hw
  rw [ht] at hP1
  obtain ⟨ha, hb⟩ := va_joinP hP hD isC isR hC hR hnd.2.1 hnd.2.2 hk1 hF hP1 hD1
  exact kk r rx pl1 H1 locs1 hz ha hb hS1
theorem tkSi {post : Int32 → va_W → Prop} (hX : Ex p s m args meth c cc rt0 nL own) (hE : Ew D cy A0 s) (hM : Ci l y bytes maxL rt rm D cy As WS post) (cw : CallB R s args own index y bytes maxL rt (Cond.code y bytes maxL rt :: wA) rm rm.cells rm.slots n ∧ (Cond.static y).before args s = true)
    (hP : va_P D vwCl (X ++ pl) H) (hD : va_D A0 (X ++ pl)) (hS : va_S A0 s.heap H locs) (isC isR : List Nat) (hC : isC.map (fun i => X[i]?) = WS.map some) (hR : isR.map (fun i => X[i]?) = wr.map some) (hnd : va_nd isC = true ∧ va_nd isR = true ∧ ∀ i ∈ isR, i ∉ isC)
    (hn : As.length = n) (hsize : ls.size = nL) (hst : st0 = As.reverse ++ rest) (hW : (rest.map fun v => v.category).sum ≤ 8) (hdg : decode cc pc = .ok (.invokestatic index, 3)) (hf : cells + rm.cells ≤ R.cells ∧ slots + rm.slots ≤ R.slots)
    (kk : ∀ (r : Int32) (W1 : va_W) (H1 : Heap) (locs1 : List Loc), post r W1 → va_P D vwCl ((wr ++ W1) ++ pl) H1 → va_D A0 ((wr ++ W1) ++ pl) → va_S A0 s.heap H1 locs1 → W p l e R s m args below meth c H1 locs1 (cells + rm.cells) (slots + rm.slots) Q (F0 m (pc + 3) ls (.int r :: rest))) : W p l e R s m args below meth c H locs cells slots Q (F0 m pc ls st0) := by
  have hF := va_free hD hS hE.2.1 isC (hC_tail hC)
  refine va_calli (va_runS (fixA hX) (hM H.size) cw ⟨cP_blind, fun U hU hW => ⟨rfl, cP_pay hE hP hD hS isC (hC_tail hC) hnd.1 U hU hW⟩⟩ rfl hn hsize hst (lv_room hW) hdg hf) hS (fun q _ h => hF q h) hF (fun r u t H1 locs1 ht hvm hw hB hz1 hk1 hS1 => ?_)
  obtain ⟨hP1, hK1, hD1⟩ := hB
  rw [ht] at hP1
  obtain ⟨ha, hb⟩ := va_joinQ hP hD isC isR hC hR hnd.2.1 hnd.2.2 hk1 hF hP1 hD1
  exact kk r u H1 locs1 hw ha hb hS1
theorem ukSi {post : Int32 → va_W → Prop} {po : Int32 → va_W → va_W → Prop} (hX : Ex p s m args meth c cc rt0 nL own) (hE : Ew D cy A0 s) (hM : Ci l y bytes maxL rt rm D cy As (WS ++ pl) post) (cw : CallB R s args own index y bytes maxL rt (Cond.code y bytes maxL rt :: wA) rm rm.cells rm.slots n ∧ (Cond.static y).before args s = true)
    (hP : va_P D vwCl (X ++ pl) H) (hD : va_D A0 (X ++ pl)) (hS : va_S A0 s.heap H locs) (isC isR : List Nat) (hC : isC.map (fun i => X[i]?) = WS.map some) (hR : isR.map (fun i => X[i]?) = wr.map some) (hnd : va_nd isC = true ∧ va_nd isR = true ∧ ∀ i ∈ isR, i ∉ isC)
    (hn : As.length = n) (hsize : ls.size = nL) (hst : st0 = As.reverse ++ rest) (hW : (rest.map fun v => v.category).sum ≤ 8) (hdg : decode cc pc = .ok (.invokestatic index, 3)) (hf : cells + rm.cells ≤ R.cells ∧ slots + rm.slots ≤ R.slots)
    (hpo : ∀ (r : Int32) (W1 : va_W), post r W1 → ∃ rx pl1 : va_W, W1 = rx ++ pl1 ∧ po r rx pl1)
    (kk : ∀ (r : Int32) (rx pl1 : va_W) (H1 : Heap) (locs1 : List Loc), po r rx pl1 → va_P D vwCl ((wr ++ rx) ++ pl1) H1 → va_D A0 ((wr ++ rx) ++ pl1) → va_S A0 s.heap H1 locs1 → W p l e R s m args below meth c H1 locs1 (cells + rm.cells) (slots + rm.slots) Q (F0 m (pc + 3) ls (.int r :: rest))) : W p l e R s m args below meth c H locs cells slots Q (F0 m pc ls st0) := by
  have hF := va_freeP hD hS hE.2.1 isC hC
  refine va_calli (va_runS (fixA hX) (hM H.size) cw ⟨cP_blind, fun U hU hW => ⟨rfl, cP_payP hE hP hD hS isC hC hnd.1 U hU hW⟩⟩ rfl hn hsize hst (lv_room hW) hdg hf) hS (fun q _ h => hF q h) hF (fun r u t H1 locs1 ht hvm hw hB hz1 hk1 hS1 => ?_)
  obtain ⟨hP1, hK1, hD1⟩ := hB
  obtain ⟨rx, pl1, rfl, hz⟩ := hpo _ _ hw
  rw [ht] at hP1
  obtain ⟨ha, hb⟩ := va_joinP hP hD isC isR hC hR hnd.2.1 hnd.2.2 hk1 hF hP1 hD1
  exact kk r rx pl1 H1 locs1 hz ha hb hS1
theorem tkSv {post : va_W → Prop} (hX : Ex p s m args meth c cc rt0 nL own) (hE : Ew D cy A0 s) (hM : Cv l y bytes maxL rt rm D cy As WS post) (cw : CallB R s args own index y bytes maxL rt (Cond.code y bytes maxL rt :: wA) rm rm.cells rm.slots n ∧ (Cond.static y).before args s = true)
    (hP : va_P D vwCl (X ++ pl) H) (hD : va_D A0 (X ++ pl)) (hS : va_S A0 s.heap H locs) (isC isR : List Nat) (hC : isC.map (fun i => X[i]?) = WS.map some) (hR : isR.map (fun i => X[i]?) = wr.map some) (hnd : va_nd isC = true ∧ va_nd isR = true ∧ ∀ i ∈ isR, i ∉ isC)
    (hn : As.length = n) (hsize : ls.size = nL) (hst : st0 = As.reverse ++ rest) (hW : (rest.map fun v => v.category).sum ≤ 8) (hdg : decode cc pc = .ok (.invokestatic index, 3)) (hf : cells + rm.cells ≤ R.cells ∧ slots + rm.slots ≤ R.slots)
    (kk : ∀ (W1 : va_W) (H1 : Heap) (locs1 : List Loc), post W1 → va_P D vwCl ((wr ++ W1) ++ pl) H1 → va_D A0 ((wr ++ W1) ++ pl) → va_S A0 s.heap H1 locs1 → W p l e R s m args below meth c H1 locs1 (cells + rm.cells) (slots + rm.slots) Q (F0 m (pc + 3) ls rest)) : W p l e R s m args below meth c H locs cells slots Q (F0 m pc ls st0) := by
  have hF := va_free hD hS hE.2.1 isC (hC_tail hC)
  refine va_callv (va_runS (fixA hX) (hM H.size) cw ⟨cP_blind, fun U hU hW => ⟨rfl, cP_pay hE hP hD hS isC (hC_tail hC) hnd.1 U hU hW⟩⟩ rfl hn hsize hst (lv_room hW) hdg hf) hS (fun q _ h => hF q h) hF (fun u t H1 locs1 ht hvm hw hB hz1 hk1 hS1 => ?_)
  obtain ⟨hP1, hK1, hD1⟩ := hB
  rw [ht] at hP1
  obtain ⟨ha, hb⟩ := va_joinQ hP hD isC isR hC hR hnd.2.1 hnd.2.2 hk1 hF hP1 hD1
  exact kk u H1 locs1 hw ha hb hS1
theorem ukSv {post : va_W → Prop} {po : va_W → va_W → Prop} (hX : Ex p s m args meth c cc rt0 nL own) (hE : Ew D cy A0 s) (hM : Cv l y bytes maxL rt rm D cy As (WS ++ pl) post) (cw : CallB R s args own index y bytes maxL rt (Cond.code y bytes maxL rt :: wA) rm rm.cells rm.slots n ∧ (Cond.static y).before args s = true)
    (hP : va_P D vwCl (X ++ pl) H) (hD : va_D A0 (X ++ pl)) (hS : va_S A0 s.heap H locs) (isC isR : List Nat) (hC : isC.map (fun i => X[i]?) = WS.map some) (hR : isR.map (fun i => X[i]?) = wr.map some) (hnd : va_nd isC = true ∧ va_nd isR = true ∧ ∀ i ∈ isR, i ∉ isC)
    (hn : As.length = n) (hsize : ls.size = nL) (hst : st0 = As.reverse ++ rest) (hW : (rest.map fun v => v.category).sum ≤ 8) (hdg : decode cc pc = .ok (.invokestatic index, 3)) (hf : cells + rm.cells ≤ R.cells ∧ slots + rm.slots ≤ R.slots)
    (hpo : ∀ (W1 : va_W), post W1 → ∃ rx pl1 : va_W, W1 = rx ++ pl1 ∧ po rx pl1)
    (kk : ∀ (rx pl1 : va_W) (H1 : Heap) (locs1 : List Loc), po rx pl1 → va_P D vwCl ((wr ++ rx) ++ pl1) H1 → va_D A0 ((wr ++ rx) ++ pl1) → va_S A0 s.heap H1 locs1 → W p l e R s m args below meth c H1 locs1 (cells + rm.cells) (slots + rm.slots) Q (F0 m (pc + 3) ls rest)) : W p l e R s m args below meth c H locs cells slots Q (F0 m pc ls st0) := by
  have hF := va_freeP hD hS hE.2.1 isC hC
  refine va_callv (va_runS (fixA hX) (hM H.size) cw ⟨cP_blind, fun U hU hW => ⟨rfl, cP_payP hE hP hD hS isC hC hnd.1 U hU hW⟩⟩ rfl hn hsize hst (lv_room hW) hdg hf) hS (fun q _ h => hF q h) hF (fun u t H1 locs1 ht hvm hw hB hz1 hk1 hS1 => ?_)
  obtain ⟨hP1, hK1, hD1⟩ := hB
  obtain ⟨rx, pl1, rfl, hz⟩ := hpo _ hw
  rw [ht] at hP1
  obtain ⟨ha, hb⟩ := va_joinP hP hD isC isR hC hR hnd.2.1 hnd.2.2 hk1 hF hP1 hD1
  exact kk rx pl1 H1 locs1 hz ha hb hS1
theorem tkSl {post : Int64 → va_W → Prop} (hX : Ex p s m args meth c cc rt0 nL own) (hE : Ew D cy A0 s) (hM : Cl l y bytes maxL rt rm D cy As WS post) (cw : CallB R s args own index y bytes maxL rt (Cond.code y bytes maxL rt :: wA) rm rm.cells rm.slots n ∧ (Cond.static y).before args s = true)
    (hP : va_P D vwCl (X ++ pl) H) (hD : va_D A0 (X ++ pl)) (hS : va_S A0 s.heap H locs) (isC isR : List Nat) (hC : isC.map (fun i => X[i]?) = WS.map some) (hR : isR.map (fun i => X[i]?) = wr.map some) (hnd : va_nd isC = true ∧ va_nd isR = true ∧ ∀ i ∈ isR, i ∉ isC)
    (hn : As.length = n) (hsize : ls.size = nL) (hst : st0 = As.reverse ++ rest) (hW : (rest.map fun v => v.category).sum ≤ 8) (hdg : decode cc pc = .ok (.invokestatic index, 3)) (hf : cells + rm.cells ≤ R.cells ∧ slots + rm.slots ≤ R.slots)
    (kk : ∀ (r : Int64) (W1 : va_W) (H1 : Heap) (locs1 : List Loc), post r W1 → va_P D vwCl ((wr ++ W1) ++ pl) H1 → va_D A0 ((wr ++ W1) ++ pl) → va_S A0 s.heap H1 locs1 → W p l e R s m args below meth c H1 locs1 (cells + rm.cells) (slots + rm.slots) Q (F0 m (pc + 3) ls (.long r :: rest))) : W p l e R s m args below meth c H locs cells slots Q (F0 m pc ls st0) := by
  have hF := va_free hD hS hE.2.1 isC (hC_tail hC)
  refine va_calll (va_runS (fixA hX) (hM H.size) cw ⟨cP_blind, fun U hU hW => ⟨rfl, cP_pay hE hP hD hS isC (hC_tail hC) hnd.1 U hU hW⟩⟩ rfl hn hsize hst (lv_room hW) hdg hf) hS (fun q _ h => hF q h) hF (fun r u t H1 locs1 ht hvm hw hB hz1 hk1 hS1 => ?_)
  obtain ⟨hP1, hK1, hD1⟩ := hB
  rw [ht] at hP1
  obtain ⟨ha, hb⟩ := va_joinQ hP hD isC isR hC hR hnd.2.1 hnd.2.2 hk1 hF hP1 hD1
  exact kk r u H1 locs1 hw ha hb hS1
theorem ukSl {post : Int64 → va_W → Prop} {po : Int64 → va_W → va_W → Prop} (hX : Ex p s m args meth c cc rt0 nL own) (hE : Ew D cy A0 s) (hM : Cl l y bytes maxL rt rm D cy As (WS ++ pl) post) (cw : CallB R s args own index y bytes maxL rt (Cond.code y bytes maxL rt :: wA) rm rm.cells rm.slots n ∧ (Cond.static y).before args s = true)
    (hP : va_P D vwCl (X ++ pl) H) (hD : va_D A0 (X ++ pl)) (hS : va_S A0 s.heap H locs) (isC isR : List Nat) (hC : isC.map (fun i => X[i]?) = WS.map some) (hR : isR.map (fun i => X[i]?) = wr.map some) (hnd : va_nd isC = true ∧ va_nd isR = true ∧ ∀ i ∈ isR, i ∉ isC)
    (hn : As.length = n) (hsize : ls.size = nL) (hst : st0 = As.reverse ++ rest) (hW : (rest.map fun v => v.category).sum ≤ 8) (hdg : decode cc pc = .ok (.invokestatic index, 3)) (hf : cells + rm.cells ≤ R.cells ∧ slots + rm.slots ≤ R.slots)
    (hpo : ∀ (r : Int64) (W1 : va_W), post r W1 → ∃ rx pl1 : va_W, W1 = rx ++ pl1 ∧ po r rx pl1)
    (kk : ∀ (r : Int64) (rx pl1 : va_W) (H1 : Heap) (locs1 : List Loc), po r rx pl1 → va_P D vwCl ((wr ++ rx) ++ pl1) H1 → va_D A0 ((wr ++ rx) ++ pl1) → va_S A0 s.heap H1 locs1 → W p l e R s m args below meth c H1 locs1 (cells + rm.cells) (slots + rm.slots) Q (F0 m (pc + 3) ls (.long r :: rest))) : W p l e R s m args below meth c H locs cells slots Q (F0 m pc ls st0) := by
  have hF := va_freeP hD hS hE.2.1 isC hC
  refine va_calll (va_runS (fixA hX) (hM H.size) cw ⟨cP_blind, fun U hU hW => ⟨rfl, cP_payP hE hP hD hS isC hC hnd.1 U hU hW⟩⟩ rfl hn hsize hst (lv_room hW) hdg hf) hS (fun q _ h => hF q h) hF (fun r u t H1 locs1 ht hvm hw hB hz1 hk1 hS1 => ?_)
  obtain ⟨hP1, hK1, hD1⟩ := hB
  obtain ⟨rx, pl1, rfl, hz⟩ := hpo _ _ hw
  rw [ht] at hP1
  obtain ⟨ha, hb⟩ := va_joinP hP hD isC isR hC hR hnd.2.1 hnd.2.2 hk1 hF hP1 hD1
  exact kk r rx pl1 H1 locs1 hz ha hb hS1
theorem tkIv {post : va_W → Prop} (hX : Ex p s m args meth c cc rt0 nL own) (hE : Ew D cy A0 s) (hM : Cv l y bytes maxL none rm D cy (.ref b :: As) WS post) (cw : CallB R s args own index y bytes maxL none (Cond.code y bytes maxL none :: wA) rm rm.cells rm.slots n ∧ y.name = "<init>" ∧ (Cond.instanceMethod y).before args s = true)
    (hP : va_P D vwCl (X ++ pl) H) (hD : va_D A0 (X ++ pl)) (hS : va_S A0 s.heap H locs) (isC isR : List Nat) (hC : isC.map (fun i => X[i]?) = WS.map some) (hR : isR.map (fun i => X[i]?) = wr.map some) (hnd : va_nd isC = true ∧ va_nd isR = true ∧ ∀ i ∈ isR, i ∉ isC)
    (hn : As.length = n) (hsize : ls.size = nL) (hst : st0 = As.reverse ++ .ref b :: rest) (hW : (rest.map fun v => v.category).sum ≤ 8) (hdg : decode cc pc = .ok (.invokespecial index, 3)) (hf : cells + rm.cells ≤ R.cells ∧ slots + rm.slots ≤ R.slots)
    (kk : ∀ (W1 : va_W) (H1 : Heap) (locs1 : List Loc), post W1 → va_P D vwCl ((wr ++ W1) ++ pl) H1 → va_D A0 ((wr ++ W1) ++ pl) → va_S A0 s.heap H1 locs1 → W p l e R s m args below meth c H1 locs1 (cells + rm.cells) (slots + rm.slots) Q (F0 m (pc + 3) ls rest)) : W p l e R s m args below meth c H locs cells slots Q (F0 m pc ls st0) := by
  have hF := va_free hD hS hE.2.1 isC (hC_tail hC)
  refine va_callv (va_runI (fixA hX) (hM H.size) cw ⟨cP_blind, fun U hU hW => ⟨rfl, cP_pay hE hP hD hS isC (hC_tail hC) hnd.1 U hU hW⟩⟩ rfl hn hsize hst (lv_room hW) hdg hf) hS (fun q _ h => hF q h) hF (fun u t H1 locs1 ht hvm hw hB hz1 hk1 hS1 => ?_)
  obtain ⟨hP1, hK1, hD1⟩ := hB
  rw [ht] at hP1
  obtain ⟨ha, hb⟩ := va_joinQ hP hD isC isR hC hR hnd.2.1 hnd.2.2 hk1 hF hP1 hD1
  exact kk u H1 locs1 hw ha hb hS1
theorem tkNv {post : va_W → Prop} (hX : Ex p s m args meth c cc rt0 nL own) (hE : Ew D cy A0 s) (hM : Cv l y bytes maxL none rm D cy (.ref b :: As) WS post) (cw : va_CN R s args own index y host bytes maxL none (Cond.code y bytes maxL none :: wA) rm rm.cells rm.slots n ∧ y.name = "<init>" ∧ (Cond.instanceMethod y).before args s = true)
    (hP : va_P D vwCl (X ++ pl) H) (hD : va_D A0 (X ++ pl)) (hS : va_S A0 s.heap H locs) (isC isR : List Nat) (hC : isC.map (fun i => X[i]?) = WS.map some) (hR : isR.map (fun i => X[i]?) = wr.map some) (hnd : va_nd isC = true ∧ va_nd isR = true ∧ ∀ i ∈ isR, i ∉ isC)
    (hn : As.length = n) (hsize : ls.size = nL) (hst : st0 = As.reverse ++ .ref b :: rest) (hW : (rest.map fun v => v.category).sum ≤ 8) (hdg : decode cc pc = .ok (.invokespecial index, 3)) (hf : cells + rm.cells ≤ R.cells ∧ slots + rm.slots ≤ R.slots)
    (kk : ∀ (W1 : va_W) (H1 : Heap) (locs1 : List Loc), post W1 → va_P D vwCl ((wr ++ W1) ++ pl) H1 → va_D A0 ((wr ++ W1) ++ pl) → va_S A0 s.heap H1 locs1 → W p l e R s m args below meth c H1 locs1 (cells + rm.cells) (slots + rm.slots) Q (F0 m (pc + 3) ls rest)) : W p l e R s m args below meth c H locs cells slots Q (F0 m pc ls st0) := by
  have hF := va_free hD hS hE.2.1 isC (hC_tail hC)
  refine va_callv (va_runIN (fixA hX) (hM H.size) cw ⟨cP_blind, fun U hU hW => ⟨rfl, cP_pay hE hP hD hS isC (hC_tail hC) hnd.1 U hU hW⟩⟩ rfl hn hsize hst (lv_room hW) hdg hf) hS (fun q _ h => hF q h) hF (fun u t H1 locs1 ht hvm hw hB hz1 hk1 hS1 => ?_)
  obtain ⟨hP1, hK1, hD1⟩ := hB
  rw [ht] at hP1
  obtain ⟨ha, hb⟩ := va_joinQ hP hD isC isR hC hR hnd.2.1 hnd.2.2 hk1 hF hP1 hD1
  exact kk u H1 locs1 hw ha hb hS1
theorem txVi {post : Int32 → va_W → Prop} (hX : Ex p s m args meth c cc rt0 nL own) (hE : Ew D cy A0 s) (hM : Xi l y bytes maxL rt rm D cy (.ref b :: As) WS post px) (cw : CallW R s args own C index y bytes maxL rt (Cond.code y bytes maxL rt :: wA) rm rm.cells rm.slots n)
    (hP : va_P D vwCl (X ++ pl) H) (hD : va_D A0 (X ++ pl)) (hS : va_S A0 s.heap H locs) (isC isR : List Nat) (hC : isC.map (fun i => X[i]?) = WS.map some) (hR : isR.map (fun i => X[i]?) = wr.map some) (hnd : va_nd isC = true ∧ va_nd isR = true ∧ ∀ i ∈ isR, i ∉ isC)
    (q0 : Nat) {ci : Nat} {fs : List Value} {r : vw_C} (hq : WS[q0]? = some (b, .inr (ci, fs))) (hc : vwCl[ci]? = some r) (hrC : r.1 = C) (hn : As.length = n) (hsize : ls.size = nL) (hst : st0 = As.reverse ++ .ref b :: rest) (hW : (rest.map fun v => v.category).sum ≤ 8) (hdg : decode cc pc = .ok (.invokevirtual index, 3)) (hf : cells + rm.cells ≤ R.cells ∧ slots + rm.slots ≤ R.slots)
    (kx : ∀ (E : String) (ce : Cell) (q9 : Addr) (W1 : va_W) (H1 : Heap) (locs1 : List Loc), px E W1 → va_P D vwCl ((wr ++ W1) ++ pl) H1 → va_D A0 ((wr ++ W1) ++ pl) → va_S A0 s.heap H1 locs1 → H1[q9]? = some ce → ce.vm = .none → s.vm.findClass E = some ce.cls → vx_W p l e R s m args below meth c H1 locs1 (cells + rm.cells) (slots + rm.slots) Q (F0 m pc ls rest) q9)
    (kk : ∀ (r : Int32) (W1 : va_W) (H1 : Heap) (locs1 : List Loc), post r W1 → va_P D vwCl ((wr ++ W1) ++ pl) H1 → va_D A0 ((wr ++ W1) ++ pl) → va_S A0 s.heap H1 locs1 → W p l e R s m args below meth c H1 locs1 (cells + rm.cells) (slots + rm.slots) Q (F0 m (pc + 3) ls (.int r :: rest))) : W p l e R s m args below meth c H locs cells slots Q (F0 m pc ls st0) := by
  subst hrC
  have hF := va_free hD hS hE.2.1 isC (hC_tail hC)
  refine vx_calli (vx_runV (fixA hX) (hM H.size) cw ⟨cP_blind, recvA hE hP isC (hC_tail hC) hq hc, fun U hU hW => ⟨rfl, cP_pay hE hP hD hS isC (hC_tail hC) hnd.1 U hU hW⟩⟩ rfl hn hsize hst (lv_room hW) hdg hf) hS (fun q _ h => hF q h) hF (fun q _ h => hF q h) (fun E ce q9 u t H1 locs1 ht hvm hw hB hz1 hk1 hS1 hce hcv hcl => ?_) (fun r u t H1 locs1 ht hvm hw hB hz1 hk1 hS1 => ?_)
  · obtain ⟨hpx, hP1, hK1, hD1⟩ := hB
    rw [ht] at hP1
    obtain ⟨ha, hb⟩ := va_joinQ hP hD isC isR hC hR hnd.2.1 hnd.2.2 hk1 hF hP1 hD1
    exact kx E ce q9 u H1 locs1 hpx ha hb hS1 hce hcv hcl
  · obtain ⟨hP1, hK1, hD1⟩ := hB
    rw [ht] at hP1
    obtain ⟨ha, hb⟩ := va_joinQ hP hD isC isR hC hR hnd.2.1 hnd.2.2 hk1 hF hP1 hD1
    exact kk r u H1 locs1 hw ha hb hS1
theorem uxVi {post : Int32 → va_W → Prop} {po : Int32 → va_W → va_W → Prop} {pz : String → va_W → va_W → Prop} (hX : Ex p s m args meth c cc rt0 nL own) (hE : Ew D cy A0 s) (hM : Xi l y bytes maxL rt rm D cy (.ref b :: As) (WS ++ pl) post px) (cw : CallW R s args own C index y bytes maxL rt (Cond.code y bytes maxL rt :: wA) rm rm.cells rm.slots n)
    (hP : va_P D vwCl (X ++ pl) H) (hD : va_D A0 (X ++ pl)) (hS : va_S A0 s.heap H locs) (isC isR : List Nat) (hC : isC.map (fun i => X[i]?) = WS.map some) (hR : isR.map (fun i => X[i]?) = wr.map some) (hnd : va_nd isC = true ∧ va_nd isR = true ∧ ∀ i ∈ isR, i ∉ isC)
    (q0 : Nat) {ci : Nat} {fs : List Value} {r : vw_C} (hq : WS[q0]? = some (b, .inr (ci, fs))) (hc : vwCl[ci]? = some r) (hrC : r.1 = C) (hn : As.length = n) (hsize : ls.size = nL) (hst : st0 = As.reverse ++ .ref b :: rest) (hW : (rest.map fun v => v.category).sum ≤ 8) (hdg : decode cc pc = .ok (.invokevirtual index, 3)) (hf : cells + rm.cells ≤ R.cells ∧ slots + rm.slots ≤ R.slots)
    (hpx9 : ∀ (E : String) (W1 : va_W), px E W1 → ∃ rx pl1 : va_W, W1 = rx ++ pl1 ∧ pz E rx pl1)
    (kx : ∀ (E : String) (ce : Cell) (q9 : Addr) (rx pl1 : va_W) (H1 : Heap) (locs1 : List Loc), pz E rx pl1 → va_P D vwCl ((wr ++ rx) ++ pl1) H1 → va_D A0 ((wr ++ rx) ++ pl1) → va_S A0 s.heap H1 locs1 → H1[q9]? = some ce → ce.vm = .none → s.vm.findClass E = some ce.cls → vx_W p l e R s m args below meth c H1 locs1 (cells + rm.cells) (slots + rm.slots) Q (F0 m pc ls rest) q9)
    (hpo : ∀ (r : Int32) (W1 : va_W), post r W1 → ∃ rx pl1 : va_W, W1 = rx ++ pl1 ∧ po r rx pl1)
    (kk : ∀ (r : Int32) (rx pl1 : va_W) (H1 : Heap) (locs1 : List Loc), po r rx pl1 → va_P D vwCl ((wr ++ rx) ++ pl1) H1 → va_D A0 ((wr ++ rx) ++ pl1) → va_S A0 s.heap H1 locs1 → W p l e R s m args below meth c H1 locs1 (cells + rm.cells) (slots + rm.slots) Q (F0 m (pc + 3) ls (.int r :: rest))) : W p l e R s m args below meth c H locs cells slots Q (F0 m pc ls st0) := by
  subst hrC
  have hF := va_freeP hD hS hE.2.1 isC hC
  refine vx_calli (vx_runV (fixA hX) (hM H.size) cw ⟨cP_blind, recvA hE hP isC (hC_tail hC) hq hc, fun U hU hW => ⟨rfl, cP_payP hE hP hD hS isC hC hnd.1 U hU hW⟩⟩ rfl hn hsize hst (lv_room hW) hdg hf) hS (fun q _ h => hF q h) hF (fun q _ h => hF q h) (fun E ce q9 u t H1 locs1 ht hvm hw hB hz1 hk1 hS1 hce hcv hcl => ?_) (fun r u t H1 locs1 ht hvm hw hB hz1 hk1 hS1 => ?_)
  · obtain ⟨hpx, hP1, hK1, hD1⟩ := hB
    obtain ⟨rx, pl1, rfl, hz⟩ := hpx9 _ _ hpx
    rw [ht] at hP1
    obtain ⟨ha, hb⟩ := va_joinP hP hD isC isR hC hR hnd.2.1 hnd.2.2 hk1 hF hP1 hD1
    exact kx E ce q9 rx pl1 H1 locs1 hz ha hb hS1 hce hcv hcl
  · obtain ⟨hP1, hK1, hD1⟩ := hB
    obtain ⟨rx, pl1, rfl, hz⟩ := hpo _ _ hw
    rw [ht] at hP1
    obtain ⟨ha, hb⟩ := va_joinP hP hD isC isR hC hR hnd.2.1 hnd.2.2 hk1 hF hP1 hD1
    exact kk r rx pl1 H1 locs1 hz ha hb hS1
theorem txVv {post : va_W → Prop} (hX : Ex p s m args meth c cc rt0 nL own) (hE : Ew D cy A0 s) (hM : Xv l y bytes maxL rt rm D cy (.ref b :: As) WS post px) (cw : CallW R s args own C index y bytes maxL rt (Cond.code y bytes maxL rt :: wA) rm rm.cells rm.slots n)
    (hP : va_P D vwCl (X ++ pl) H) (hD : va_D A0 (X ++ pl)) (hS : va_S A0 s.heap H locs) (isC isR : List Nat) (hC : isC.map (fun i => X[i]?) = WS.map some) (hR : isR.map (fun i => X[i]?) = wr.map some) (hnd : va_nd isC = true ∧ va_nd isR = true ∧ ∀ i ∈ isR, i ∉ isC)
    (q0 : Nat) {ci : Nat} {fs : List Value} {r : vw_C} (hq : WS[q0]? = some (b, .inr (ci, fs))) (hc : vwCl[ci]? = some r) (hrC : r.1 = C) (hn : As.length = n) (hsize : ls.size = nL) (hst : st0 = As.reverse ++ .ref b :: rest) (hW : (rest.map fun v => v.category).sum ≤ 8) (hdg : decode cc pc = .ok (.invokevirtual index, 3)) (hf : cells + rm.cells ≤ R.cells ∧ slots + rm.slots ≤ R.slots)
    (kx : ∀ (E : String) (ce : Cell) (q9 : Addr) (W1 : va_W) (H1 : Heap) (locs1 : List Loc), px E W1 → va_P D vwCl ((wr ++ W1) ++ pl) H1 → va_D A0 ((wr ++ W1) ++ pl) → va_S A0 s.heap H1 locs1 → H1[q9]? = some ce → ce.vm = .none → s.vm.findClass E = some ce.cls → vx_W p l e R s m args below meth c H1 locs1 (cells + rm.cells) (slots + rm.slots) Q (F0 m pc ls rest) q9)
    (kk : ∀ (W1 : va_W) (H1 : Heap) (locs1 : List Loc), post W1 → va_P D vwCl ((wr ++ W1) ++ pl) H1 → va_D A0 ((wr ++ W1) ++ pl) → va_S A0 s.heap H1 locs1 → W p l e R s m args below meth c H1 locs1 (cells + rm.cells) (slots + rm.slots) Q (F0 m (pc + 3) ls rest)) : W p l e R s m args below meth c H locs cells slots Q (F0 m pc ls st0) := by
  subst hrC
  have hF := va_free hD hS hE.2.1 isC (hC_tail hC)
  refine vx_callv (vx_runV (fixA hX) (hM H.size) cw ⟨cP_blind, recvA hE hP isC (hC_tail hC) hq hc, fun U hU hW => ⟨rfl, cP_pay hE hP hD hS isC (hC_tail hC) hnd.1 U hU hW⟩⟩ rfl hn hsize hst (lv_room hW) hdg hf) hS (fun q _ h => hF q h) hF (fun q _ h => hF q h) (fun E ce q9 u t H1 locs1 ht hvm hw hB hz1 hk1 hS1 hce hcv hcl => ?_) (fun u t H1 locs1 ht hvm hw hB hz1 hk1 hS1 => ?_)
  · obtain ⟨hpx, hP1, hK1, hD1⟩ := hB
    rw [ht] at hP1
    obtain ⟨ha, hb⟩ := va_joinQ hP hD isC isR hC hR hnd.2.1 hnd.2.2 hk1 hF hP1 hD1
    exact kx E ce q9 u H1 locs1 hpx ha hb hS1 hce hcv hcl
  · obtain ⟨hP1, hK1, hD1⟩ := hB
    rw [ht] at hP1
    obtain ⟨ha, hb⟩ := va_joinQ hP hD isC isR hC hR hnd.2.1 hnd.2.2 hk1 hF hP1 hD1
    exact kk u H1 locs1 hw ha hb hS1
theorem uxVv {post : va_W → Prop} {po : va_W → va_W → Prop} {pz : String → va_W → va_W → Prop} (hX : Ex p s m args meth c cc rt0 nL own) (hE : Ew D cy A0 s) (hM : Xv l y bytes maxL rt rm D cy (.ref b :: As) (WS ++ pl) post px) (cw : CallW R s args own C index y bytes maxL rt (Cond.code y bytes maxL rt :: wA) rm rm.cells rm.slots n)
    (hP : va_P D vwCl (X ++ pl) H) (hD : va_D A0 (X ++ pl)) (hS : va_S A0 s.heap H locs) (isC isR : List Nat) (hC : isC.map (fun i => X[i]?) = WS.map some) (hR : isR.map (fun i => X[i]?) = wr.map some) (hnd : va_nd isC = true ∧ va_nd isR = true ∧ ∀ i ∈ isR, i ∉ isC)
    (q0 : Nat) {ci : Nat} {fs : List Value} {r : vw_C} (hq : WS[q0]? = some (b, .inr (ci, fs))) (hc : vwCl[ci]? = some r) (hrC : r.1 = C) (hn : As.length = n) (hsize : ls.size = nL) (hst : st0 = As.reverse ++ .ref b :: rest) (hW : (rest.map fun v => v.category).sum ≤ 8) (hdg : decode cc pc = .ok (.invokevirtual index, 3)) (hf : cells + rm.cells ≤ R.cells ∧ slots + rm.slots ≤ R.slots)
    (hpx9 : ∀ (E : String) (W1 : va_W), px E W1 → ∃ rx pl1 : va_W, W1 = rx ++ pl1 ∧ pz E rx pl1)
    (kx : ∀ (E : String) (ce : Cell) (q9 : Addr) (rx pl1 : va_W) (H1 : Heap) (locs1 : List Loc), pz E rx pl1 → va_P D vwCl ((wr ++ rx) ++ pl1) H1 → va_D A0 ((wr ++ rx) ++ pl1) → va_S A0 s.heap H1 locs1 → H1[q9]? = some ce → ce.vm = .none → s.vm.findClass E = some ce.cls → vx_W p l e R s m args below meth c H1 locs1 (cells + rm.cells) (slots + rm.slots) Q (F0 m pc ls rest) q9)
    (hpo : ∀ (W1 : va_W), post W1 → ∃ rx pl1 : va_W, W1 = rx ++ pl1 ∧ po rx pl1)
    (kk : ∀ (rx pl1 : va_W) (H1 : Heap) (locs1 : List Loc), po rx pl1 → va_P D vwCl ((wr ++ rx) ++ pl1) H1 → va_D A0 ((wr ++ rx) ++ pl1) → va_S A0 s.heap H1 locs1 → W p l e R s m args below meth c H1 locs1 (cells + rm.cells) (slots + rm.slots) Q (F0 m (pc + 3) ls rest)) : W p l e R s m args below meth c H locs cells slots Q (F0 m pc ls st0) := by
  subst hrC
  have hF := va_freeP hD hS hE.2.1 isC hC
  refine vx_callv (vx_runV (fixA hX) (hM H.size) cw ⟨cP_blind, recvA hE hP isC (hC_tail hC) hq hc, fun U hU hW => ⟨rfl, cP_payP hE hP hD hS isC hC hnd.1 U hU hW⟩⟩ rfl hn hsize hst (lv_room hW) hdg hf) hS (fun q _ h => hF q h) hF (fun q _ h => hF q h) (fun E ce q9 u t H1 locs1 ht hvm hw hB hz1 hk1 hS1 hce hcv hcl => ?_) (fun u t H1 locs1 ht hvm hw hB hz1 hk1 hS1 => ?_)
  · obtain ⟨hpx, hP1, hK1, hD1⟩ := hB
    obtain ⟨rx, pl1, rfl, hz⟩ := hpx9 _ _ hpx
    rw [ht] at hP1
    obtain ⟨ha, hb⟩ := va_joinP hP hD isC isR hC hR hnd.2.1 hnd.2.2 hk1 hF hP1 hD1
    exact kx E ce q9 rx pl1 H1 locs1 hz ha hb hS1 hce hcv hcl
  · obtain ⟨hP1, hK1, hD1⟩ := hB
    obtain ⟨rx, pl1, rfl, hz⟩ := hpo _ hw
    rw [ht] at hP1
    obtain ⟨ha, hb⟩ := va_joinP hP hD isC isR hC hR hnd.2.1 hnd.2.2 hk1 hF hP1 hD1
    exact kk rx pl1 H1 locs1 hz ha hb hS1
theorem txVl {post : Int64 → va_W → Prop} (hX : Ex p s m args meth c cc rt0 nL own) (hE : Ew D cy A0 s) (hM : Xl l y bytes maxL rt rm D cy (.ref b :: As) WS post px) (cw : CallW R s args own C index y bytes maxL rt (Cond.code y bytes maxL rt :: wA) rm rm.cells rm.slots n)
    (hP : va_P D vwCl (X ++ pl) H) (hD : va_D A0 (X ++ pl)) (hS : va_S A0 s.heap H locs) (isC isR : List Nat) (hC : isC.map (fun i => X[i]?) = WS.map some) (hR : isR.map (fun i => X[i]?) = wr.map some) (hnd : va_nd isC = true ∧ va_nd isR = true ∧ ∀ i ∈ isR, i ∉ isC)
    (q0 : Nat) {ci : Nat} {fs : List Value} {r : vw_C} (hq : WS[q0]? = some (b, .inr (ci, fs))) (hc : vwCl[ci]? = some r) (hrC : r.1 = C) (hn : As.length = n) (hsize : ls.size = nL) (hst : st0 = As.reverse ++ .ref b :: rest) (hW : (rest.map fun v => v.category).sum ≤ 8) (hdg : decode cc pc = .ok (.invokevirtual index, 3)) (hf : cells + rm.cells ≤ R.cells ∧ slots + rm.slots ≤ R.slots)
    (kx : ∀ (E : String) (ce : Cell) (q9 : Addr) (W1 : va_W) (H1 : Heap) (locs1 : List Loc), px E W1 → va_P D vwCl ((wr ++ W1) ++ pl) H1 → va_D A0 ((wr ++ W1) ++ pl) → va_S A0 s.heap H1 locs1 → H1[q9]? = some ce → ce.vm = .none → s.vm.findClass E = some ce.cls → vx_W p l e R s m args below meth c H1 locs1 (cells + rm.cells) (slots + rm.slots) Q (F0 m pc ls rest) q9)
    (kk : ∀ (r : Int64) (W1 : va_W) (H1 : Heap) (locs1 : List Loc), post r W1 → va_P D vwCl ((wr ++ W1) ++ pl) H1 → va_D A0 ((wr ++ W1) ++ pl) → va_S A0 s.heap H1 locs1 → W p l e R s m args below meth c H1 locs1 (cells + rm.cells) (slots + rm.slots) Q (F0 m (pc + 3) ls (.long r :: rest))) : W p l e R s m args below meth c H locs cells slots Q (F0 m pc ls st0) := by
  subst hrC
  have hF := va_free hD hS hE.2.1 isC (hC_tail hC)
  refine vx_calll (vx_runV (fixA hX) (hM H.size) cw ⟨cP_blind, recvA hE hP isC (hC_tail hC) hq hc, fun U hU hW => ⟨rfl, cP_pay hE hP hD hS isC (hC_tail hC) hnd.1 U hU hW⟩⟩ rfl hn hsize hst (lv_room hW) hdg hf) hS (fun q _ h => hF q h) hF (fun q _ h => hF q h) (fun E ce q9 u t H1 locs1 ht hvm hw hB hz1 hk1 hS1 hce hcv hcl => ?_) (fun r u t H1 locs1 ht hvm hw hB hz1 hk1 hS1 => ?_)
  · obtain ⟨hpx, hP1, hK1, hD1⟩ := hB
    rw [ht] at hP1
    obtain ⟨ha, hb⟩ := va_joinQ hP hD isC isR hC hR hnd.2.1 hnd.2.2 hk1 hF hP1 hD1
    exact kx E ce q9 u H1 locs1 hpx ha hb hS1 hce hcv hcl
  · obtain ⟨hP1, hK1, hD1⟩ := hB
    rw [ht] at hP1
    obtain ⟨ha, hb⟩ := va_joinQ hP hD isC isR hC hR hnd.2.1 hnd.2.2 hk1 hF hP1 hD1
    exact kk r u H1 locs1 hw ha hb hS1
theorem uxVl {post : Int64 → va_W → Prop} {po : Int64 → va_W → va_W → Prop} {pz : String → va_W → va_W → Prop} (hX : Ex p s m args meth c cc rt0 nL own) (hE : Ew D cy A0 s) (hM : Xl l y bytes maxL rt rm D cy (.ref b :: As) (WS ++ pl) post px) (cw : CallW R s args own C index y bytes maxL rt (Cond.code y bytes maxL rt :: wA) rm rm.cells rm.slots n)
    (hP : va_P D vwCl (X ++ pl) H) (hD : va_D A0 (X ++ pl)) (hS : va_S A0 s.heap H locs) (isC isR : List Nat) (hC : isC.map (fun i => X[i]?) = WS.map some) (hR : isR.map (fun i => X[i]?) = wr.map some) (hnd : va_nd isC = true ∧ va_nd isR = true ∧ ∀ i ∈ isR, i ∉ isC)
    (q0 : Nat) {ci : Nat} {fs : List Value} {r : vw_C} (hq : WS[q0]? = some (b, .inr (ci, fs))) (hc : vwCl[ci]? = some r) (hrC : r.1 = C) (hn : As.length = n) (hsize : ls.size = nL) (hst : st0 = As.reverse ++ .ref b :: rest) (hW : (rest.map fun v => v.category).sum ≤ 8) (hdg : decode cc pc = .ok (.invokevirtual index, 3)) (hf : cells + rm.cells ≤ R.cells ∧ slots + rm.slots ≤ R.slots)
    (hpx9 : ∀ (E : String) (W1 : va_W), px E W1 → ∃ rx pl1 : va_W, W1 = rx ++ pl1 ∧ pz E rx pl1)
    (kx : ∀ (E : String) (ce : Cell) (q9 : Addr) (rx pl1 : va_W) (H1 : Heap) (locs1 : List Loc), pz E rx pl1 → va_P D vwCl ((wr ++ rx) ++ pl1) H1 → va_D A0 ((wr ++ rx) ++ pl1) → va_S A0 s.heap H1 locs1 → H1[q9]? = some ce → ce.vm = .none → s.vm.findClass E = some ce.cls → vx_W p l e R s m args below meth c H1 locs1 (cells + rm.cells) (slots + rm.slots) Q (F0 m pc ls rest) q9)
    (hpo : ∀ (r : Int64) (W1 : va_W), post r W1 → ∃ rx pl1 : va_W, W1 = rx ++ pl1 ∧ po r rx pl1)
    (kk : ∀ (r : Int64) (rx pl1 : va_W) (H1 : Heap) (locs1 : List Loc), po r rx pl1 → va_P D vwCl ((wr ++ rx) ++ pl1) H1 → va_D A0 ((wr ++ rx) ++ pl1) → va_S A0 s.heap H1 locs1 → W p l e R s m args below meth c H1 locs1 (cells + rm.cells) (slots + rm.slots) Q (F0 m (pc + 3) ls (.long r :: rest))) : W p l e R s m args below meth c H locs cells slots Q (F0 m pc ls st0) := by
  subst hrC
  have hF := va_freeP hD hS hE.2.1 isC hC
  refine vx_calll (vx_runV (fixA hX) (hM H.size) cw ⟨cP_blind, recvA hE hP isC (hC_tail hC) hq hc, fun U hU hW => ⟨rfl, cP_payP hE hP hD hS isC hC hnd.1 U hU hW⟩⟩ rfl hn hsize hst (lv_room hW) hdg hf) hS (fun q _ h => hF q h) hF (fun q _ h => hF q h) (fun E ce q9 u t H1 locs1 ht hvm hw hB hz1 hk1 hS1 hce hcv hcl => ?_) (fun r u t H1 locs1 ht hvm hw hB hz1 hk1 hS1 => ?_)
  · obtain ⟨hpx, hP1, hK1, hD1⟩ := hB
    obtain ⟨rx, pl1, rfl, hz⟩ := hpx9 _ _ hpx
    rw [ht] at hP1
    obtain ⟨ha, hb⟩ := va_joinP hP hD isC isR hC hR hnd.2.1 hnd.2.2 hk1 hF hP1 hD1
    exact kx E ce q9 rx pl1 H1 locs1 hz ha hb hS1 hce hcv hcl
  · obtain ⟨hP1, hK1, hD1⟩ := hB
    obtain ⟨rx, pl1, rfl, hz⟩ := hpo _ _ hw
    rw [ht] at hP1
    obtain ⟨ha, hb⟩ := va_joinP hP hD isC isR hC hR hnd.2.1 hnd.2.2 hk1 hF hP1 hD1
    exact kk r rx pl1 H1 locs1 hz ha hb hS1
theorem txSi {post : Int32 → va_W → Prop} (hX : Ex p s m args meth c cc rt0 nL own) (hE : Ew D cy A0 s) (hM : Xi l y bytes maxL rt rm D cy As WS post px) (cw : CallB R s args own index y bytes maxL rt (Cond.code y bytes maxL rt :: wA) rm rm.cells rm.slots n ∧ (Cond.static y).before args s = true)
    (hP : va_P D vwCl (X ++ pl) H) (hD : va_D A0 (X ++ pl)) (hS : va_S A0 s.heap H locs) (isC isR : List Nat) (hC : isC.map (fun i => X[i]?) = WS.map some) (hR : isR.map (fun i => X[i]?) = wr.map some) (hnd : va_nd isC = true ∧ va_nd isR = true ∧ ∀ i ∈ isR, i ∉ isC)
    (hn : As.length = n) (hsize : ls.size = nL) (hst : st0 = As.reverse ++ rest) (hW : (rest.map fun v => v.category).sum ≤ 8) (hdg : decode cc pc = .ok (.invokestatic index, 3)) (hf : cells + rm.cells ≤ R.cells ∧ slots + rm.slots ≤ R.slots)
    (kx : ∀ (E : String) (ce : Cell) (q9 : Addr) (W1 : va_W) (H1 : Heap) (locs1 : List Loc), px E W1 → va_P D vwCl ((wr ++ W1) ++ pl) H1 → va_D A0 ((wr ++ W1) ++ pl) → va_S A0 s.heap H1 locs1 → H1[q9]? = some ce → ce.vm = .none → s.vm.findClass E = some ce.cls → vx_W p l e R s m args below meth c H1 locs1 (cells + rm.cells) (slots + rm.slots) Q (F0 m pc ls rest) q9)
    (kk : ∀ (r : Int32) (W1 : va_W) (H1 : Heap) (locs1 : List Loc), post r W1 → va_P D vwCl ((wr ++ W1) ++ pl) H1 → va_D A0 ((wr ++ W1) ++ pl) → va_S A0 s.heap H1 locs1 → W p l e R s m args below meth c H1 locs1 (cells + rm.cells) (slots + rm.slots) Q (F0 m (pc + 3) ls (.int r :: rest))) : W p l e R s m args below meth c H locs cells slots Q (F0 m pc ls st0) := by
  have hF := va_free hD hS hE.2.1 isC (hC_tail hC)
  refine vx_calli (vx_runS (fixA hX) (hM H.size) cw ⟨cP_blind, fun U hU hW => ⟨rfl, cP_pay hE hP hD hS isC (hC_tail hC) hnd.1 U hU hW⟩⟩ rfl hn hsize hst (lv_room hW) hdg hf) hS (fun q _ h => hF q h) hF (fun q _ h => hF q h) (fun E ce q9 u t H1 locs1 ht hvm hw hB hz1 hk1 hS1 hce hcv hcl => ?_) (fun r u t H1 locs1 ht hvm hw hB hz1 hk1 hS1 => ?_)
  · obtain ⟨hpx, hP1, hK1, hD1⟩ := hB
    rw [ht] at hP1
    obtain ⟨ha, hb⟩ := va_joinQ hP hD isC isR hC hR hnd.2.1 hnd.2.2 hk1 hF hP1 hD1
    exact kx E ce q9 u H1 locs1 hpx ha hb hS1 hce hcv hcl
  · obtain ⟨hP1, hK1, hD1⟩ := hB
    rw [ht] at hP1
    obtain ⟨ha, hb⟩ := va_joinQ hP hD isC isR hC hR hnd.2.1 hnd.2.2 hk1 hF hP1 hD1
    exact kk r u H1 locs1 hw ha hb hS1
theorem uxSi {post : Int32 → va_W → Prop} {po : Int32 → va_W → va_W → Prop} {pz : String → va_W → va_W → Prop} (hX : Ex p s m args meth c cc rt0 nL own) (hE : Ew D cy A0 s) (hM : Xi l y bytes maxL rt rm D cy As (WS ++ pl) post px) (cw : CallB R s args own index y bytes maxL rt (Cond.code y bytes maxL rt :: wA) rm rm.cells rm.slots n ∧ (Cond.static y).before args s = true)
    (hP : va_P D vwCl (X ++ pl) H) (hD : va_D A0 (X ++ pl)) (hS : va_S A0 s.heap H locs) (isC isR : List Nat) (hC : isC.map (fun i => X[i]?) = WS.map some) (hR : isR.map (fun i => X[i]?) = wr.map some) (hnd : va_nd isC = true ∧ va_nd isR = true ∧ ∀ i ∈ isR, i ∉ isC)
    (hn : As.length = n) (hsize : ls.size = nL) (hst : st0 = As.reverse ++ rest) (hW : (rest.map fun v => v.category).sum ≤ 8) (hdg : decode cc pc = .ok (.invokestatic index, 3)) (hf : cells + rm.cells ≤ R.cells ∧ slots + rm.slots ≤ R.slots)
    (hpx9 : ∀ (E : String) (W1 : va_W), px E W1 → ∃ rx pl1 : va_W, W1 = rx ++ pl1 ∧ pz E rx pl1)
    (kx : ∀ (E : String) (ce : Cell) (q9 : Addr) (rx pl1 : va_W) (H1 : Heap) (locs1 : List Loc), pz E rx pl1 → va_P D vwCl ((wr ++ rx) ++ pl1) H1 → va_D A0 ((wr ++ rx) ++ pl1) → va_S A0 s.heap H1 locs1 → H1[q9]? = some ce → ce.vm = .none → s.vm.findClass E = some ce.cls → vx_W p l e R s m args below meth c H1 locs1 (cells + rm.cells) (slots + rm.slots) Q (F0 m pc ls rest) q9)
    (hpo : ∀ (r : Int32) (W1 : va_W), post r W1 → ∃ rx pl1 : va_W, W1 = rx ++ pl1 ∧ po r rx pl1)
    (kk : ∀ (r : Int32) (rx pl1 : va_W) (H1 : Heap) (locs1 : List Loc), po r rx pl1 → va_P D vwCl ((wr ++ rx) ++ pl1) H1 → va_D A0 ((wr ++ rx) ++ pl1) → va_S A0 s.heap H1 locs1 → W p l e R s m args below meth c H1 locs1 (cells + rm.cells) (slots + rm.slots) Q (F0 m (pc + 3) ls (.int r :: rest))) : W p l e R s m args below meth c H locs cells slots Q (F0 m pc ls st0) := by
  have hF := va_freeP hD hS hE.2.1 isC hC
  refine vx_calli (vx_runS (fixA hX) (hM H.size) cw ⟨cP_blind, fun U hU hW => ⟨rfl, cP_payP hE hP hD hS isC hC hnd.1 U hU hW⟩⟩ rfl hn hsize hst (lv_room hW) hdg hf) hS (fun q _ h => hF q h) hF (fun q _ h => hF q h) (fun E ce q9 u t H1 locs1 ht hvm hw hB hz1 hk1 hS1 hce hcv hcl => ?_) (fun r u t H1 locs1 ht hvm hw hB hz1 hk1 hS1 => ?_)
  · obtain ⟨hpx, hP1, hK1, hD1⟩ := hB
    obtain ⟨rx, pl1, rfl, hz⟩ := hpx9 _ _ hpx
    rw [ht] at hP1
    obtain ⟨ha, hb⟩ := va_joinP hP hD isC isR hC hR hnd.2.1 hnd.2.2 hk1 hF hP1 hD1
    exact kx E ce q9 rx pl1 H1 locs1 hz ha hb hS1 hce hcv hcl
  · obtain ⟨hP1, hK1, hD1⟩ := hB
    obtain ⟨rx, pl1, rfl, hz⟩ := hpo _ _ hw
    rw [ht] at hP1
    obtain ⟨ha, hb⟩ := va_joinP hP hD isC isR hC hR hnd.2.1 hnd.2.2 hk1 hF hP1 hD1
    exact kk r rx pl1 H1 locs1 hz ha hb hS1
theorem txSv {post : va_W → Prop} (hX : Ex p s m args meth c cc rt0 nL own) (hE : Ew D cy A0 s) (hM : Xv l y bytes maxL rt rm D cy As WS post px) (cw : CallB R s args own index y bytes maxL rt (Cond.code y bytes maxL rt :: wA) rm rm.cells rm.slots n ∧ (Cond.static y).before args s = true)
    (hP : va_P D vwCl (X ++ pl) H) (hD : va_D A0 (X ++ pl)) (hS : va_S A0 s.heap H locs) (isC isR : List Nat) (hC : isC.map (fun i => X[i]?) = WS.map some) (hR : isR.map (fun i => X[i]?) = wr.map some) (hnd : va_nd isC = true ∧ va_nd isR = true ∧ ∀ i ∈ isR, i ∉ isC)
    (hn : As.length = n) (hsize : ls.size = nL) (hst : st0 = As.reverse ++ rest) (hW : (rest.map fun v => v.category).sum ≤ 8) (hdg : decode cc pc = .ok (.invokestatic index, 3)) (hf : cells + rm.cells ≤ R.cells ∧ slots + rm.slots ≤ R.slots)
    (kx : ∀ (E : String) (ce : Cell) (q9 : Addr) (W1 : va_W) (H1 : Heap) (locs1 : List Loc), px E W1 → va_P D vwCl ((wr ++ W1) ++ pl) H1 → va_D A0 ((wr ++ W1) ++ pl) → va_S A0 s.heap H1 locs1 → H1[q9]? = some ce → ce.vm = .none → s.vm.findClass E = some ce.cls → vx_W p l e R s m args below meth c H1 locs1 (cells + rm.cells) (slots + rm.slots) Q (F0 m pc ls rest) q9)
    (kk : ∀ (W1 : va_W) (H1 : Heap) (locs1 : List Loc), post W1 → va_P D vwCl ((wr ++ W1) ++ pl) H1 → va_D A0 ((wr ++ W1) ++ pl) → va_S A0 s.heap H1 locs1 → W p l e R s m args below meth c H1 locs1 (cells + rm.cells) (slots + rm.slots) Q (F0 m (pc + 3) ls rest)) : W p l e R s m args below meth c H locs cells slots Q (F0 m pc ls st0) := by
  have hF := va_free hD hS hE.2.1 isC (hC_tail hC)
  refine vx_callv (vx_runS (fixA hX) (hM H.size) cw ⟨cP_blind, fun U hU hW => ⟨rfl, cP_pay hE hP hD hS isC (hC_tail hC) hnd.1 U hU hW⟩⟩ rfl hn hsize hst (lv_room hW) hdg hf) hS (fun q _ h => hF q h) hF (fun q _ h => hF q h) (fun E ce q9 u t H1 locs1 ht hvm hw hB hz1 hk1 hS1 hce hcv hcl => ?_) (fun u t H1 locs1 ht hvm hw hB hz1 hk1 hS1 => ?_)
  · obtain ⟨hpx, hP1, hK1, hD1⟩ := hB
    rw [ht] at hP1
    obtain ⟨ha, hb⟩ := va_joinQ hP hD isC isR hC hR hnd.2.1 hnd.2.2 hk1 hF hP1 hD1
    exact kx E ce q9 u H1 locs1 hpx ha hb hS1 hce hcv hcl
  · obtain ⟨hP1, hK1, hD1⟩ := hB
    rw [ht] at hP1
    obtain ⟨ha, hb⟩ := va_joinQ hP hD isC isR hC hR hnd.2.1 hnd.2.2 hk1 hF hP1 hD1
    exact kk u H1 locs1 hw ha hb hS1
theorem uxSv {post : va_W → Prop} {po : va_W → va_W → Prop} {pz : String → va_W → va_W → Prop} (hX : Ex p s m args meth c cc rt0 nL own) (hE : Ew D cy A0 s) (hM : Xv l y bytes maxL rt rm D cy As (WS ++ pl) post px) (cw : CallB R s args own index y bytes maxL rt (Cond.code y bytes maxL rt :: wA) rm rm.cells rm.slots n ∧ (Cond.static y).before args s = true)
    (hP : va_P D vwCl (X ++ pl) H) (hD : va_D A0 (X ++ pl)) (hS : va_S A0 s.heap H locs) (isC isR : List Nat) (hC : isC.map (fun i => X[i]?) = WS.map some) (hR : isR.map (fun i => X[i]?) = wr.map some) (hnd : va_nd isC = true ∧ va_nd isR = true ∧ ∀ i ∈ isR, i ∉ isC)
    (hn : As.length = n) (hsize : ls.size = nL) (hst : st0 = As.reverse ++ rest) (hW : (rest.map fun v => v.category).sum ≤ 8) (hdg : decode cc pc = .ok (.invokestatic index, 3)) (hf : cells + rm.cells ≤ R.cells ∧ slots + rm.slots ≤ R.slots)
    (hpx9 : ∀ (E : String) (W1 : va_W), px E W1 → ∃ rx pl1 : va_W, W1 = rx ++ pl1 ∧ pz E rx pl1)
    (kx : ∀ (E : String) (ce : Cell) (q9 : Addr) (rx pl1 : va_W) (H1 : Heap) (locs1 : List Loc), pz E rx pl1 → va_P D vwCl ((wr ++ rx) ++ pl1) H1 → va_D A0 ((wr ++ rx) ++ pl1) → va_S A0 s.heap H1 locs1 → H1[q9]? = some ce → ce.vm = .none → s.vm.findClass E = some ce.cls → vx_W p l e R s m args below meth c H1 locs1 (cells + rm.cells) (slots + rm.slots) Q (F0 m pc ls rest) q9)
    (hpo : ∀ (W1 : va_W), post W1 → ∃ rx pl1 : va_W, W1 = rx ++ pl1 ∧ po rx pl1)
    (kk : ∀ (rx pl1 : va_W) (H1 : Heap) (locs1 : List Loc), po rx pl1 → va_P D vwCl ((wr ++ rx) ++ pl1) H1 → va_D A0 ((wr ++ rx) ++ pl1) → va_S A0 s.heap H1 locs1 → W p l e R s m args below meth c H1 locs1 (cells + rm.cells) (slots + rm.slots) Q (F0 m (pc + 3) ls rest)) : W p l e R s m args below meth c H locs cells slots Q (F0 m pc ls st0) := by
  have hF := va_freeP hD hS hE.2.1 isC hC
  refine vx_callv (vx_runS (fixA hX) (hM H.size) cw ⟨cP_blind, fun U hU hW => ⟨rfl, cP_payP hE hP hD hS isC hC hnd.1 U hU hW⟩⟩ rfl hn hsize hst (lv_room hW) hdg hf) hS (fun q _ h => hF q h) hF (fun q _ h => hF q h) (fun E ce q9 u t H1 locs1 ht hvm hw hB hz1 hk1 hS1 hce hcv hcl => ?_) (fun u t H1 locs1 ht hvm hw hB hz1 hk1 hS1 => ?_)
  · obtain ⟨hpx, hP1, hK1, hD1⟩ := hB
    obtain ⟨rx, pl1, rfl, hz⟩ := hpx9 _ _ hpx
    rw [ht] at hP1
    obtain ⟨ha, hb⟩ := va_joinP hP hD isC isR hC hR hnd.2.1 hnd.2.2 hk1 hF hP1 hD1
    exact kx E ce q9 rx pl1 H1 locs1 hz ha hb hS1 hce hcv hcl
  · obtain ⟨hP1, hK1, hD1⟩ := hB
    obtain ⟨rx, pl1, rfl, hz⟩ := hpo _ hw
    rw [ht] at hP1
    obtain ⟨ha, hb⟩ := va_joinP hP hD isC isR hC hR hnd.2.1 hnd.2.2 hk1 hF hP1 hD1
    exact kk rx pl1 H1 locs1 hz ha hb hS1
end TailCalls
/-! ranges of ints, of arrays -/
def rg (lo hi : Int) (x : Int32) : Prop := lo ≤ x.toInt ∧ x.toInt ≤ hi
theorem rg_lit {lo hi : Int} {x : Int32} (h : decide (lo ≤ x.toInt ∧ x.toInt ≤ hi) = true) : rg lo hi x := (of_decide_eq_true h : lo ≤ x.toInt ∧ x.toInt ≤ hi)
theorem rg_any (x : Int32) : rg (-2147483648) 2147483647 x := ⟨(rng32 x).1, by have h := (rng32 x).2; omega⟩
theorem rg_w {lo hi lo' hi' : Int} {x : Int32} (h : rg lo hi x) (h1 : lo' ≤ lo) (h2 : hi ≤ hi') : rg lo' hi' x := ⟨Int.le_trans h1 h.1, Int.le_trans h.2 h2⟩
theorem rg_add {a b c d e f : Int} {x y : Int32} (hx : rg a b x) (hy : rg c d y) (h1 : e ≤ a + c) (h2 : b + d ≤ f) (h3 : -2147483648 ≤ e) (h4 : f ≤ 2147483647) : rg e f (x + y) := by
  unfold rg at *
  rw [add32 x y (by omega) (by omega)]
  omega
theorem rg_sub {a b c d e f : Int} {x y : Int32} (hx : rg a b x) (hy : rg c d y) (h1 : e ≤ a - d) (h2 : b - c ≤ f) (h3 : -2147483648 ≤ e) (h4 : f ≤ 2147483647) : rg e f (x - y) := by
  unfold rg at *
  rw [sub32 x y (by omega) (by omega)]
  omega
theorem mul32 (x y : Int32) (h1 : -2147483648 ≤ x.toInt * y.toInt) (h2 : x.toInt * y.toInt < 2147483648) : (x * y).toInt = x.toInt * y.toInt := by
  rw [Int32.toInt_mul]
  have e : (2 : Int) ^ 32 = 4294967296 := by decide
  first | (rw [Int.bmod_eq_of_le (by omega) (by omega)]) | (unfold Int.bmod; omega)
/-- a number by a constant above 0 -/
theorem rg_mulc {k a b e f : Int} {x y : Int32} (hx : x.toInt = k) (hy : rg a b y) (h0 : 0 ≤ k) (h1 : e ≤ k * a) (h2 : k * b ≤ f) (h3 : -2147483648 ≤ e) (h4 : f ≤ 2147483647) : rg e f (x * y) := by
  unfold rg at *
  have ha : k * a ≤ k * y.toInt := Int.mul_le_mul_of_nonneg_left hy.1 h0
  have hb : k * y.toInt ≤ k * b := Int.mul_le_mul_of_nonneg_left hy.2 h0
  rw [mul32 x y (by rw [hx]; omega) (by rw [hx]; omega), hx]
  omega
theorem rg_rem {d b : Int} {x y : Int32} (hx : rg 0 b x) (hy : y.toInt = d) (hd : 0 < d) : rg 0 (d - 1) (x - x / y * y) := by
  unfold rg at *
  have hr := rng32 x
  have hny : y ≠ -1 := fun h => by
    rw [h, show (-1 : Int32).toInt = -1 from by decide] at hy
    omega
  have e1 : (x / y).toInt = x.toInt / d := by rw [Int32.toInt_div_of_ne_right _ _ hny, hy, Int.tdiv_eq_ediv_of_nonneg hx.1]
  have h0 : 0 ≤ x.toInt / d := Int.ediv_nonneg hx.1 (by omega)
  have h1 : x.toInt / d * d + x.toInt % d = x.toInt := by rw [Int.mul_comm]; exact Int.mul_ediv_add_emod x.toInt d
  have h2 : 0 ≤ x.toInt % d := Int.emod_nonneg _ (by omega)
  have h3 : x.toInt % d < d := Int.emod_lt_of_pos _ hd
  have h4 : 0 ≤ x.toInt / d * d := Int.mul_nonneg h0 (by omega)
  have e2 : (x / y * y).toInt = x.toInt / d * d := by rw [mul32 _ _ (by rw [e1, hy]; omega) (by rw [e1, hy]; omega), e1, hy]
  rw [sub32 _ _ (by rw [e2]; omega) (by rw [e2]; omega), e2]
  omega
theorem rg_in {lo hi : Int} {x : Int32} {n : Nat} (h : rg lo hi x) (h1 : 0 ≤ lo) (h2 : hi < n) : vp_in x n := vp_in_iff.mpr ⟨Int.le_trans h1 h.1, Int.lt_of_le_of_lt h.2 h2⟩
theorem rg_lt1 {a b c d e : Int} {x y : Int32} (h : x < y) (hx : rg a b x) (hy : rg c d y) (h1 : d - 1 ≤ e) : rg a e x := by
  rw [fa_lt] at h
  unfold rg at *
  omega
theorem rg_lt2 {a b c d e : Int} {x y : Int32} (h : x < y) (hx : rg a b x) (hy : rg c d y) (h1 : e ≤ a + 1) : rg e d y := by
  rw [fa_lt] at h
  unfold rg at *
  omega
theorem rg_le1 {a b c d e : Int} {x y : Int32} (h : x ≤ y) (hx : rg a b x) (hy : rg c d y) (h1 : d ≤ e) : rg a e x := by
  rw [fa_le] at h
  unfold rg at *
  omega
theorem rg_le2 {a b c d e : Int} {x y : Int32} (h : x ≤ y) (hx : rg a b x) (hy : rg c d y) (h1 : e ≤ a) : rg e d y := by
  rw [fa_le] at h
  unfold rg at *
  omega
theorem rg_nlt {x y : Int32} (h : ¬ x < y) : y ≤ x := by
  rw [fa_lt] at h
  rw [fa_le]
  omega
theorem rg_nle {x y : Int32} (h : ¬ x ≤ y) : y < x := by
  rw [fa_le] at h
  rw [fa_lt]
  omega
theorem rg_ne1 {a b e : Int} {x y : Int32} (h : ¬ x = y) (hx : rg a b x) (hy : y.toInt = a) (h1 : e ≤ a + 1) : rg e b x := by
  rw [fa_eq, hy] at h
  unfold rg at *
  omega
theorem rg_ne2 {a b e : Int} {x y : Int32} (h : ¬ x = y) (hx : rg a b x) (hy : y.toInt = b) (h1 : b - 1 ≤ e) : rg a e x := by
  rw [fa_eq, hy] at h
  unfold rg at *
  omega
theorem rg_eq {a b : Int} {x y : Int32} (h : x = y) (hy : rg a b y) : rg a b x := by rw [h]; exact hy
theorem rg_no {a b : Int} {x : Int32} {P : Prop} (h : rg a b x) (h1 : b < a) : P := by
  unfold rg at h
  exact absurd h1 (by omega)
def ag (lo hi : Int) (n : Nat) (f : Nat → Int32) : Prop := ∀ j : Nat, j < n → rg lo hi (f j)
theorem ag_at {lo hi : Int} {n : Nat} {f : Nat → Int32} {x : Int32} (h : ag lo hi n f) (hx : vp_in x n) : rg lo hi (f x.toNatClampNeg) := h _ (Nat.not_le.mp fun q => hx (Or.inr q))
theorem ag_upd {lo hi : Int} {n : Nat} {f : Nat → Int32} {v : Int32} {i : Nat} (h : ag lo hi n f) (hv : rg lo hi v) : ag lo hi n (upd f i v) := fun j hj => by
  by_cases e : j = i
  · subst e; rw [pk_us]; exact hv
  · rw [pk_un e]; exact h j hj
theorem ag_cpy {lo hi : Int} {n sp dp k : Nat} {f g : Nat → Int32} (hf : ag lo hi n f) (hg : ag lo hi n g) (h1 : sp + k ≤ n) : ag lo hi n (va_cpy f g sp dp k) := fun j hj => by
  unfold va_cpy
  by_cases e : dp ≤ j ∧ j < dp + k
  · rw [if_pos e]; exact hf _ (by omega)
  · rw [if_neg e]; exact hg j hj
theorem ag_0 {n : Nat} {lo hi : Int} {c : Int32} (h : rg lo hi c) : ag lo hi n (fun _ => c) := fun _ _ => h
/-! a point that several ways reach -/
section Joins
variable {p : Program} {l : Launch} {e : Env} {R : Room} {s : State} {m : MethodId} {args : Array Value} {below : List Frame} {meth : Method} {c : Code} {cells slots : Nat} {Q : State → Prop} {pc : Nat} {D : va_G} {A : Nat → Prop}
theorem joinT {τ : Type} {mL : Nat} {WS : τ → va_W} {LV : τ → List (Nat × Value)} {ST : τ → List Value} {H0 : Heap} {locs0 : List Loc} {cells0 slots0 : Nat} {g0 : JFrame} (Inv : τ → Prop)
    (h : ∀ (t : τ) (H : Heap) (locs : List Loc) (ls : Array Slot), Inv t → va_P D vwCl (WS t) H → va_D A (WS t) → va_S A s.heap H locs → lv_has ls mL (LV t) → W p l e R s m args below meth c H locs cells slots Q (F0 m pc ls (ST t)))
    (k : (∀ (t : τ) (H : Heap) (locs : List Loc) (ls : Array Slot), Inv t → va_P D vwCl (WS t) H → va_D A (WS t) → va_S A s.heap H locs → lv_has ls mL (LV t) → W p l e R s m args below meth c H locs cells slots Q (F0 m pc ls (ST t))) → W p l e R s m args below meth c H0 locs0 cells0 slots0 Q g0) : W p l e R s m args below meth c H0 locs0 cells0 slots0 Q g0 := k h
end Joins
theorem nz_of {v : Int32} (h : rg 0 1 v) : narrow .boolean (.int v) = .int v := by
  have h2 : v = 0 ∨ v = 1 := by
    unfold rg at h
    rw [fa_eq, fa_eq, show (0 : Int32).toInt = 0 from by decide, show (1 : Int32).toInt = 1 from by decide]
    omega
  rcases h2 with rfl | rfl <;> decide
