/-! contracts that ask, beside the world, for what lies outside of it and stays (texts, their bytes) -/
def Pst (G : (Nat → Prop) → State → Heap → Prop) : Prop := (∀ (A : Nat → Prop) (u U : State) (H : Heap), u.vm.Alike U.vm → G A u H → G A U H) ∧ (∀ (A : Nat → Prop) (U : State) (H H1 : Heap), G A U H → (∀ a : Nat, a < H.size → ¬ A a → H1[a]? = H[a]?) → G A U H1) ∧ ∀ (A B : Nat → Prop) (U : State) (H : Heap), G A U H → (∀ q, B q → A q) → G B U H
theorem Pst_ts (N : Nat) (F : Nat → Int32) (a : Nat) : Pst (xTs N F a) := ⟨fun _ _ _ _ hv h => xTs.moved hv h, fun _ _ _ _ h hq => h.kept hq, fun _ _ _ _ h hq => h.narrow hq⟩
theorem Pst_by (v N : Nat) (f : Nat → Int32) : Pst (va_T .byte v N (fun j => .int (f j))) := ⟨fun _ _ _ _ hv h => va_T.moved hv h, fun _ _ _ _ h hq => h.kept hq, fun _ _ _ _ h hq => h.narrow hq⟩
def gP (D : va_G) (cy : Nat → ClassId) (WS : va_W) (G : (Nat → Prop) → State → Heap → Prop) (sz : Nat) (U : State) : Prop := cP D cy WS sz U ∧ G (va_A WS sz) U U.heap
theorem gP_blind {D : va_G} {cy : Nat → ClassId} {WS : va_W} {G : (Nat → Prop) → State → Heap → Prop} (hst : Pst G) {sz : Nat} {av : List Value} : FrameBlind (va_Pc av (gP D cy WS G sz)) := fun a U g mk q => by
  obtain ⟨h0, h1, h2⟩ := q
  obtain ⟨h3, h4⟩ := cP_blind (av := av) a U g mk ⟨h0, h1⟩
  exact ⟨h3, h4, hst.1 _ U (U.calling g mk a) _ (Vm.Alike.refl U.vm) h2⟩
def Gi (l : Launch) (y : MethodName) (b : ByteArray) (mL : Nat) (rt : Option FieldType) (rm : Room) (D : va_G) (cy : Nat → ClassId) (av : List Value) (WS : va_W) (G : (Nat → Prop) → State → Heap → Prop) (post : Int32 → va_W → Prop) : Prop := ∀ sz : Nat, Met l y (Cond.code y b mL rt :: wA) rm (va_Pc av (gP D cy WS G sz)) (va_Qi post (cB D cy (va_A WS sz)) (va_A WS sz)) rm.cells rm.slots (va_A WS sz)
def Gv (l : Launch) (y : MethodName) (b : ByteArray) (mL : Nat) (rt : Option FieldType) (rm : Room) (D : va_G) (cy : Nat → ClassId) (av : List Value) (WS : va_W) (G : (Nat → Prop) → State → Heap → Prop) (post : va_W → Prop) : Prop := ∀ sz : Nat, Met l y (Cond.code y b mL rt :: wA) rm (va_Pc av (gP D cy WS G sz)) (va_Qv post (cB D cy (va_A WS sz)) (va_A WS sz)) rm.cells rm.slots (va_A WS sz)
section StartsG
variable {l : Launch} {y : MethodName} {b : ByteArray} {mL : Nat} {rt : Option FieldType} {rm : Room} {D : va_G} {cy : Nat → ClassId} {av : List Value} {WS : va_W} {G : (Nat → Prop) → State → Heap → Prop}
theorem Gi.of {post : Int32 → va_W → Prop} (hy : plainName y.cls = true) (hlen : (lg_sl av).length ≤ mL)
    (body : ∀ (p : Program) (e : Env) (s : State) (m : MethodId) (below : List Frame) (meth : Method) (c : Code) (A : Nat → Prop) (ls : Array Slot), Ex p s m av.toArray meth c b rt mL y.cls → Ew D cy A s → va_P D vwCl WS s.heap → va_D A WS → lv_has ls mL (lv_args 0 av) → G A s s.heap →
      W p l e rm s m av.toArray below meth c s.heap [] 0 0 (MQ below (va_Qi post (cB D cy A) A) av.toArray s rm.cells rm.slots A) (F0 m 0 ls [])) : Gi l y b mL rt rm D cy av WS G post := by
  intro sz
  refine Met.ofW (cc := b) (maxL := mL) (ret := rt) hy rfl ?_
  intro p e s m args below meth c s₁ B hml hv
  obtain ⟨rfl, ⟨hsz, hP, hK, hD, hG, hX⟩, hg⟩ := hv
  rw [lg_entry_eq]
  exact body p e s m below meth c (va_A WS sz) _ (st_ex rfl B hml) ⟨hK, fun q h => Or.inr (by rw [← hsz]; exact h), hG, hX⟩ hP hD.self (lv_entry av hlen) hg
theorem Gi.ofF {post : Int32 → va_W → Prop} (hy : plainFor y = true) (hlen : (lg_sl av).length ≤ mL)
    (body : ∀ (p : Program) (e : Env) (s : State) (m : MethodId) (below : List Frame) (meth : Method) (c : Code) (A : Nat → Prop) (ls : Array Slot), Ex p s m av.toArray meth c b rt mL y.cls → Ew D cy A s → va_P D vwCl WS s.heap → va_D A WS → lv_has ls mL (lv_args 0 av) → G A s s.heap →
      W p l e rm s m av.toArray below meth c s.heap [] 0 0 (MQ below (va_Qi post (cB D cy A) A) av.toArray s rm.cells rm.slots A) (F0 m 0 ls [])) : Gi l y b mL rt rm D cy av WS G post := by
  intro sz
  refine Met_ofWF (cc := b) (maxL := mL) (ret := rt) hy rfl ?_
  intro p e s m args below meth c s₁ B hml hv
  obtain ⟨rfl, ⟨hsz, hP, hK, hD, hG, hX⟩, hg⟩ := hv
  rw [lg_entry_eq]
  exact body p e s m below meth c (va_A WS sz) _ (st_ex rfl B hml) ⟨hK, fun q h => Or.inr (by rw [← hsz]; exact h), hG, hX⟩ hP hD.self (lv_entry av hlen) hg
theorem Gv.of {post : va_W → Prop} (hy : plainName y.cls = true) (hlen : (lg_sl av).length ≤ mL)
    (body : ∀ (p : Program) (e : Env) (s : State) (m : MethodId) (below : List Frame) (meth : Method) (c : Code) (A : Nat → Prop) (ls : Array Slot), Ex p s m av.toArray meth c b rt mL y.cls → Ew D cy A s → va_P D vwCl WS s.heap → va_D A WS → lv_has ls mL (lv_args 0 av) → G A s s.heap →
      W p l e rm s m av.toArray below meth c s.heap [] 0 0 (MQ below (va_Qv post (cB D cy A) A) av.toArray s rm.cells rm.slots A) (F0 m 0 ls [])) : Gv l y b mL rt rm D cy av WS G post := by
  intro sz
  refine Met.ofW (cc := b) (maxL := mL) (ret := rt) hy rfl ?_
  intro p e s m args below meth c s₁ B hml hv
  obtain ⟨rfl, ⟨hsz, hP, hK, hD, hG, hX⟩, hg⟩ := hv
  rw [lg_entry_eq]
  exact body p e s m below meth c (va_A WS sz) _ (st_ex rfl B hml) ⟨hK, fun q h => Or.inr (by rw [← hsz]; exact h), hG, hX⟩ hP hD.self (lv_entry av hlen) hg
theorem Gv.ofF {post : va_W → Prop} (hy : plainFor y = true) (hlen : (lg_sl av).length ≤ mL)
    (body : ∀ (p : Program) (e : Env) (s : State) (m : MethodId) (below : List Frame) (meth : Method) (c : Code) (A : Nat → Prop) (ls : Array Slot), Ex p s m av.toArray meth c b rt mL y.cls → Ew D cy A s → va_P D vwCl WS s.heap → va_D A WS → lv_has ls mL (lv_args 0 av) → G A s s.heap →
      W p l e rm s m av.toArray below meth c s.heap [] 0 0 (MQ below (va_Qv post (cB D cy A) A) av.toArray s rm.cells rm.slots A) (F0 m 0 ls [])) : Gv l y b mL rt rm D cy av WS G post := by
  intro sz
  refine Met_ofWF (cc := b) (maxL := mL) (ret := rt) hy rfl ?_
  intro p e s m args below meth c s₁ B hml hv
  obtain ⟨rfl, ⟨hsz, hP, hK, hD, hG, hX⟩, hg⟩ := hv
  rw [lg_entry_eq]
  exact body p e s m below meth c (va_A WS sz) _ (st_ex rfl B hml) ⟨hK, fun q h => Or.inr (by rw [← hsz]; exact h), hG, hX⟩ hP hD.self (lv_entry av hlen) hg
end StartsG
section CallsG
variable {p : Program} {l : Launch} {e : Env} {R : Room} {s : State} {m : MethodId} {args : Array Value} {below : List Frame} {meth : Method} {c : Code} {H : Heap} {locs : List Loc} {cells slots : Nat} {Q : State → Prop} {cc bytes : ByteArray} {rt rt0 : Option FieldType} {nL pc n index maxL : Nat} {own C host : String} {ls : Array Slot} {D : va_G} {cy : Nat → ClassId} {A0 : Nat → Prop} {W0 wr WS : va_W} {rm : Room} {y : MethodName} {b : Nat} {As rest st0 : List Value} {px : String → va_W → Prop} {G : (Nat → Prop) → State → Heap → Prop}
theorem gP_pay (hst : Pst G) (hg : G A0 s s.heap) (hE : Ew D cy A0 s) (hP : va_P D vwCl W0 H) (hD : va_D A0 W0) (hS : va_S A0 s.heap H locs) (isC : List Nat) (hC : isC.map (fun i => W0[i]?) = WS.map some) (hn : va_nd isC = true) (U : State) (hU : U.heap = H) (hW : s.WarmedH U.vm) : gP D cy WS G H.size U :=
  ⟨cP_pay hE hP hD hS isC hC hn U hU hW, by rw [hU]; exact hst.2.2 _ _ _ _ (hst.1 _ _ _ _ hW.alike (hst.2.1 _ _ _ _ hg hS.2.1)) (va_free hD hS hE.2.1 isC hC)⟩
theorem gkVi {post : Int32 → va_W → Prop} (hX : Ex p s m args meth c cc rt0 nL own) (hE : Ew D cy A0 s) (hM : Gi l y bytes maxL rt rm D cy (.ref b :: As) WS G post) (hgs : Pst G) (hg : G A0 s s.heap) (cw : CallW R s args own C index y bytes maxL rt (Cond.code y bytes maxL rt :: wA) rm rm.cells rm.slots n)
    (hP : va_P D vwCl W0 H) (hD : va_D A0 W0) (hS : va_S A0 s.heap H locs) (isC isR : List Nat) (hC : isC.map (fun i => W0[i]?) = WS.map some) (hR : isR.map (fun i => W0[i]?) = wr.map some) (hnd : va_nd isC = true ∧ va_nd isR = true ∧ ∀ i ∈ isR, i ∉ isC)
    (q0 : Nat) {ci : Nat} {fs : List Value} {r : vw_C} (hq : WS[q0]? = some (b, .inr (ci, fs))) (hc : vwCl[ci]? = some r) (hrC : r.1 = C) (hn : As.length = n) (hsize : ls.size = nL) (hst : st0 = As.reverse ++ .ref b :: rest) (hW : (rest.map fun v => v.category).sum ≤ 8) (hdg : decode cc pc = .ok (.invokevirtual index, 3)) (hf : cells + rm.cells ≤ R.cells ∧ slots + rm.slots ≤ R.slots)
    (kk : ∀ (r : Int32) (W1 : va_W) (H1 : Heap) (locs1 : List Loc), post r W1 → va_P D vwCl (wr ++ W1) H1 → va_D A0 (wr ++ W1) → va_S A0 s.heap H1 locs1 → W p l e R s m args below meth c H1 locs1 (cells + rm.cells) (slots + rm.slots) Q (F0 m (pc + 3) ls (.int r :: rest))) : W p l e R s m args below meth c H locs cells slots Q (F0 m pc ls st0) := by
  subst hrC
  have hF := va_free hD hS hE.2.1 isC hC
  refine va_calli (va_runV (fixA hX) (hM H.size) cw ⟨gP_blind hgs, recvA hE hP isC hC hq hc, fun U hU hW => ⟨rfl, gP_pay hgs hg hE hP hD hS isC hC hnd.1 U hU hW⟩⟩ rfl hn hsize hst (lv_room hW) hdg hf) hS (fun q _ h => hF q h) hF (fun r u t H1 locs1 ht hvm hw hB hz1 hk1 hS1 => ?_)
  obtain ⟨hP1, hK1, hD1⟩ := hB
  rw [ht] at hP1
  obtain ⟨ha, hb⟩ := va_join hP hD isC isR hC hR hnd.2.1 hnd.2.2 hk1 hF hP1 hD1
  exact kk r u H1 locs1 hw ha hb hS1
theorem gkRi {post : Int32 → va_W → Prop} (hX : Ex p s m args meth c cc rt0 nL own) (hE : Ew D cy A0 s) (hM : Gi l y bytes maxL rt rm D cy (.ref b :: As) WS G post) (hgs : Pst G) (hg : G A0 s s.heap) (cw : CallW R s args own C index y bytes maxL rt (Cond.code y bytes maxL rt :: wA) rm rm.cells rm.slots n)
    (hP : va_P D vwCl W0 H) (hD : va_D A0 W0) (hS : va_S A0 s.heap H locs) (isC isR : List Nat) (hC : isC.map (fun i => W0[i]?) = WS.map some) (hR : isR.map (fun i => W0[i]?) = wr.map some) (hnd : va_nd isC = true ∧ va_nd isR = true ∧ ∀ i ∈ isR, i ∉ isC)
    (hO : va_O C b A0 s s.heap) (hn : As.length = n) (hsize : ls.size = nL) (hst : st0 = As.reverse ++ .ref b :: rest) (hW : (rest.map fun v => v.category).sum ≤ 8) (hdg : decode cc pc = .ok (.invokevirtual index, 3)) (hf : cells + rm.cells ≤ R.cells ∧ slots + rm.slots ≤ R.slots)
    (kk : ∀ (r : Int32) (W1 : va_W) (H1 : Heap) (locs1 : List Loc), post r W1 → va_P D vwCl (wr ++ W1) H1 → va_D A0 (wr ++ W1) → va_S A0 s.heap H1 locs1 → W p l e R s m args below meth c H1 locs1 (cells + rm.cells) (slots + rm.slots) Q (F0 m (pc + 3) ls (.int r :: rest))) : W p l e R s m args below meth c H locs cells slots Q (F0 m pc ls st0) := by
  have hF := va_free hD hS hE.2.1 isC hC
  refine va_calli (va_runV (fixA hX) (hM H.size) cw ⟨gP_blind hgs, (by obtain ⟨cell, h1, h2, h3, -⟩ := hO.kept hS.2.1; exact ⟨cell, h1, h2, h3⟩), fun U hU hW => ⟨rfl, gP_pay hgs hg hE hP hD hS isC hC hnd.1 U hU hW⟩⟩ rfl hn hsize hst (lv_room hW) hdg hf) hS (fun q _ h => hF q h) hF (fun r u t H1 locs1 ht hvm hw hB hz1 hk1 hS1 => ?_)
  obtain ⟨hP1, hK1, hD1⟩ := hB
  rw [ht] at hP1
  obtain ⟨ha, hb⟩ := va_join hP hD isC isR hC hR hnd.2.1 hnd.2.2 hk1 hF hP1 hD1
  exact kk r u H1 locs1 hw ha hb hS1
theorem gkVv {post : va_W → Prop} (hX : Ex p s m args meth c cc rt0 nL own) (hE : Ew D cy A0 s) (hM : Gv l y bytes maxL rt rm D cy (.ref b :: As) WS G post) (hgs : Pst G) (hg : G A0 s s.heap) (cw : CallW R s args own C index y bytes maxL rt (Cond.code y bytes maxL rt :: wA) rm rm.cells rm.slots n)
    (hP : va_P D vwCl W0 H) (hD : va_D A0 W0) (hS : va_S A0 s.heap H locs) (isC isR : List Nat) (hC : isC.map (fun i => W0[i]?) = WS.map some) (hR : isR.map (fun i => W0[i]?) = wr.map some) (hnd : va_nd isC = true ∧ va_nd isR = true ∧ ∀ i ∈ isR, i ∉ isC)
    (q0 : Nat) {ci : Nat} {fs : List Value} {r : vw_C} (hq : WS[q0]? = some (b, .inr (ci, fs))) (hc : vwCl[ci]? = some r) (hrC : r.1 = C) (hn : As.length = n) (hsize : ls.size = nL) (hst : st0 = As.reverse ++ .ref b :: rest) (hW : (rest.map fun v => v.category).sum ≤ 8) (hdg : decode cc pc = .ok (.invokevirtual index, 3)) (hf : cells + rm.cells ≤ R.cells ∧ slots + rm.slots ≤ R.slots)
    (kk : ∀ (W1 : va_W) (H1 : Heap) (locs1 : List Loc), post W1 → va_P D vwCl (wr ++ W1) H1 → va_D A0 (wr ++ W1) → va_S A0 s.heap H1 locs1 → W p l e R s m args below meth c H1 locs1 (cells + rm.cells) (slots + rm.slots) Q (F0 m (pc + 3) ls rest)) : W p l e R s m args below meth c H locs cells slots Q (F0 m pc ls st0) := by
  subst hrC
  have hF := va_free hD hS hE.2.1 isC hC
  refine va_callv (va_runV (fixA hX) (hM H.size) cw ⟨gP_blind hgs, recvA hE hP isC hC hq hc, fun U hU hW => ⟨rfl, gP_pay hgs hg hE hP hD hS isC hC hnd.1 U hU hW⟩⟩ rfl hn hsize hst (lv_room hW) hdg hf) hS (fun q _ h => hF q h) hF (fun u t H1 locs1 ht hvm hw hB hz1 hk1 hS1 => ?_)
  obtain ⟨hP1, hK1, hD1⟩ := hB
  rw [ht] at hP1
  obtain ⟨ha, hb⟩ := va_join hP hD isC isR hC hR hnd.2.1 hnd.2.2 hk1 hF hP1 hD1
  exact kk u H1 locs1 hw ha hb hS1
theorem gkSi {post : Int32 → va_W → Prop} (hX : Ex p s m args meth c cc rt0 nL own) (hE : Ew D cy A0 s) (hM : Gi l y bytes maxL rt rm D cy As WS G post) (hgs : Pst G) (hg : G A0 s s.heap) (cw : CallB R s args own index y bytes maxL rt (Cond.code y bytes maxL rt :: wA) rm rm.cells rm.slots n ∧ (Cond.static y).before args s = true)
    (hP : va_P D vwCl W0 H) (hD : va_D A0 W0) (hS : va_S A0 s.heap H locs) (isC isR : List Nat) (hC : isC.map (fun i => W0[i]?) = WS.map some) (hR : isR.map (fun i => W0[i]?) = wr.map some) (hnd : va_nd isC = true ∧ va_nd isR = true ∧ ∀ i ∈ isR, i ∉ isC)
    (hn : As.length = n) (hsize : ls.size = nL) (hst : st0 = As.reverse ++ rest) (hW : (rest.map fun v => v.category).sum ≤ 8) (hdg : decode cc pc = .ok (.invokestatic index, 3)) (hf : cells + rm.cells ≤ R.cells ∧ slots + rm.slots ≤ R.slots)
    (kk : ∀ (r : Int32) (W1 : va_W) (H1 : Heap) (locs1 : List Loc), post r W1 → va_P D vwCl (wr ++ W1) H1 → va_D A0 (wr ++ W1) → va_S A0 s.heap H1 locs1 → W p l e R s m args below meth c H1 locs1 (cells + rm.cells) (slots + rm.slots) Q (F0 m (pc + 3) ls (.int r :: rest))) : W p l e R s m args below meth c H locs cells slots Q (F0 m pc ls st0) := by
  have hF := va_free hD hS hE.2.1 isC hC
  refine va_calli (va_runS (fixA hX) (hM H.size) cw ⟨gP_blind hgs, fun U hU hW => ⟨rfl, gP_pay hgs hg hE hP hD hS isC hC hnd.1 U hU hW⟩⟩ rfl hn hsize hst (lv_room hW) hdg hf) hS (fun q _ h => hF q h) hF (fun r u t H1 locs1 ht hvm hw hB hz1 hk1 hS1 => ?_)
  obtain ⟨hP1, hK1, hD1⟩ := hB
  rw [ht] at hP1
  obtain ⟨ha, hb⟩ := va_join hP hD isC isR hC hR hnd.2.1 hnd.2.2 hk1 hF hP1 hD1
  exact kk r u H1 locs1 hw ha hb hS1
end CallsG
theorem Cv.ofF {l : Launch} {y : MethodName} {b : ByteArray} {mL : Nat} {rt : Option FieldType} {rm : Room} {D : va_G} {cy : Nat → ClassId} {av : List Value} {WS : va_W} {post : va_W → Prop} (hy : plainFor y = true) (hlen : (lg_sl av).length ≤ mL)
    (body : ∀ (p : Program) (e : Env) (s : State) (m : MethodId) (below : List Frame) (meth : Method) (c : Code) (A : Nat → Prop) (ls : Array Slot), Ex p s m av.toArray meth c b rt mL y.cls → Ew D cy A s → va_P D vwCl WS s.heap → va_D A WS → lv_has ls mL (lv_args 0 av) →
      W p l e rm s m av.toArray below meth c s.heap [] 0 0 (MQ below (va_Qv post (cB D cy A) A) av.toArray s rm.cells rm.slots A) (F0 m 0 ls [])) : Cv l y b mL rt rm D cy av WS post := by
  intro sz
  refine Met_ofWF (cc := b) (maxL := mL) (ret := rt) hy rfl ?_
  intro p e s m args below meth c s₁ B hml hv
  obtain ⟨rfl, hsz, hP, hK, hD, hG, hX⟩ := hv
  rw [lg_entry_eq]
  exact body p e s m below meth c (va_A WS sz) _ (st_ex rfl B hml) ⟨hK, fun q h => Or.inr (by rw [← hsz]; exact h), hG, hX⟩ hP hD.self (lv_entry av hlen)
theorem rB {p : Program} {l : Launch} {e : Env} {R : Room} {s : State} {m : MethodId} {args : Array Value} {below : List Frame} {meth : Method} {c : Code} {H : Heap} {locs : List Loc} {cells slots kc ks : Nat} {cc : ByteArray} {nL pc : Nat} {own : String} {ls : Array Slot} {D : va_G} {cy : Nat → ClassId} {A : Nat → Prop} {W1 : va_W} {ty : FieldType} {post : Int32 → va_W → Prop} {v : Int32} (hX : Ex p s m args meth c cc (some ty) nL own) (hn : narrow ty (.int v) = .int v) (hE : Ew D cy A s) (hP : va_P D vwCl W1 H) (hD : va_D A W1) (hS : va_S A s.heap H locs) (hdg : decode cc pc = .ok (.ireturn, 1)) (hc : cells ≤ kc) (hs : slots ≤ ks) (hp : post v W1) :
    W p l e R s m args below meth c H locs cells slots (MQ below (va_Qi post (cB D cy A) A) args s kc ks A) (F0 m pc ls [.int v]) :=
  W.widen hc hs (W.zret hX.1 hX.2.1 hX.2.2.1 hn (fun t ht hW => ⟨⟨v, W1, rfl, hp, by rw [ht]; exact hP, va_K.moved hW.alike hE.1, hD⟩, hS.F ht⟩) hS.2.2 hdg hX.2.2.2.2.2.2)
