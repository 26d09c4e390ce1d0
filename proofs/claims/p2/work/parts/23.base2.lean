theorem fa_lt (a b : Int32) : a < b ↔ a.toInt < b.toInt := Int32.lt_iff_toInt_lt
theorem fa_le (a b : Int32) : a ≤ b ↔ a.toInt ≤ b.toInt := Int32.le_iff_toInt_le
theorem fa_eq (a b : Int32) : a = b ↔ a.toInt = b.toInt := Int32.toInt_inj.symm
theorem fa_lt64 (a b : Int64) : a < b ↔ a.toInt < b.toInt := Int64.lt_iff_toInt_lt
theorem fa_le64 (a b : Int64) : a ≤ b ↔ a.toInt ≤ b.toInt := Int64.le_iff_toInt_le
theorem fa_eq64 (a b : Int64) : a = b ↔ a.toInt = b.toInt := Int64.toInt_inj.symm
theorem fa_upd_same {f : Nat → Int32} {i : Nat} {x : Int32} (h : f i = x) : upd f i x = f := by
  funext k
  by_cases e : k = i
  · subst e
    rw [pk_us, h]
  · rw [pk_un e]
theorem fa_upd_sameL {f : Nat → Int64} {i : Nat} {x : Int64} (h : f i = x) : vp_updL f i x = f := by
  funext k
  by_cases e : k = i
  · subst e
    rw [pk_uLs, h]
  · rw [pk_uLn e]
theorem va_cpy_same {α : Type} (c : α) (sp dp n : Nat) : va_cpy (fun _ => c) (fun _ => c) sp dp n = fun _ => c := by
  funext k
  unfold va_cpy
  split <;> rfl
/-! methods that answer a reference, or throw -/
def Xr (l : Launch) (y : MethodName) (b : ByteArray) (mL : Nat) (rt : Option FieldType) (rm : Room) (D : va_G) (cy : Nat → ClassId) (av : List Value) (WS : va_W) (post : Nat → va_W → Prop) (px : String → va_W → Prop) : Prop := ∀ sz : Nat, vx_Met l y (Cond.code y b mL rt :: wA) rm (va_Pc av (cP D cy WS sz)) (va_Qr (fun _ : va_W => True) (fun W1 ra t => post ra W1 ∧ cB D cy (va_A WS sz) W1 t) (va_A WS sz)) (xB D cy (va_A WS sz) px) rm.cells rm.slots (va_A WS sz)
theorem Xr.of {l : Launch} {y : MethodName} {b : ByteArray} {mL : Nat} {rt : Option FieldType} {rm : Room} {D : va_G} {cy : Nat → ClassId} {av : List Value} {WS : va_W} {px : String → va_W → Prop} {post : Nat → va_W → Prop} (hy : plainName y.cls = true) (hlen : (lg_sl av).length ≤ mL)
    (body : ∀ (p : Program) (e : Env) (s : State) (m : MethodId) (below : List Frame) (meth : Method) (c : Code) (A : Nat → Prop) (ls : Array Slot), Ex p s m av.toArray meth c b rt mL y.cls → Ew D cy A s → va_P D vwCl WS s.heap → va_D A WS → lv_has ls mL (lv_args 0 av) → (∀ x ∈ c.exceptionTable.toList, False) →
      W p l e rm s m av.toArray below meth c s.heap [] 0 0 (vx_MQ below (va_Qr (fun _ : va_W => True) (fun W1 ra t => post ra W1 ∧ cB D cy A W1 t) A) (xB D cy A px) av.toArray s rm.cells rm.slots A) (F0 m 0 ls [])) : Xr l y b mL rt rm D cy av WS post px := by
  intro sz
  refine vx_ofW (cc := b) (maxL := mL) (ret := rt) hy rfl ?_
  intro p e s m args below meth c s₁ B hml hxt hv
  obtain ⟨rfl, hsz, hP, hK, hD, hG, hX⟩ := hv
  rw [lg_entry_eq]
  exact body p e s m below meth c (va_A WS sz) _ (st_ex rfl B hml) ⟨hK, fun q h => Or.inr (by rw [← hsz]; exact h), hG, hX⟩ hP hD.self (lv_entry av hlen) hxt
section RefC
variable {p : Program} {l : Launch} {e : Env} {R : Room} {s : State} {m : MethodId} {args : Array Value} {below : List Frame} {meth : Method} {c : Code} {H : Heap} {locs : List Loc} {cells slots : Nat} {Q : State → Prop} {cc bytes : ByteArray} {rt rt0 : Option FieldType} {nL pc n index maxL : Nat} {own C : String} {ls : Array Slot} {D : va_G} {cy : Nat → ClassId} {A A0 : Nat → Prop} {W0 W1 wr WS : va_W} {rm : Room} {y : MethodName} {b kc ks : Nat} {As rest st0 : List Value} {px : String → va_W → Prop} {post : Nat → va_W → Prop}
theorem rR {v : Nat} {rt9 : String} (hX : Ex p s m args meth c cc (some (.object rt9)) nL own) (hE : Ew D cy A s) (hP : va_P D vwCl W1 H) (hD : va_D A W1) (hS : va_S A s.heap H locs) (hdg : decode cc pc = .ok (.areturn, 1)) (hc : cells ≤ kc) (hs : slots ≤ ks) (hp : post v W1) :
    W p l e R s m args below meth c H locs cells slots (MQ below (va_Qr (fun _ : va_W => True) (fun W1 ra t => post ra W1 ∧ cB D cy A W1 t) A) args s kc ks A) (F0 m pc ls [.ref v]) :=
  W.widen hc hs (W.aret hX.1 hX.2.1 hX.2.2.1 (Or.inl ⟨rt9, rfl⟩) (Or.inr ⟨v, rfl⟩) (fun t ht hW => ⟨⟨W1, v, rfl, trivial, hp, by rw [ht]; exact hP, va_K.moved hW.alike hE.1, hD⟩, hS.F ht⟩) hS.2.2 hdg hX.2.2.2.2.2.2)
theorem xVr (hX : Ex p s m args meth c cc rt0 nL own) (hE : Ew D cy A0 s) (hM : Xr l y bytes maxL rt rm D cy (.ref b :: As) WS post px) (cw : CallW R s args own C index y bytes maxL rt (Cond.code y bytes maxL rt :: wA) rm rm.cells rm.slots n)
    (hP : va_P D vwCl W0 H) (hD : va_D A0 W0) (hS : va_S A0 s.heap H locs) (isC isR : List Nat) (hC : isC.map (fun i => W0[i]?) = WS.map some) (hR : isR.map (fun i => W0[i]?) = wr.map some) (hnd : va_nd isC = true ∧ va_nd isR = true ∧ ∀ i ∈ isR, i ∉ isC)
    (q0 : Nat) {ci : Nat} {fs : List Value} {r : vw_C} (hq : WS[q0]? = some (b, .inr (ci, fs))) (hc : vwCl[ci]? = some r) (hrC : r.1 = C) (hn : As.length = n) (hsize : ls.size = nL) (hst : st0 = As.reverse ++ .ref b :: rest) (hW : (rest.map fun v => v.category).sum ≤ 8) (hdg : decode cc pc = .ok (.invokevirtual index, 3)) (hf : cells + rm.cells ≤ R.cells ∧ slots + rm.slots ≤ R.slots)
    (kx : ∀ (E : String) (ce : Cell) (q9 : Addr) (W1 : va_W) (H1 : Heap) (locs1 : List Loc), px E W1 → va_P D vwCl (wr ++ W1) H1 → va_D A0 (wr ++ W1) → va_S A0 s.heap H1 locs1 → H1[q9]? = some ce → ce.vm = .none → s.vm.findClass E = some ce.cls → vx_W p l e R s m args below meth c H1 locs1 (cells + rm.cells) (slots + rm.slots) Q (F0 m pc ls rest) q9)
    (kk : ∀ (r : Nat) (W1 : va_W) (H1 : Heap) (locs1 : List Loc), post r W1 → va_P D vwCl (wr ++ W1) H1 → va_D A0 (wr ++ W1) → va_S A0 s.heap H1 locs1 → W p l e R s m args below meth c H1 locs1 (cells + rm.cells) (slots + rm.slots) Q (F0 m (pc + 3) ls (.ref r :: rest))) : W p l e R s m args below meth c H locs cells slots Q (F0 m pc ls st0) := by
  subst hrC
  have hF := va_free hD hS hE.2.1 isC hC
  have hr := vx_runV (fixA hX) (hM H.size) cw ⟨cP_blind, recvA hE hP isC hC hq hc, fun U hU hW => ⟨rfl, cP_pay hE hP hD hS isC hC hnd.1 U hU hW⟩⟩ (g := F0 m pc ls st0) rfl hn hsize hst (lv_room hW) hdg hf (below := below) (e := e) (locs := locs) (meth := meth)
  intro T hT X
  rcases hr T hT X with ⟨v, st₀, t, T', L, h0, X', hL, e1, e2, ⟨⟨u, ra, hv, -, hp, hB⟩, hFr⟩, st⟩ | ⟨q, st₀, t, T', L, E, ce, h0, X', hL, e1, e2, ⟨u, -, ⟨hpx, hB⟩, hFr⟩, hce, hcv, hcl, st⟩
  · cases hv
    obtain ⟨k1, k2, k3⟩ := vx_keep h0 e1 hS (fun q _ h => hF q h) hF hL hFr
    obtain ⟨hP1, hK1, hD1⟩ := hB
    rw [← e1] at hP1
    obtain ⟨ha, hb⟩ := va_join hP hD isC isR hC hR hnd.2.1 hnd.2.2 k2 hF hP1 hD1
    obtain ⟨t2, a1, b1⟩ := kk ra u T'.heap (locs ++ L) hp ha hb k3 T' rfl X'
    exact ⟨t2, st t2 a1, b1⟩
  · obtain ⟨k1, k2, k3⟩ := vx_keep h0 e1 hS (fun q _ h => hF q h) hF hL hFr
    obtain ⟨hP1, hK1, hD1⟩ := hB
    rw [← e1] at hP1
    obtain ⟨ha, hb⟩ := va_join hP hD isC isR hC hR hnd.2.1 hnd.2.2 k2 hF hP1 hD1
    obtain ⟨t2, a1, b1⟩ := kx E ce q u T'.heap (locs ++ L) hpx ha hb k3 (by rw [e1]; exact hce) hcv hcl T' rfl X'
    exact ⟨t2, st.trans a1, b1⟩
end RefC
theorem ix_4 (x : Int32) (h : vp_in x 4) : x = 0 ∨ x = 1 ∨ x = 2 ∨ x = 3 := by
  obtain ⟨j, hj, rfl⟩ := vp_in_of h (by decide)
  rcases (show j = 0 ∨ j = 1 ∨ j = 2 ∨ j = 3 by omega) with rfl | rfl | rfl | rfl
  · exact Or.inl rfl
  · exact Or.inr (Or.inl rfl)
  · exact Or.inr (Or.inr (Or.inl rfl))
  · exact Or.inr (Or.inr (Or.inr rfl))
section CallsS
variable {p : Program} {l : Launch} {e : Env} {R : Room} {s : State} {m : MethodId} {args : Array Value} {below : List Frame} {meth : Method} {c : Code} {H : Heap} {locs : List Loc} {cells slots : Nat} {Q : State → Prop} {cc bytes : ByteArray} {rt rt0 : Option FieldType} {nL pc n index maxL : Nat} {own C host : String} {ls : Array Slot} {D : va_G} {cy : Nat → ClassId} {A0 : Nat → Prop} {W0 wr WS : va_W} {rm : Room} {y : MethodName} {b : Nat} {As rest st0 : List Value} {px : String → va_W → Prop}
theorem kSv {post : va_W → Prop} (hX : Ex p s m args meth c cc rt0 nL own) (hE : Ew D cy A0 s) (hM : Cv l y bytes maxL rt rm D cy As WS post) (cw : CallB R s args own index y bytes maxL rt (Cond.code y bytes maxL rt :: wA) rm rm.cells rm.slots n ∧ (Cond.static y).before args s = true)
    (hP : va_P D vwCl W0 H) (hD : va_D A0 W0) (hS : va_S A0 s.heap H locs) (isC isR : List Nat) (hC : isC.map (fun i => W0[i]?) = WS.map some) (hR : isR.map (fun i => W0[i]?) = wr.map some) (hnd : va_nd isC = true ∧ va_nd isR = true ∧ ∀ i ∈ isR, i ∉ isC)
    (hn : As.length = n) (hsize : ls.size = nL) (hst : st0 = As.reverse ++ rest) (hW : (rest.map fun v => v.category).sum ≤ 8) (hdg : decode cc pc = .ok (.invokestatic index, 3)) (hf : cells + rm.cells ≤ R.cells ∧ slots + rm.slots ≤ R.slots)
    (kk : ∀ (W1 : va_W) (H1 : Heap) (locs1 : List Loc), post W1 → va_P D vwCl (wr ++ W1) H1 → va_D A0 (wr ++ W1) → va_S A0 s.heap H1 locs1 → W p l e R s m args below meth c H1 locs1 (cells + rm.cells) (slots + rm.slots) Q (F0 m (pc + 3) ls rest)) : W p l e R s m args below meth c H locs cells slots Q (F0 m pc ls st0) := by
  have hF := va_free hD hS hE.2.1 isC hC
  refine va_callv (va_runS (fixA hX) (hM H.size) cw ⟨cP_blind, fun U hU hW => ⟨rfl, cP_pay hE hP hD hS isC hC hnd.1 U hU hW⟩⟩ rfl hn hsize hst (lv_room hW) hdg hf) hS (fun q _ h => hF q h) hF (fun u t H1 locs1 ht hvm hw hB hz1 hk1 hS1 => ?_)
  obtain ⟨hP1, hK1, hD1⟩ := hB
  rw [ht] at hP1
  obtain ⟨ha, hb⟩ := va_join hP hD isC isR hC hR hnd.2.1 hnd.2.2 hk1 hF hP1 hD1
  exact kk u H1 locs1 hw ha hb hS1
theorem kSl {post : Int64 → va_W → Prop} (hX : Ex p s m args meth c cc rt0 nL own) (hE : Ew D cy A0 s) (hM : Cl l y bytes maxL rt rm D cy As WS post) (cw : CallB R s args own index y bytes maxL rt (Cond.code y bytes maxL rt :: wA) rm rm.cells rm.slots n ∧ (Cond.static y).before args s = true)
    (hP : va_P D vwCl W0 H) (hD : va_D A0 W0) (hS : va_S A0 s.heap H locs) (isC isR : List Nat) (hC : isC.map (fun i => W0[i]?) = WS.map some) (hR : isR.map (fun i => W0[i]?) = wr.map some) (hnd : va_nd isC = true ∧ va_nd isR = true ∧ ∀ i ∈ isR, i ∉ isC)
    (hn : As.length = n) (hsize : ls.size = nL) (hst : st0 = As.reverse ++ rest) (hW : (rest.map fun v => v.category).sum ≤ 8) (hdg : decode cc pc = .ok (.invokestatic index, 3)) (hf : cells + rm.cells ≤ R.cells ∧ slots + rm.slots ≤ R.slots)
    (kk : ∀ (r : Int64) (W1 : va_W) (H1 : Heap) (locs1 : List Loc), post r W1 → va_P D vwCl (wr ++ W1) H1 → va_D A0 (wr ++ W1) → va_S A0 s.heap H1 locs1 → W p l e R s m args below meth c H1 locs1 (cells + rm.cells) (slots + rm.slots) Q (F0 m (pc + 3) ls (.long r :: rest))) : W p l e R s m args below meth c H locs cells slots Q (F0 m pc ls st0) := by
  have hF := va_free hD hS hE.2.1 isC hC
  refine va_calll (va_runS (fixA hX) (hM H.size) cw ⟨cP_blind, fun U hU hW => ⟨rfl, cP_pay hE hP hD hS isC hC hnd.1 U hU hW⟩⟩ rfl hn hsize hst (lv_room hW) hdg hf) hS (fun q _ h => hF q h) hF (fun r u t H1 locs1 ht hvm hw hB hz1 hk1 hS1 => ?_)
  obtain ⟨hP1, hK1, hD1⟩ := hB
  rw [ht] at hP1
  obtain ⟨ha, hb⟩ := va_join hP hD isC isR hC hR hnd.2.1 hnd.2.2 hk1 hF hP1 hD1
  exact kk r u H1 locs1 hw ha hb hS1
theorem xSv {post : va_W → Prop} (hX : Ex p s m args meth c cc rt0 nL own) (hE : Ew D cy A0 s) (hM : Xv l y bytes maxL rt rm D cy As WS post px) (cw : CallB R s args own index y bytes maxL rt (Cond.code y bytes maxL rt :: wA) rm rm.cells rm.slots n ∧ (Cond.static y).before args s = true)
    (hP : va_P D vwCl W0 H) (hD : va_D A0 W0) (hS : va_S A0 s.heap H locs) (isC isR : List Nat) (hC : isC.map (fun i => W0[i]?) = WS.map some) (hR : isR.map (fun i => W0[i]?) = wr.map some) (hnd : va_nd isC = true ∧ va_nd isR = true ∧ ∀ i ∈ isR, i ∉ isC)
    (hn : As.length = n) (hsize : ls.size = nL) (hst : st0 = As.reverse ++ rest) (hW : (rest.map fun v => v.category).sum ≤ 8) (hdg : decode cc pc = .ok (.invokestatic index, 3)) (hf : cells + rm.cells ≤ R.cells ∧ slots + rm.slots ≤ R.slots)
    (kx : ∀ (E : String) (ce : Cell) (q9 : Addr) (W1 : va_W) (H1 : Heap) (locs1 : List Loc), px E W1 → va_P D vwCl (wr ++ W1) H1 → va_D A0 (wr ++ W1) → va_S A0 s.heap H1 locs1 → H1[q9]? = some ce → ce.vm = .none → s.vm.findClass E = some ce.cls → vx_W p l e R s m args below meth c H1 locs1 (cells + rm.cells) (slots + rm.slots) Q (F0 m pc ls rest) q9)
    (kk : ∀ (W1 : va_W) (H1 : Heap) (locs1 : List Loc), post W1 → va_P D vwCl (wr ++ W1) H1 → va_D A0 (wr ++ W1) → va_S A0 s.heap H1 locs1 → W p l e R s m args below meth c H1 locs1 (cells + rm.cells) (slots + rm.slots) Q (F0 m (pc + 3) ls rest)) : W p l e R s m args below meth c H locs cells slots Q (F0 m pc ls st0) := by
  have hF := va_free hD hS hE.2.1 isC hC
  refine vx_callv (vx_runS (fixA hX) (hM H.size) cw ⟨cP_blind, fun U hU hW => ⟨rfl, cP_pay hE hP hD hS isC hC hnd.1 U hU hW⟩⟩ rfl hn hsize hst (lv_room hW) hdg hf) hS (fun q _ h => hF q h) hF (fun q _ h => hF q h) (fun E ce q9 u t H1 locs1 ht hvm hw hB hz1 hk1 hS1 hce hcv hcl => ?_) (fun u t H1 locs1 ht hvm hw hB hz1 hk1 hS1 => ?_)
  · obtain ⟨hpx, hP1, hK1, hD1⟩ := hB
    rw [ht] at hP1
    obtain ⟨ha, hb⟩ := va_join hP hD isC isR hC hR hnd.2.1 hnd.2.2 hk1 hF hP1 hD1
    exact kx E ce q9 u H1 locs1 hpx ha hb hS1 hce hcv hcl
  · obtain ⟨hP1, hK1, hD1⟩ := hB
    rw [ht] at hP1
    obtain ⟨ha, hb⟩ := va_join hP hD isC isR hC hR hnd.2.1 hnd.2.2 hk1 hF hP1 hD1
    exact kk u H1 locs1 hw ha hb hS1
end CallsS
theorem mm_min (x y : Int32) : (if y < x then y else x).toInt = min x.toInt y.toInt := by
  split
  · rename_i h; rw [fa_lt] at h; omega
  · rename_i h; rw [fa_lt] at h; omega
theorem mm_max (x y : Int32) : (if x < y then y else x).toInt = max x.toInt y.toInt := by
  split
  · rename_i h; rw [fa_lt] at h; omega
  · rename_i h; rw [fa_lt] at h; omega
theorem rng32 (x : Int32) : -2147483648 ≤ x.toInt ∧ x.toInt < 2147483648 := ⟨Int32.le_toInt x, Int32.toInt_lt x⟩
theorem sw_0_11 (x : Int32) : x = 0 ∨ x = 1 ∨ x = 2 ∨ x = 3 ∨ x = 4 ∨ x = 5 ∨ x = 6 ∨ x = 7 ∨ x = 8 ∨ x = 9 ∨ x = 10 ∨ x = 11 ∨ (x.toInt < 0 ∨ 11 < x.toInt) := by
  simp only [fa_eq]
  have h0 : (0 : Int32).toInt = 0 := by decide
  have h1 : (1 : Int32).toInt = 1 := by decide
  have h2 : (2 : Int32).toInt = 2 := by decide
  have h3 : (3 : Int32).toInt = 3 := by decide
  have h4 : (4 : Int32).toInt = 4 := by decide
  have h5 : (5 : Int32).toInt = 5 := by decide
  have h6 : (6 : Int32).toInt = 6 := by decide
  have h7 : (7 : Int32).toInt = 7 := by decide
  have h8 : (8 : Int32).toInt = 8 := by decide
  have h9 : (9 : Int32).toInt = 9 := by decide
  have h10 : (10 : Int32).toInt = 10 := by decide
  have h11 : (11 : Int32).toInt = 11 := by decide
  omega
/-- the first n are 1 -/
def rc (n : Nat) : Nat → Int32 := fun j => if j < n then 1 else 0
theorem rc_1 : upd (fun _ => 0) (0 : Int32).toNatClampNeg 1 = rc 1 := by
  funext j
  unfold upd rc
  have e : (0 : Int32).toNatClampNeg = 0 := by decide
  rw [e]
  by_cases h : j = 0
  · rw [if_pos h, if_pos (by omega)]
  · rw [if_neg h, if_neg (by omega)]
theorem rc_s (k : Nat) (i : Int32) (hi : i.toNatClampNeg = k) : upd (rc k) i.toNatClampNeg 1 = rc (k + 1) := by
  funext j
  unfold upd rc
  rw [hi]
  by_cases h : j = k
  · rw [if_pos h, if_pos (by omega)]
  · rw [if_neg h]
    by_cases h2 : j < k
    · rw [if_pos h2, if_pos (by omega)]
    · rw [if_neg h2, if_neg (by omega)]
theorem rc_at {x : Int32} {n : Nat} (h : vp_in x n) : rc n x.toNatClampNeg = 1 := if_pos (Nat.not_le.mp fun q => h (Or.inr q))
/-- the first one alone is 1 -/
def mc : Nat → Int64 := fun j => if j = 0 then 1 else 0
theorem mc_1 : vp_updL (fun _ => 0) (0 : Int32).toNatClampNeg 1 = mc := by
  funext j
  unfold vp_updL mc
  have e : (0 : Int32).toNatClampNeg = 0 := by decide
  rw [e]
theorem mc_c0 : va_cpy mc (fun _ => 0) (0 : Int32).toNatClampNeg (0 : Int32).toNatClampNeg (6 : Int32).toNatClampNeg = mc := by
  have e : (0 : Int32).toNatClampNeg = 0 := by decide
  have e6 : (6 : Int32).toNatClampNeg = 6 := by decide
  funext j
  unfold va_cpy mc
  rw [e, e6]
  by_cases h : 0 ≤ j ∧ j < 0 + 6
  · rw [if_pos h]; simp
  · rw [if_neg h, if_neg (by omega)]
theorem mc_c1 : va_cpy mc mc (0 : Int32).toNatClampNeg (0 : Int32).toNatClampNeg (6 : Int32).toNatClampNeg = mc := by
  have e : (0 : Int32).toNatClampNeg = 0 := by decide
  have e6 : (6 : Int32).toNatClampNeg = 6 := by decide
  funext j
  unfold va_cpy
  rw [e, e6]
  by_cases h : 0 ≤ j ∧ j < 0 + 6
  · rw [if_pos h]; simp
  · rw [if_neg h]
theorem sub32 (x y : Int32) (h1 : -2147483648 ≤ x.toInt - y.toInt) (h2 : x.toInt - y.toInt < 2147483648) : (x - y).toInt = x.toInt - y.toInt := by
  rw [Int32.toInt_sub]
  have e : (2 : Int) ^ 32 = 4294967296 := by decide
  first | (rw [Int.bmod_eq_of_le (by omega) (by omega)]) | (unfold Int.bmod; omega)
