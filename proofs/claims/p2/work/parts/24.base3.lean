/-! methods with a table of their own that always return: the law's helpers -/
theorem Met_ofWH {l : Launch} {y : MethodName} {ws ws' : List Cond} {rm : Room} {Pc : Array Value → State → Prop} {Qc : Array Value → State → Outcome → State → Prop} {mc ms : Nat} {free : Addr → Prop} {cc : ByteArray} {maxL : Nat} {ret : Option FieldType} {hh : List (Nat × Nat × Nat × Nat)}
    (hy : plainName y.cls = true) (hw : ws = Cond.codeWith y cc maxL ret hh :: ws')
    (body : ∀ p e s m args below meth c s₁, BodyLoose p l y (headSpec ws rm) cc maxL ret e s m args below meth c s₁ → c.maxLocals = maxL → c.exceptionTable.toList = tableOf hh → Pc args s →
      W p l e (headSpec ws rm).room s m args below meth c s.heap [] 0 0 (MQ below Qc args s mc ms free) (entryFrame m args maxL)) : Met l y ws rm Pc Qc mc ms free := by
  refine MetFree.of_bodyS (code := cc) (maxLocals := maxL) (ret := ret) hy ?_ ?_
  · intro args s m h hn
    obtain ⟨m9, meth, c, hn9, h1, h2, h3, h4, -, h5, h6, -⟩ := Cond.codeWith_spec (atoms_spec (ws := ws) h _ (by rw [hw]; exact List.mem_cons_self))
    cases hn.symm.trans hn9
    exact ⟨meth, c, h1, h2, h3, h4, h5, h6⟩
  · intro p e s m args below meth c s₁ B hml hP _
    have hh0 : s₁.heap = s.heap := by rw [B.state]; rfl
    have ht : c.exceptionTable.toList = tableOf hh := vx_table (x := y) B (atoms_spec (ws := ws) B.pre _ (by rw [hw]; exact List.mem_cons_self))
    obtain ⟨t, a1, o, b1, b2, b3⟩ := body p e s m args below meth c s₁ B hml ht hP s₁ hh0 (Stand.of_body B)
    exact ⟨t, o, a1, b1, b2, ⟨b3.1, b3.2⟩⟩
def Hi (l : Launch) (y : MethodName) (b : ByteArray) (mL : Nat) (rt : Option FieldType) (hh : List (Nat × Nat × Nat × Nat)) (rm : Room) (D : va_G) (cy : Nat → ClassId) (av : List Value) (WS : va_W) (post : Int32 → va_W → Prop) : Prop := ∀ sz : Nat, Met l y (Cond.codeWith y b mL rt hh :: wA) rm (va_Pc av (cP D cy WS sz)) (va_Qi post (cB D cy (va_A WS sz)) (va_A WS sz)) rm.cells rm.slots (va_A WS sz)
theorem Hi.of {l : Launch} {y : MethodName} {b : ByteArray} {mL : Nat} {rt : Option FieldType} {hh : List (Nat × Nat × Nat × Nat)} {rm : Room} {D : va_G} {cy : Nat → ClassId} {av : List Value} {WS : va_W} {post : Int32 → va_W → Prop} (hy : plainName y.cls = true) (hlen : (lg_sl av).length ≤ mL)
    (body : ∀ (p : Program) (e : Env) (s : State) (m : MethodId) (below : List Frame) (meth : Method) (c : Code) (A : Nat → Prop) (ls : Array Slot), Ex p s m av.toArray meth c b rt mL y.cls → Ew D cy A s → va_P D vwCl WS s.heap → va_D A WS → lv_has ls mL (lv_args 0 av) → c.exceptionTable.toList = tableOf hh →
      W p l e rm s m av.toArray below meth c s.heap [] 0 0 (MQ below (va_Qi post (cB D cy A) A) av.toArray s rm.cells rm.slots A) (F0 m 0 ls [])) : Hi l y b mL rt hh rm D cy av WS post := by
  intro sz
  refine Met_ofWH (cc := b) (maxL := mL) (ret := rt) (hh := hh) hy rfl ?_
  intro p e s m args below meth c s₁ B hml ht hv
  obtain ⟨rfl, hsz, hP, hK, hD, hG, hX⟩ := hv
  rw [lg_entry_eq]
  exact body p e s m below meth c (va_A WS sz) _ ⟨B.exec, B.bytes, B.returns, hml, findClass_of_methodNamed B.named, fun w h => atoms_spec (ws := Cond.codeWith y b mL rt hh :: wA) B.pre w (List.mem_cons_of_mem _ h), B.notSynchronized⟩ ⟨hK, fun q h => Or.inr (by rw [← hsz]; exact h), hG, hX⟩ hP hD.self (lv_entry av hlen) ht
theorem cwHA {R : Room} {s : State} {args : Array Value} {own : String} {index maxL : Nat} {y : MethodName} {bytes : ByteArray} {ret : Option FieldType} {hh : List (Nat × Nat × Nat × Nat)} {rm : Room} (n : Nat) (ht : ∀ w ∈ wA, w.before args s = true) (hc : Cond.codeWith y bytes maxL ret hh ∈ wA) (hl : Cond.methodLink own index y ∈ wA) (hi : Cond.initialized y.cls ∈ wA) (hst : Cond.static y ∈ wA)
    (hd : y.cls ≠ "java/lang/invoke/MethodHandle" ∧ y.cls ≠ "java/lang/invoke/VarHandle" ∧ (parseMethodDescriptor y.desc).map (fun d => d.parameters.length) = some n) (hR : rm.frames + 1 ≤ R.frames ∧ 8 + (maxL + 11) + rm.locals ≤ R.locals) :
    vx_CSW R s args own index y bytes maxL ret hh (Cond.codeWith y bytes maxL ret hh :: wA) rm rm.cells rm.slots n := by
  have hG : GoodIn wA (Cond.codeWith y bytes maxL ret hh :: wA) := fun w h => by
    have hw : w ∈ wA := (List.mem_cons.mp h).elim (fun e => by rw [e]; exact hc) id
    exact ⟨hw, good_of_word (List.mem_filter.mp hw).2⟩
  refine ⟨⟨rfl, rfl, hR.1, hR.2, pay_in ht hG, List.mem_cons_self⟩, ht _ hc, ht _ hi, ⟨hd.1, hd.2.1⟩, fun sig h => ?_, ht _ hl, ht _ hst⟩
  have h2 := hd.2.2
  rw [h] at h2
  exact (Option.some.inj h2).symm
section HelperC
variable {p : Program} {l : Launch} {e : Env} {R : Room} {s : State} {m : MethodId} {args : Array Value} {below : List Frame} {meth : Method} {c : Code} {H : Heap} {locs : List Loc} {cells slots : Nat} {Q : State → Prop} {cc bytes : ByteArray} {rt rt0 : Option FieldType} {hh : List (Nat × Nat × Nat × Nat)} {nL pc n index maxL : Nat} {own : String} {ls : Array Slot} {D : va_G} {cy : Nat → ClassId} {A0 : Nat → Prop} {W0 wr WS : va_W} {rm : Room} {y : MethodName} {As rest st0 : List Value}
theorem kHi {post : Int32 → va_W → Prop} (hX : Ex p s m args meth c cc rt0 nL own) (hE : Ew D cy A0 s) (hM : Hi l y bytes maxL rt hh rm D cy As WS post) (cw : vx_CSW R s args own index y bytes maxL rt hh (Cond.codeWith y bytes maxL rt hh :: wA) rm rm.cells rm.slots n)
    (hP : va_P D vwCl W0 H) (hD : va_D A0 W0) (hS : va_S A0 s.heap H locs) (isC isR : List Nat) (hC : isC.map (fun i => W0[i]?) = WS.map some) (hR : isR.map (fun i => W0[i]?) = wr.map some) (hnd : va_nd isC = true ∧ va_nd isR = true ∧ ∀ i ∈ isR, i ∉ isC)
    (hn : As.length = n) (hsize : ls.size = nL) (hst : st0 = As.reverse ++ rest) (hW : (rest.map fun v => v.category).sum ≤ 8) (hdg : decode cc pc = .ok (.invokestatic index, 3)) (hf : cells + rm.cells ≤ R.cells ∧ slots + rm.slots ≤ R.slots)
    (kk : ∀ (r : Int32) (W1 : va_W) (H1 : Heap) (locs1 : List Loc), post r W1 → va_P D vwCl (wr ++ W1) H1 → va_D A0 (wr ++ W1) → va_S A0 s.heap H1 locs1 → W p l e R s m args below meth c H1 locs1 (cells + rm.cells) (slots + rm.slots) Q (F0 m (pc + 3) ls (.int r :: rest))) : W p l e R s m args below meth c H locs cells slots Q (F0 m pc ls st0) := by
  have hF := va_free hD hS hE.2.1 isC hC
  refine va_calli (vx_runSW (fixA hX) (hM H.size) cw ⟨cP_blind, fun U hU hW => ⟨rfl, cP_pay hE hP hD hS isC hC hnd.1 U hU hW⟩⟩ rfl hn hsize hst (lv_room hW) hdg hf) hS (fun q _ h => hF q h) hF (fun r u t H1 locs1 ht hvm hw hB hz1 hk1 hS1 => ?_)
  obtain ⟨hP1, hK1, hD1⟩ := hB
  rw [ht] at hP1
  obtain ⟨ha, hb⟩ := va_join hP hD isC isR hC hR hnd.2.1 hnd.2.2 hk1 hF hP1 hD1
  exact kk r u H1 locs1 hw ha hb hS1
/-- into a handler -/
theorem kCatch {rt0 : Option FieldType} {E name : String} {ce : Cell} {q : Addr} (hX : Ex p s m args meth c cc rt0 nL own) (hE : Ew D cy A0 s) (hT : c.exceptionTable.toList = tableOf hh) (pre : List ExceptionTableEntry) (x : ExceptionTableEntry) (suf : List ExceptionTableEntry) (hsp : tableOf hh = pre ++ x :: suf)
    (hpass : ∀ z ∈ pre, covers z pc = false ∨ (z.catchType ≠ 0 ∧ ∃ nm : String, (Cond.classLink own z.catchType nm).before args s = true ∧ va_Nc E nm s)) (hx : covers x pc = true) (h0 : x.catchType ≠ 0) (hlink : Cond.classLink own x.catchType name ∈ wA) (hcast : Cond.castable E name ∈ xEW)
    (hcell : H[q]? = some ce) (hv : ce.vm = .none) (hcl : s.vm.findClass E = some ce.cls) (kk : W p l e R s m args below meth c H locs cells slots Q (F0 m x.handlerPc ls [.ref q])) : vx_W p l e R s m args below meth c H locs cells slots Q (F0 m pc ls rest) q :=
  vx_catch hX.2.2.2.2.1 pre x suf (hT.trans hsp) hpass hx h0 (hX.2.2.2.2.2.1 _ hlink) (va_Nw.use rfl (hE.2.2.2.1 _ hcast)) hcell hv hcl kk
end HelperC

/-! loops: a measure, an invariant, worlds and locals by an index -/
section Loops
variable {p : Program} {l : Launch} {e : Env} {R : Room} {s : State} {m : MethodId} {args : Array Value} {below : List Frame} {meth : Method} {c : Code} {cells slots : Nat} {Q : State → Prop} {pc : Nat} {D : va_G} {A : Nat → Prop}
theorem loopT {τ : Type} {mL : Nat} {WS : τ → va_W} {LV : τ → List (Nat × Value)} (f : τ → Nat) (Inv : τ → Prop)
    (step : ∀ (t : τ) (H : Heap) (locs : List Loc) (ls : Array Slot), Inv t →
      (∀ (u : τ) (H : Heap) (locs : List Loc) (ls : Array Slot), Inv u → f u < f t → va_P D vwCl (WS u) H → va_D A (WS u) → va_S A s.heap H locs → lv_has ls mL (LV u) → W p l e R s m args below meth c H locs cells slots Q (F0 m pc ls [])) →
      va_P D vwCl (WS t) H → va_D A (WS t) → va_S A s.heap H locs → lv_has ls mL (LV t) → W p l e R s m args below meth c H locs cells slots Q (F0 m pc ls []))
    (t : τ) {H : Heap} {locs : List Loc} {ls : Array Slot} (hI : Inv t) (hP : va_P D vwCl (WS t) H) (hD : va_D A (WS t)) (hS : va_S A s.heap H locs) (hl : lv_has ls mL (LV t)) : W p l e R s m args below meth c H locs cells slots Q (F0 m pc ls []) := by
  have key : ∀ (k : Nat) (t : τ) (H : Heap) (locs : List Loc) (ls : Array Slot), f t < k → Inv t → va_P D vwCl (WS t) H → va_D A (WS t) → va_S A s.heap H locs → lv_has ls mL (LV t) → W p l e R s m args below meth c H locs cells slots Q (F0 m pc ls []) := by
    intro k
    induction k with
    | zero => intro t H locs ls h; exact absurd h (Nat.not_lt_zero _)
    | succ k ih =>
      intro t H locs ls h hI hP hD hS hl
      exact step t H locs ls hI (fun u H locs ls hu hlt hP hD hS hl => ih u H locs ls (Nat.lt_of_lt_of_le hlt (Nat.le_of_lt_succ h)) hu hP hD hS hl) hP hD hS hl
  exact key (f t + 1) t H locs ls (Nat.lt_succ_self _) hI hP hD hS hl
end Loops
theorem add32 (x y : Int32) (h1 : -2147483648 ≤ x.toInt + y.toInt) (h2 : x.toInt + y.toInt < 2147483648) : (x + y).toInt = x.toInt + y.toInt := by
  rw [Int32.toInt_add]
  have e : (2 : Int) ^ 32 = 4294967296 := by decide
  first | (rw [Int.bmod_eq_of_le (by omega) (by omega)]) | (unfold Int.bmod; omega)
theorem inc32 (x : Int32) (h2 : x.toInt < 2147483647) : (x + 1).toInt = x.toInt + 1 := by
  have h := Int32.le_toInt x
  have h1 : (1 : Int32).toInt = 1 := by decide
  have := add32 x 1 (by rw [h1]; omega) (by rw [h1]; omega)
  rw [h1] at this
  exact this
theorem ix_3 (x : Int32) (h : vp_in x 3) : x = 0 ∨ x = 1 ∨ x = 2 := by
  obtain ⟨j, hj, rfl⟩ := vp_in_of h (by decide)
  rcases (show j = 0 ∨ j = 1 ∨ j = 2 by omega) with rfl | rfl | rfl
  · exact Or.inl rfl
  · exact Or.inr (Or.inl rfl)
  · exact Or.inr (Or.inr rfl)
theorem ts_at (x : Int32) (h : vp_in x 4) : upd (upd (upd (upd (fun _ => 0) (0 : Int32).toNatClampNeg (-1)) (1 : Int32).toNatClampNeg (-1)) (2 : Int32).toNatClampNeg (-1)) (3 : Int32).toNatClampNeg (-1) x.toNatClampNeg = (-1) := by
  rcases ix_4 x h with rfl | rfl | rfl | rfl <;> decide
theorem tr_in (x j : Int32) (h : vp_in x 4) (h0 : vp_in (30 * 0 + j) 120) (h1 : vp_in (30 * 1 + j) 120) (h2 : vp_in (30 * 2 + j) 120) (h3 : vp_in (30 * 3 + j) 120) : vp_in (30 * x + j) 120 := by
  rcases ix_4 x h with rfl | rfl | rfl | rfl
  · exact h0
  · exact h1
  · exact h2
  · exact h3
theorem up_swap {f : Nat → Int32} {i j : Nat} {x y : Int32} (h : i ≠ j) : upd (upd f i x) j y = upd (upd f j y) i x := by
  funext k
  by_cases e : k = i
  · subst e; rw [pk_us, pk_un h, pk_us]
  · by_cases e2 : k = j
    · subst e2; rw [pk_us, pk_un e, pk_us]
    · rw [pk_un e2, pk_un e, pk_un e, pk_un e2]
theorem up_twiceL {f : Nat → Int64} {i : Nat} {x y : Int64} : vp_updL (vp_updL f i x) i y = vp_updL f i y := by
  funext k
  by_cases e : k = i
  · subst e; rw [pk_uLs, pk_uLs]
  · rw [pk_uLn e, pk_uLn e, pk_uLn e]
theorem up_swapL {f : Nat → Int64} {i j : Nat} {x y : Int64} (h : i ≠ j) : vp_updL (vp_updL f i x) j y = vp_updL (vp_updL f j y) i x := by
  funext k
  by_cases e : k = i
  · subst e; rw [pk_uLs, pk_uLn h, pk_uLs]
  · by_cases e2 : k = j
    · subst e2; rw [pk_uLs, pk_uLn e, pk_uLs]
    · rw [pk_uLn e2, pk_uLn e, pk_uLn e, pk_uLn e2]
theorem up_twice {f : Nat → Int32} {i : Nat} {x y : Int32} : upd (upd f i x) i y = upd f i y := by
  funext k
  by_cases e : k = i
  · subst e; rw [pk_us, pk_us]
  · rw [pk_un e, pk_un e, pk_un e]
