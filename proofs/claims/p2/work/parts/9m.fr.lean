/-! a contract over a larger world, in more room -/
abbrev rle (r r' : Room) : Prop := r.frames ≤ r'.frames ∧ r.cells ≤ r'.cells ∧ r.slots ≤ r'.slots ∧ r.locals ≤ r'.locals
theorem hr_mono {s : State} {pl : Platform} {r r' : Room} (h : s.hasRoom pl r' = true) (hr : rle r r') : s.hasRoom pl r = true := by
  obtain ⟨h1, h2, h3, h4⟩ := hr
  unfold State.hasRoom at h ⊢
  simp only [Bool.and_eq_true, decide_eq_true_eq] at h ⊢
  obtain ⟨⟨⟨⟨a, b1, b2, b3, b4, b5⟩, c⟩, d⟩, e⟩ := h
  exact ⟨⟨⟨⟨by omega, by omega, by omega, by omega, by omega, b5⟩, by omega⟩, by omega⟩, e⟩
theorem mf_wide {l : Launch} {y : MethodName} {ws : List Cond} {rm rm' : Room} {P P' : Array Value → State → Prop} {K : Program → Env → List Frame → State → Array Value → Prop} {Q Q' : Array Value → State → Outcome → State → Prop} (h : MetFree l y (headSpec ws rm) P K Q) (hr : rle rm rm')
    (hP : ∀ a s, P' a s → P a s) (hQ : ∀ a s o t, P' a s → Q a s o t → Q' a s o t) : MetFree l y (headSpec ws rm') P' K Q' := by
  intro p e ha hc hk s m args below hf happ hp hk'
  have h1 := (Spec.appliesLoose_iff hf).mp happ
  have happ' : (headSpec ws rm).appliesLoose y e.platform s = true := (Spec.appliesLoose_iff hf).mpr ⟨h1.1, h1.2.1, h1.2.2.1, h1.2.2.2.1, h1.2.2.2.2.1, h1.2.2.2.2.2.1, hr_mono h1.2.2.2.2.2.2.1 hr, h1.2.2.2.2.2.2.2⟩
  obtain ⟨n, o, h1, h2, h3, h4⟩ := h p e ha hc hk s m args below hf happ' (hP _ _ hp) hk'
  exact ⟨n, o, h1, h2, h3, hQ _ _ _ _ hp h4⟩
theorem mem_A {ws : va_W} {sz q : Nat} : va_A ws sz q ↔ (∃ p ∈ ws, p.1 = q) ∨ sz ≤ q := by
  unfold va_A
  constructor
  · rintro (⟨k, e, h⟩ | h)
    · exact Or.inl ⟨(q, e), List.mem_of_getElem? h, rfl⟩
    · exact Or.inr h
  · rintro (⟨p, hp, rfl⟩ | h)
    · obtain ⟨k, hk⟩ := List.getElem?_of_mem hp
      exact Or.inl ⟨k, p.2, hk⟩
    · exact Or.inr h
theorem A_sub {W WS F : va_W} {sz : Nat} (hp : W.Perm (WS ++ F)) : ∀ q, va_A WS sz q → va_A W sz q := by
  intro q h
  rcases mem_A.mp h with ⟨p, hp', rfl⟩ | h
  · exact mem_A.mpr (Or.inl ⟨p, hp.mem_iff.mpr (List.mem_append_left _ hp'), rfl⟩)
  · exact mem_A.mpr (Or.inr h)
theorem cP_fr {D : va_G} {cy : Nat → ClassId} {W WS F : va_W} {sz : Nat} (hp : W.Perm (WS ++ F)) {U : State} (h : cP D cy W sz U) : cP D cy WS sz U := by
  obtain ⟨h0, h1, h2, h3, h4, h5⟩ := h
  exact ⟨h0, vP_sl (vP_pm h1 hp) (List.sublist_append_left _ _), h2, vD_sl (vD_pm h3 hp) (List.sublist_append_left _ _), h4.narrow (A_sub hp), h5⟩
theorem cB_fr {D : va_G} {cy : Nat → ClassId} {W WS F W1 : va_W} {sz : Nat} (hp : W.Perm (WS ++ F)) {U t : State} (h : cP D cy W sz U) (hF : va_F (va_A WS sz) U t) (hB : cB D cy (va_A WS sz) W1 t) : cB D cy (va_A W sz) (W1 ++ F) t := by
  obtain ⟨h0, h1, h2, h3, h4, h5⟩ := h
  obtain ⟨b1, b2, b3⟩ := hB
  have hPF : va_P D vwCl F U.heap := vP_sl (vP_pm h1 hp) (List.sublist_append_right _ _)
  have hD3 := vD_pm h3 hp
  have hnd := (vD_iff.mp hD3).1
  rw [List.map_append, List.nodup_append] at hnd
  have hout : ∀ q ∈ F, ¬ va_A WS sz q.1 := by
    intro q hq hA
    obtain ⟨k, hk⟩ := List.getElem?_of_mem hq
    have hlt := (hPF k q hk).lt
    rcases mem_A.mp hA with ⟨p, hp', he⟩ | hge
    · exact hnd.2.2 _ (List.mem_map_of_mem hp') _ (List.mem_map_of_mem hq) he
    · omega
  refine ⟨va_P.app b1 (hPF.kept (fun k q hk => hF.2 _ (hPF k q hk).lt (hout q (List.mem_of_getElem? hk)))), b2, ?_⟩
  refine va_D.app (b3.weaken (fun k q hk hA => A_sub hp _ hA)) ?_ ?_
  · exact (vD_sl hD3 (List.sublist_append_right _ _)).weaken (fun k q hk _ => mem_A.mpr (Or.inl ⟨q, hp.mem_iff.mpr (List.mem_append_right _ (List.mem_of_getElem? hk)), rfl⟩))
  · intro i j p q hi hj he
    exact hout q (List.mem_of_getElem? hj) (he ▸ b3.2 i p hi)
theorem F_fr {W WS F : va_W} {sz : Nat} (hp : W.Perm (WS ++ F)) {U t : State} (h : va_F (va_A WS sz) U t) : va_F (va_A W sz) U t := ⟨h.1, fun q h1 h2 => h.2 q h1 (fun h3 => h2 (A_sub hp _ h3))⟩
section Fr
variable {l : Launch} {y : MethodName} {b : ByteArray} {mL : Nat} {rt : Option FieldType} {rm rm' : Room} {D : va_G} {cy : Nat → ClassId} {av : List Value} {WS W F : va_W} {px px' : String → va_W → Prop}
theorem fe_fr {st t : State} {o : Outcome} {sz : Nat} (hp : W.Perm (WS ++ F)) (hr : rle rm rm') (h : ∃ L, FrameEnd st o t L rm.cells rm.slots ∧ ∀ q ∈ L, va_A WS sz q.base) : ∃ L, FrameEnd st o t L rm'.cells rm'.slots ∧ ∀ q ∈ L, va_A W sz q.base := by
  obtain ⟨L, ⟨h1, h2, h3⟩, h4⟩ := h
  exact ⟨L, ⟨h1, h2, h3.mono hr.2.1 hr.2.2.1⟩, fun q hq => A_sub hp _ (h4 q hq)⟩
theorem Ci.fr {post post' : Int32 → va_W → Prop} (hM : Ci l y b mL rt rm D cy av WS post) (hp : W.Perm (WS ++ F)) (hr : rle rm rm') (hq : ∀ r W1, post r W1 → post' r (W1 ++ F)) : Ci l y b mL rt rm' D cy av W post' := by
  intro sz
  refine mf_wide (hM sz) hr (fun a U h => ⟨h.1, cP_fr hp h.2⟩) (fun a st o t h1 h2 => ⟨?_, fe_fr hp hr h2.2⟩)
  obtain ⟨⟨⟨r, u, ho, hpo, hB⟩, hF⟩, _⟩ := h2
  exact ⟨⟨r, u ++ F, ho, hq r u hpo, cB_fr hp h1.2 hF hB⟩, F_fr hp hF⟩
theorem Cl.fr {post post' : Int64 → va_W → Prop} (hM : Cl l y b mL rt rm D cy av WS post) (hp : W.Perm (WS ++ F)) (hr : rle rm rm') (hq : ∀ r W1, post r W1 → post' r (W1 ++ F)) : Cl l y b mL rt rm' D cy av W post' := by
  intro sz
  refine mf_wide (hM sz) hr (fun a U h => ⟨h.1, cP_fr hp h.2⟩) (fun a st o t h1 h2 => ⟨?_, fe_fr hp hr h2.2⟩)
  obtain ⟨⟨⟨r, u, ho, hpo, hB⟩, hF⟩, _⟩ := h2
  exact ⟨⟨r, u ++ F, ho, hq r u hpo, cB_fr hp h1.2 hF hB⟩, F_fr hp hF⟩
theorem Cv.fr {post post' : va_W → Prop} (hM : Cv l y b mL rt rm D cy av WS post) (hp : W.Perm (WS ++ F)) (hr : rle rm rm') (hq : ∀ W1, post W1 → post' (W1 ++ F)) : Cv l y b mL rt rm' D cy av W post' := by
  intro sz
  refine mf_wide (hM sz) hr (fun a U h => ⟨h.1, cP_fr hp h.2⟩) (fun a st o t h1 h2 => ⟨?_, fe_fr hp hr h2.2⟩)
  obtain ⟨⟨⟨u, ho, hpo, hB⟩, hF⟩, _⟩ := h2
  exact ⟨⟨u ++ F, ho, hq u hpo, cB_fr hp h1.2 hF hB⟩, F_fr hp hF⟩
theorem xT_fr {sz : Nat} {st t : State} {q : Addr} (hp : W.Perm (WS ++ F)) (hr : rle rm rm') (hx : ∀ E W1, px E W1 → px' E (W1 ++ F)) (hc : cP D cy W sz st) (h : vx_T (xB D cy (va_A WS sz) px) st q t rm.cells rm.slots (va_A WS sz)) : vx_T (xB D cy (va_A W sz) px') st q t rm'.cells rm'.slots (va_A W sz) := by
  obtain ⟨E, ce, L, ⟨u, _, ⟨hpx, hB⟩, hF⟩, h1, h2, h3, h4, h5, h6⟩ := h
  exact ⟨E, ce, L, ⟨u ++ F, trivial, ⟨hx E u hpx, cB_fr hp hc hF hB⟩, F_fr hp hF⟩, h1, h2, h3, h4, h5.mono hr.2.1 hr.2.2.1, fun z hz => A_sub hp _ (h6 z hz)⟩
theorem Xi.fr {post post' : Int32 → va_W → Prop} (hM : Xi l y b mL rt rm D cy av WS post px) (hp : W.Perm (WS ++ F)) (hr : rle rm rm') (hq : ∀ r W1, post r W1 → post' r (W1 ++ F)) (hx : ∀ E W1, px E W1 → px' E (W1 ++ F)) : Xi l y b mL rt rm' D cy av W post' px' := by
  intro sz
  refine mf_wide (hM sz) hr (fun a U h => ⟨h.1, cP_fr hp h.2⟩) (fun a st o t h1 h2 => ?_)
  rcases h2 with h2 | ⟨q, ho, h2⟩
  · obtain ⟨⟨⟨r, u, ho, hpo, hB⟩, hF⟩, hL⟩ := h2
    exact Or.inl ⟨⟨⟨r, u ++ F, ho, hq r u hpo, cB_fr hp h1.2 hF hB⟩, F_fr hp hF⟩, fe_fr hp hr hL⟩
  · exact Or.inr ⟨q, ho, xT_fr hp hr hx h1.2 h2⟩
theorem Xl.fr {post post' : Int64 → va_W → Prop} (hM : Xl l y b mL rt rm D cy av WS post px) (hp : W.Perm (WS ++ F)) (hr : rle rm rm') (hq : ∀ r W1, post r W1 → post' r (W1 ++ F)) (hx : ∀ E W1, px E W1 → px' E (W1 ++ F)) : Xl l y b mL rt rm' D cy av W post' px' := by
  intro sz
  refine mf_wide (hM sz) hr (fun a U h => ⟨h.1, cP_fr hp h.2⟩) (fun a st o t h1 h2 => ?_)
  rcases h2 with h2 | ⟨q, ho, h2⟩
  · obtain ⟨⟨⟨r, u, ho, hpo, hB⟩, hF⟩, hL⟩ := h2
    exact Or.inl ⟨⟨⟨r, u ++ F, ho, hq r u hpo, cB_fr hp h1.2 hF hB⟩, F_fr hp hF⟩, fe_fr hp hr hL⟩
  · exact Or.inr ⟨q, ho, xT_fr hp hr hx h1.2 h2⟩
theorem Xv.fr {post post' : va_W → Prop} (hM : Xv l y b mL rt rm D cy av WS post px) (hp : W.Perm (WS ++ F)) (hr : rle rm rm') (hq : ∀ W1, post W1 → post' (W1 ++ F)) (hx : ∀ E W1, px E W1 → px' E (W1 ++ F)) : Xv l y b mL rt rm' D cy av W post' px' := by
  intro sz
  refine mf_wide (hM sz) hr (fun a U h => ⟨h.1, cP_fr hp h.2⟩) (fun a st o t h1 h2 => ?_)
  rcases h2 with h2 | ⟨q, ho, h2⟩
  · obtain ⟨⟨⟨u, ho, hpo, hB⟩, hF⟩, hL⟩ := h2
    exact Or.inl ⟨⟨⟨u ++ F, ho, hq u hpo, cB_fr hp h1.2 hF hB⟩, F_fr hp hF⟩, fe_fr hp hr hL⟩
  · exact Or.inr ⟨q, ho, xT_fr hp hr hx h1.2 h2⟩
theorem Ci.X {post post' : Int32 → va_W → Prop} (hM : Ci l y b mL rt rm D cy av WS post) (hp : W.Perm (WS ++ F)) (hr : rle rm rm') (hq : ∀ r W1, post r W1 → post' r (W1 ++ F)) : Xi l y b mL rt rm' D cy av W post' px' := by
  intro sz
  refine mf_wide (hM sz) hr (fun a U h => ⟨h.1, cP_fr hp h.2⟩) (fun a st o t h1 h2 => Or.inl ⟨?_, fe_fr hp hr h2.2⟩)
  obtain ⟨⟨⟨r, u, ho, hpo, hB⟩, hF⟩, _⟩ := h2
  exact ⟨⟨r, u ++ F, ho, hq r u hpo, cB_fr hp h1.2 hF hB⟩, F_fr hp hF⟩
end Fr
/-! a world as segments -/
theorem pf_pm {α : Type} {L : List α} : ∀ {is : List Nat} {M : List α}, is.map (fun i => L[i]?) = M.map some → M = is.filterMap (fun i => L[i]?)
  | [], [], _ => rfl
  | [], b :: M, h => by simp at h
  | a :: is, [], h => by simp at h
  | a :: is, b :: M, h => by
    simp only [List.map_cons, List.cons.injEq] at h
    rw [List.filterMap_cons, h.1, ← pf_pm h.2]
theorem fm_range {α : Type} : ∀ (L : List α), (List.range L.length).filterMap (fun i => L[i]?) = L
  | [] => rfl
  | a :: t => by
    rw [List.length_cons, List.range_succ_eq_map]
    show a :: (((List.range t.length).map Nat.succ).filterMap fun i => (a :: t)[i]?) = a :: t
    rw [List.filterMap_map]
    exact congrArg (a :: ·) (fm_range t)
/-- the segments in another order: is is an order of 0 .. n - 1 -/
def okp (is : List Nat) (n : Nat) : Bool := is.isPerm (List.range n)
theorem okp_pm {is : List Nat} {n : Nat} (h : okp is n = true) : is.Perm (List.range n) := List.isPerm_iff.mp h
theorem sg_pm {S M : List va_W} (is : List Nat) (n : Nat) (hl : S.length = n) (ho : okp is n = true) (h : is.map (fun i => S[i]?) = M.map some) : S.flatten.Perm M.flatten := by
  have h1 := pf_pm h
  have h2 : ((List.range n).filterMap (fun i => S[i]?)).Perm M := by rw [h1]; exact ((okp_pm ho).filterMap _).symm
  rw [← hl, fm_range] at h2
  exact h2.flatten
theorem sg_fr {W WS : va_W} {S C R : List va_W} (hp : W.Perm S.flatten) (is : List Nat) (n : Nat) (hl : S.length = n) (ho : okp is n = true) (h : is.map (fun i => S[i]?) = (C ++ R).map some) (hC : C.flatten = WS) : W.Perm (WS ++ R.flatten) := by
  have := hp.trans (sg_pm is n hl ho h)
  rw [List.flatten_append, hC] at this
  exact this
theorem sg_cl {W1 : va_W} {S C R : List va_W} (is : List Nat) (n : Nat) (hl : (C ++ R).length = n) (ho : okp is n = true) (h : is.map (fun i => (C ++ R)[i]?) = S.map some) (hC : C.flatten = W1) : (W1 ++ R.flatten).Perm S.flatten := by
  rw [← hC, ← List.flatten_append]
  exact sg_pm is n hl ho h
theorem er_pm {α : Type} : ∀ (S : List α) (i : Nat) (B : α), S[i]? = some B → S.Perm (B :: S.eraseIdx i)
  | [], i, B, h => by simp at h
  | a :: t, 0, B, h => by
    have h' : some a = some B := h
    cases h'
    exact List.Perm.refl _
  | a :: t, i + 1, B, h => by
    have h' : t[i]? = some B := h
    exact ((er_pm t i B h').cons a).trans (List.Perm.swap B a _)
theorem sg_op {W B : va_W} {S Xs : List va_W} (hp : W.Perm S.flatten) (i : Nat) (hi : S[i]? = some B) (hB : B.Perm Xs.flatten) : W.Perm (Xs ++ S.eraseIdx i).flatten := by
  rw [List.flatten_append]
  have h1 := er_pm S i B hi
  exact hp.trans (h1.flatten.trans (hB.append_right _))
/-- a group's segments as one; one alone as it is -/
def fl1 : List va_W → va_W
  | [x] => x
  | l => l.flatten
theorem fl1_e : ∀ l : List va_W, fl1 l = l.flatten
  | [] => rfl
  | [x] => by simp [fl1]
  | _ :: _ :: _ => rfl
theorem sg_gr {W : va_W} {G : List (List va_W)} (h : W.Perm G.flatten.flatten) : W.Perm (G.map fl1).flatten := by
  have : G.map fl1 = G.map List.flatten := List.map_congr_left (fun l _ => fl1_e l)
  rw [this, ← List.flatten_flatten]
  exact h
theorem sg_gr2 {W : va_W} {G : List (List va_W)} {S : List va_W} (hS : G.map fl1 = S) (h : W.Perm G.flatten.flatten) : W.Perm S.flatten := by
  rw [← hS]
  exact sg_gr h
