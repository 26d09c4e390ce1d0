/-! laws of a district as a tail of the world; a loop whose cells grow -/
def lawW (cy : Nat → ClassId) : Option (Nat × Nat × Nat × Nat × Nat × (Nat → Int32) × (Nat → Int32) × (Nat → Int32)) → va_W
  | none => []
  | some (a, b, c, d, n, f, g, h) => [(a, .inr (4, [.ref d, .ref b, .ref c])), (b, .inl (cy 0, 6, .inl g)), (c, .inl (cy 0, 32, .inl h)), (d, .inl (cy 0, n, .inl f))]
def lawV : Option (Nat × Nat × Nat × Nat × Nat × (Nat → Int32) × (Nat → Int32) × (Nat → Int32)) → Value
  | none => .null
  | some (a, _) => .ref a
def lawO : Option (Nat × Nat × Nat × Nat × Nat × (Nat → Int32) × (Nat → Int32) × (Nat → Int32)) → Prop
  | none => True
  | some (_, _, _, _, n, _) => n ≤ 900
def lwD (o : Option (Nat × Nat × Nat × Nat × Nat × (Nat → Int32) × (Nat → Int32) × (Nat → Int32))) : Option (Nat × (Nat → Int32)) := o.map (fun q => (q.2.2.2.2.1, q.2.2.2.2.2.1))
def lk (cy : Nat → ClassId) (v w : Value) (qH qF : Option (Nat × (Nat → Int32))) (pl : va_W) : Prop := ∃ oH oF, v = lawV oH ∧ w = lawV oF ∧ qH = lwD oH ∧ qF = lwD oF ∧ pl = lawW cy oH ++ lawW cy oF ∧ lawO oH ∧ lawO oF
theorem lk_0 {cy : Nat → ClassId} : lk cy .null .null none none [] := ⟨none, none, rfl, rfl, rfl, rfl, rfl, trivial, trivial⟩
theorem vP_sl {D : va_G} {H : Heap} {ws ws' : va_W} (h : va_P D vwCl ws H) (hs : List.Sublist ws' ws) : va_P D vwCl ws' H := fun k q hk => by
  have hm : q ∈ ws := hs.subset (List.mem_of_getElem? hk)
  obtain ⟨i, hi⟩ := List.getElem?_of_mem hm
  exact h i q hi
theorem vD_iff {A : Nat → Prop} {ws : va_W} : va_D A ws ↔ (ws.map Prod.fst).Nodup ∧ ∀ q ∈ ws, A q.1 := by
  constructor
  · intro h
    refine ⟨?_, fun q hq => ?_⟩
    · rw [List.nodup_iff_pairwise_ne, List.pairwise_iff_getElem]
      intro i j hi hj hij he
      have hi' : i < ws.length := by simpa using hi
      have hj' : j < ws.length := by simpa using hj
      rw [List.getElem_map, List.getElem_map] at he
      have := h.1 i j ws[i] ws[j] (List.getElem?_eq_getElem hi') (List.getElem?_eq_getElem hj') he
      omega
    · obtain ⟨i, hi⟩ := List.getElem?_of_mem hq
      exact h.2 i q hi
  · intro h
    refine ⟨fun i j p q hp hq he => ?_, fun k q hk => h.2 q (List.mem_of_getElem? hk)⟩
    obtain ⟨hi, hi2⟩ := List.getElem?_eq_some_iff.mp hp
    obtain ⟨hj, hj2⟩ := List.getElem?_eq_some_iff.mp hq
    rcases Nat.lt_trichotomy i j with hlt | rfl | hlt
    · have := (List.pairwise_iff_getElem.mp (List.nodup_iff_pairwise_ne.mp h.1)) i j (by simpa using hi) (by simpa using hj) hlt
      rw [List.getElem_map, List.getElem_map, hi2, hj2] at this
      exact absurd he this
    · rfl
    · have := (List.pairwise_iff_getElem.mp (List.nodup_iff_pairwise_ne.mp h.1)) j i (by simpa using hj) (by simpa using hi) hlt
      rw [List.getElem_map, List.getElem_map, hi2, hj2] at this
      exact absurd he.symm this
theorem vD_sl {A : Nat → Prop} {ws ws' : va_W} (h : va_D A ws) (hs : List.Sublist ws' ws) : va_D A ws' :=
  vD_iff.mpr ⟨((vD_iff.mp h).1).sublist (hs.map _), fun q hq => (vD_iff.mp h).2 q (hs.subset hq)⟩
theorem vP_pm {D : va_G} {H : Heap} {ws ws' : va_W} (h : va_P D vwCl ws H) (hs : ws.Perm ws') : va_P D vwCl ws' H := fun k q hk => by
  have hm : q ∈ ws := hs.mem_iff.mpr (List.mem_of_getElem? hk)
  obtain ⟨i, hi⟩ := List.getElem?_of_mem hm
  exact h i q hi
theorem vD_pm {A : Nat → Prop} {ws ws' : va_W} (h : va_D A ws) (hs : ws.Perm ws') : va_D A ws' :=
  vD_iff.mpr ⟨((hs.map Prod.fst).nodup_iff).mp (vD_iff.mp h).1, fun q hq => (vD_iff.mp h).2 q (hs.mem_iff.mpr hq)⟩
theorem lk_newH {D : va_G} {cy : Nat → ClassId} {A : Nat → Prop} {H : Heap} {X pl : va_W} {v w : Value} {qH qF : Option (Nat × (Nat → Int32))} {a b c d n : Nat} {f g h : Nat → Int32} (hk : lk cy v w qH qF pl) (hn : n ≤ 900)
    (hP : va_P D vwCl ((X ++ [(a, .inr (4, [.ref d, .ref b, .ref c])), (b, .inl (cy 0, 6, .inl g)), (c, .inl (cy 0, 32, .inl h)), (d, .inl (cy 0, n, .inl f))]) ++ pl) H)
    (hD : va_D A ((X ++ [(a, .inr (4, [.ref d, .ref b, .ref c])), (b, .inl (cy 0, 6, .inl g)), (c, .inl (cy 0, 32, .inl h)), (d, .inl (cy 0, n, .inl f))]) ++ pl)) :
    ∃ pl2 : va_W, lk cy (.ref a) w (some (n, f)) qF pl2 ∧ va_P D vwCl (X ++ pl2) H ∧ va_D A (X ++ pl2) := by
  obtain ⟨oH, oF, h1, h2, h5, h6, rfl, h3, h4⟩ := hk
  have hs : List.Sublist (X ++ (lawW cy (some (a, b, c, d, n, f, g, h)) ++ lawW cy oF)) ((X ++ lawW cy (some (a, b, c, d, n, f, g, h))) ++ (lawW cy oH ++ lawW cy oF)) := by
    rw [List.append_assoc]
    exact (List.Sublist.refl X).append ((List.Sublist.refl _).append (List.sublist_append_right _ _))
  exact ⟨_, ⟨some (a, b, c, d, n, f, g, h), oF, rfl, h2, rfl, h6, rfl, hn, h4⟩, vP_sl hP hs, vD_sl hD hs⟩
theorem lk_newF {D : va_G} {cy : Nat → ClassId} {A : Nat → Prop} {H : Heap} {X pl : va_W} {v w : Value} {qH qF : Option (Nat × (Nat → Int32))} {a b c d n : Nat} {f g h : Nat → Int32} (hk : lk cy v w qH qF pl) (hn : n ≤ 900)
    (hP : va_P D vwCl ((X ++ [(a, .inr (4, [.ref d, .ref b, .ref c])), (b, .inl (cy 0, 6, .inl g)), (c, .inl (cy 0, 32, .inl h)), (d, .inl (cy 0, n, .inl f))]) ++ pl) H)
    (hD : va_D A ((X ++ [(a, .inr (4, [.ref d, .ref b, .ref c])), (b, .inl (cy 0, 6, .inl g)), (c, .inl (cy 0, 32, .inl h)), (d, .inl (cy 0, n, .inl f))]) ++ pl)) :
    ∃ pl2 : va_W, lk cy v (.ref a) qH (some (n, f)) pl2 ∧ va_P D vwCl (X ++ pl2) H ∧ va_D A (X ++ pl2) := by
  obtain ⟨oH, oF, h1, h2, h5, h6, rfl, h3, h4⟩ := hk
  have hs : List.Sublist (X ++ (lawW cy (some (a, b, c, d, n, f, g, h)) ++ lawW cy oH)) ((X ++ lawW cy (some (a, b, c, d, n, f, g, h))) ++ (lawW cy oH ++ lawW cy oF)) := by
    rw [List.append_assoc]
    exact (List.Sublist.refl X).append ((List.Sublist.refl _).append (List.sublist_append_left _ _))
  have hp : (X ++ (lawW cy (some (a, b, c, d, n, f, g, h)) ++ lawW cy oH)).Perm (X ++ (lawW cy oH ++ lawW cy (some (a, b, c, d, n, f, g, h)))) := (List.Perm.refl X).append List.perm_append_comm
  exact ⟨_, ⟨oH, some (a, b, c, d, n, f, g, h), h1, rfl, h5, rfl, rfl, h3, hn⟩, vP_pm (vP_sl hP hs) hp, vD_pm (vD_sl hD hs) hp⟩
theorem mo_db {b x : Int32} {d : Int} (h : mo b d x) : db b x (-d) := by unfold mo at h; unfold db; omega
section LoopC
variable {p : Program} {l : Launch} {e : Env} {R : Room} {s : State} {m : MethodId} {args : Array Value} {below : List Frame} {meth : Method} {c : Code} {Q : State → Prop} {pc : Nat} {D : va_G} {A : Nat → Prop}
theorem loopC {τ : Type} {mL : Nat} {WS : τ → va_W} {LV : τ → List (Nat × Value)} (f : τ → Nat) (Inv : τ → Prop) (cf sf : τ → Nat)
    (step : ∀ (t : τ) (H : Heap) (locs : List Loc) (ls : Array Slot), Inv t →
      (∀ (u : τ) (H : Heap) (locs : List Loc) (ls : Array Slot), Inv u → f u < f t → va_P D vwCl (WS u) H → va_D A (WS u) → va_S A s.heap H locs → lv_has ls mL (LV u) → W p l e R s m args below meth c H locs (cf u) (sf u) Q (F0 m pc ls [])) →
      va_P D vwCl (WS t) H → va_D A (WS t) → va_S A s.heap H locs → lv_has ls mL (LV t) → W p l e R s m args below meth c H locs (cf t) (sf t) Q (F0 m pc ls []))
    (t : τ) {H : Heap} {locs : List Loc} {ls : Array Slot} (hI : Inv t) (hP : va_P D vwCl (WS t) H) (hD : va_D A (WS t)) (hS : va_S A s.heap H locs) (hl : lv_has ls mL (LV t)) : W p l e R s m args below meth c H locs (cf t) (sf t) Q (F0 m pc ls []) := by
  have key : ∀ (k : Nat) (t : τ) (H : Heap) (locs : List Loc) (ls : Array Slot), f t < k → Inv t → va_P D vwCl (WS t) H → va_D A (WS t) → va_S A s.heap H locs → lv_has ls mL (LV t) → W p l e R s m args below meth c H locs (cf t) (sf t) Q (F0 m pc ls []) := by
    intro k
    induction k with
    | zero => intro t H locs ls h; exact absurd h (Nat.not_lt_zero _)
    | succ k ih =>
      intro t H locs ls h hI hP hD hS hl
      exact step t H locs ls hI (fun u H locs ls hu hlt hP hD hS hl => ih u H locs ls (Nat.lt_of_lt_of_le hlt (Nat.le_of_lt_succ h)) hu hP hD hS hl) hP hD hS hl
  exact key (f t + 1) t H locs ls (Nat.lt_succ_self _) hI hP hD hS hl
end LoopC
