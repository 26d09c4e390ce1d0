/-! what both have in common: how long the tape is, which images stand, of trays the sort and how many -/
def RSM (S : CSt) (M : MSt) : Prop := S.1.1 = M.2.2.2.2.1 ∧ (∀ i : Nat, i < 3 → (S.2.2.2.1 i = none ↔ M.2.2.1 i = 0)) ∧ (∀ i : Nat, i < 4 → (S.2.2.2.2.1 i).1 = M.2.2.2.2.2.2.2.1 i ∧ (S.2.2.2.2.1 i).2.1 = M.2.2.2.2.2.2.2.2.1 i ∧ rg (-1) (3) ((S.2.2.2.2.1 i).1) ∧ rg (0) (30) ((S.2.2.2.2.1 i).2.1)) ∧ 0 ≤ S.1.1.toInt ∧ S.1.1.toInt ≤ 900
def sm3 (S Sn : CSt) : Prop := Sn.1.1 = S.1.1 ∧ Sn.2.2.2.1 = S.2.2.2.1 ∧ ∀ i : Nat, i < 4 → (Sn.2.2.2.2.1 i).1 = (S.2.2.2.2.1 i).1 ∧ (Sn.2.2.2.2.1 i).2.1 = (S.2.2.2.2.1 i).2.1
def sm3m (M Mn : MSt) : Prop := Mn.2.2.2.2.1 = M.2.2.2.2.1 ∧ Mn.2.2.1 = M.2.2.1 ∧ Mn.2.2.2.2.2.2.2.1 = M.2.2.2.2.2.2.2.1 ∧ Mn.2.2.2.2.2.2.2.2.1 = M.2.2.2.2.2.2.2.2.1
theorem sm3_rf {S : CSt} : sm3 S S := ⟨rfl, rfl, fun _ _ => ⟨rfl, rfl⟩⟩
theorem RSM_mv {S Sn : CSt} {M Mn : MSt} (hR : RSM S M) (h : sm3 S Sn) (q : sm3m M Mn) : RSM Sn Mn := by
  obtain ⟨h1, h2, h3, h4, h5⟩ := hR
  obtain ⟨a1, a2, a3⟩ := h
  obtain ⟨b1, b2, b3, b4⟩ := q
  refine ⟨by rw [a1, b1, h1], by rw [a2, b2]; exact h2, fun i hi => ?_, by rw [a1]; exact h4, by rw [a1]; exact h5⟩
  rw [(a3 i hi).1, (a3 i hi).2, b3, b4]
  exact h3 i hi
theorem up_so {f : Nat → TrT} {i : Nat} {t : TrT} {x : Nat → Int64} (ht : f i = t) : ∀ j : Nat, j < 4 → (va_up f i (t.1, t.2.1, x) j).1 = (f j).1 ∧ (va_up f i (t.1, t.2.1, x) j).2.1 = (f j).2.1 := by
  intro j _
  by_cases h : j = i
  · subst h
    rw [va_up_self, ht]
    exact ⟨rfl, rfl⟩
  · rw [va_up_ne _ _ h]
    exact ⟨rfl, rfl⟩
theorem fc_fault {S Sn : CSt} {w_ : Int32} {q : Int32} (h : CS_fault S w_ q Sn) : sm3 S Sn := by
  rcases h with ⟨_, rfl⟩ | h
  · exact ⟨rfl, rfl, fun _ _ => ⟨rfl, rfl⟩⟩
  · exact h.elim
theorem fm_fault {M Mn : MSt} {w_ : Int32} {q : Int32} {k : Int32} (h : MS_fault M w_ q k Mn) : sm3m M Mn := by
  rcases h with ⟨_, _, rfl⟩ | h
  · exact ⟨rfl, rfl, rfl, rfl⟩
  · exact h.elim
theorem sm_fault {S Sn : CSt} {M Mn : MSt} {w_ : Int32} {wM_ : Int32} {rc : Int32} {rr : Int32} {rk : Int32} (hR : RSM S M) (h : CS_fault S w_ rc Sn) (hm : MS_fault M wM_ rr rk Mn) : RSM Sn Mn := RSM_mv hR (fc_fault h) (fm_fault hm)
theorem fc_thing {S Sn : CSt} {t_ : Int32} {w_ : Int32} {q : Int32} (h : CS_thing S t_ w_ q Sn) : sm3 S Sn := by
  rcases h with ⟨_, _, _, rfl⟩ | h
  · exact ⟨rfl, rfl, fun _ _ => ⟨rfl, rfl⟩⟩
  · exact h.elim
theorem fm_thing {M Mn : MSt} {t_ : Int32} {w_ : Int32} {q : Int32} {k : Int32} (h : MS_thing M t_ w_ q k Mn) : sm3m M Mn := by
  rcases h with ⟨_, _, _, rfl⟩ | h
  · exact ⟨rfl, rfl, rfl, rfl⟩
  · exact h.elim
theorem sm_thing {S Sn : CSt} {M Mn : MSt} {t_ : Int32} {w_ : Int32} {tM_ : Int32} {wM_ : Int32} {rc rk : Int32} {o : Int64} {rr : Int32} (hR : RSM S M) (h : HS_thing S t_ w_ rc o Sn) (hm : MS_thing M tM_ wM_ rr rk Mn) : RSM Sn Mn := by
  rcases h with ⟨_, q, h, _⟩ | ⟨rfl, _⟩
  · exact RSM_mv hR (fc_thing h) (fm_thing hm)
  · exact RSM_mv hR sm3_rf (fm_thing hm)
theorem fc_walker {S Sn : CSt} {w_ : Int32} {v_ : Int32} {q : Int32} (h : CS_walker S w_ v_ q Sn) : sm3 S Sn := by
  rcases h with ⟨_, _, _, rfl⟩ | h
  · exact ⟨rfl, rfl, fun _ _ => ⟨rfl, rfl⟩⟩
  · exact h.elim
theorem fm_walker {M Mn : MSt} {w_ : Int32} {v_ : Int32} {q : Int32} {k : Int32} (h : MS_walker M w_ v_ q k Mn) : sm3m M Mn := by
  rcases h with ⟨_, _, _, rfl⟩ | h
  · exact ⟨rfl, rfl, rfl, rfl⟩
  · exact h.elim
theorem sm_walker {S Sn : CSt} {M Mn : MSt} {w_ : Int32} {v_ : Int32} {wM_ : Int32} {vM_ : Int32} {rc rk : Int32} {o : Int64} {rr : Int32} (hR : RSM S M) (h : HS_walker S w_ v_ rc o Sn) (hm : MS_walker M wM_ vM_ rr rk Mn) : RSM Sn Mn := by
  rcases h with ⟨_, q, h, _⟩ | ⟨rfl, _⟩
  · exact RSM_mv hR (fc_walker h) (fm_walker hm)
  · exact RSM_mv hR sm3_rf (fm_walker hm)
theorem fc_height {S Sn : CSt} {c_ : Int32} {q : Int32} (h : CS_height S c_ q Sn) : sm3 S Sn := by
  rcases h with ⟨_, _, _, rfl⟩ | h
  · exact ⟨rfl, rfl, fun _ _ => ⟨rfl, rfl⟩⟩
  · exact h.elim
theorem fm_height {M Mn : MSt} {c_ : Int32} {q : Int32} {k : Int32} (h : MS_height M c_ q k Mn) : sm3m M Mn := by
  rcases h with ⟨_, _, _, rfl⟩ | h
  · exact ⟨rfl, rfl, rfl, rfl⟩
  · exact h.elim
theorem sm_height {S Sn : CSt} {M Mn : MSt} {c_ : Int32} {cM_ : Int32} {rc rk : Int32} {o : Int64} {rr : Int32} (hR : RSM S M) (h : HS_height S c_ rc o Sn) (hm : MS_height M cM_ rr rk Mn) : RSM Sn Mn := by
  rcases h with ⟨_, q, h, _⟩ | ⟨rfl, _⟩
  · exact RSM_mv hR (fc_height h) (fm_height hm)
  · exact RSM_mv hR sm3_rf (fm_height hm)
theorem fc_at {S Sn : CSt} {c_ : Int32} {l_ : Int32} {q : Int32} (h : CS_at S c_ l_ q Sn) : sm3 S Sn := by
  rcases h with ⟨_, _, _, rfl⟩ | h
  · exact ⟨rfl, rfl, fun _ _ => ⟨rfl, rfl⟩⟩
  · exact h.elim
theorem fm_at {M Mn : MSt} {c_ : Int32} {l_ : Int32} {q : Int32} {k : Int32} (h : MS_at M c_ l_ q k Mn) : sm3m M Mn := by
  rcases h with ⟨_, _, _, rfl⟩ | h
  · exact ⟨rfl, rfl, rfl, rfl⟩
  · exact h.elim
theorem sm_at {S Sn : CSt} {M Mn : MSt} {c_ : Int32} {l_ : Int32} {cM_ : Int32} {lM_ : Int32} {rc rk : Int32} {o : Int64} {rr : Int32} (hR : RSM S M) (h : HS_at S c_ l_ rc o Sn) (hm : MS_at M cM_ lM_ rr rk Mn) : RSM Sn Mn := by
  rcases h with ⟨_, q, h, _⟩ | ⟨rfl, _⟩
  · exact RSM_mv hR (fc_at h) (fm_at hm)
  · exact RSM_mv hR sm3_rf (fm_at hm)
theorem fc_hanging {S Sn : CSt} {t_ : Int32} {c_ : Int32} {l_ : Int32} {h_ : Int32} {q : Int32} (h : CS_hanging S t_ c_ l_ h_ q Sn) : sm3 S Sn := by
  rcases h with ⟨_, _, _, _, rfl⟩ | ⟨_, _, _, _, _, _, _, _, _, _, rfl⟩ | h
  · exact ⟨rfl, rfl, fun _ _ => ⟨rfl, rfl⟩⟩
  · exact ⟨rfl, rfl, fun _ _ => ⟨rfl, rfl⟩⟩
  · exact h.elim
theorem fm_hanging {M Mn : MSt} {t_ : Int32} {c_ : Int32} {l_ : Int32} {h_ : Int32} {q : Int32} {k : Int32} (h : MS_hanging M t_ c_ l_ h_ q k Mn) : sm3m M Mn := by
  rcases h with ⟨_, _, _, _, _, _, _, rfl⟩ | h
  · exact ⟨rfl, rfl, rfl, rfl⟩
  · exact h.elim
theorem sm_hanging {S Sn : CSt} {M Mn : MSt} {t_ : Int32} {c_ : Int32} {l_ : Int32} {h_ : Int32} {tM_ : Int32} {cM_ : Int32} {lM_ : Int32} {hM_ : Int32} {rc rk : Int32} {o : Int64} {rr : Int32} (hR : RSM S M) (h : HS_hanging S t_ c_ l_ h_ rc o Sn) (hm : MS_hanging M tM_ cM_ lM_ hM_ rr rk Mn) : RSM Sn Mn := by
  rcases h with ⟨_, q, h, _⟩ | ⟨rfl, _⟩
  · exact RSM_mv hR (fc_hanging h) (fm_hanging hm)
  · exact RSM_mv hR sm3_rf (fm_hanging hm)
theorem fc_letGo {S Sn : CSt} {t_ : Int32} {c_ : Int32} {l_ : Int32} {q : Int32} (h : CS_letGo S t_ c_ l_ q Sn) : sm3 S Sn := by
  rcases h with ⟨_, _, _, _, _, _, _, _, _, _, _, _, _, _, _, _, _, _, _, rfl⟩ | ⟨_, _, _, _, _, _, _, _, _, _, _, _, _, _, _, _, _, _, _, _, _, _, _, _, _, rfl⟩ | ⟨_, _, _, _, _, _, _, _, _, _, _, _, _, _, _, _, _, _, _, _, _, _, _, _, _, rfl⟩ | ⟨_, _, _, _, _, _, _, _, _, _, _, _, _, _, _, _, _, _, _, _, _, _, _, _, _, _, _, _, _, _, _, rfl⟩ | h
  · exact ⟨rfl, rfl, fun _ _ => ⟨rfl, rfl⟩⟩
  · exact ⟨rfl, rfl, fun _ _ => ⟨rfl, rfl⟩⟩
  · exact ⟨rfl, rfl, fun _ _ => ⟨rfl, rfl⟩⟩
  · exact ⟨rfl, rfl, fun _ _ => ⟨rfl, rfl⟩⟩
  · exact h.elim
theorem fm_letGo {M Mn : MSt} {t_ : Int32} {c_ : Int32} {l_ : Int32} {q : Int32} {k : Int32} (h : MS_letGo M t_ c_ l_ q k Mn) : sm3m M Mn := by
  rcases h with ⟨_, _, _, _, _, _, _, _, _, _, _, rfl⟩ | h
  · exact ⟨rfl, rfl, rfl, rfl⟩
  · exact h.elim
theorem sm_letGo {S Sn : CSt} {M Mn : MSt} {t_ : Int32} {c_ : Int32} {l_ : Int32} {tM_ : Int32} {cM_ : Int32} {lM_ : Int32} {rc : Int32} {rr : Int32} {rk : Int32} (hR : RSM S M) (h : CS_letGo S t_ c_ l_ rc Sn) (hm : MS_letGo M tM_ cM_ lM_ rr rk Mn) : RSM Sn Mn := RSM_mv hR (fc_letGo h) (fm_letGo hm)
theorem fc_take {S Sn : CSt} {t_ : Int32} {q : Int32} (h : CS_take S t_ q Sn) : sm3 S Sn := by
  rcases h with ⟨_, _, _, _, _, _, _, _, _, _, _, _, _, rfl⟩ | h
  · exact ⟨rfl, rfl, fun _ _ => ⟨rfl, rfl⟩⟩
  · exact h.elim
theorem fm_take {M Mn : MSt} {t_ : Int32} {q : Int32} {k : Int32} (h : MS_take M t_ q k Mn) : sm3m M Mn := by
  rcases h with ⟨_, _, _, rfl⟩ | h
  · exact ⟨rfl, rfl, rfl, rfl⟩
  · exact h.elim
theorem sm_take {S Sn : CSt} {M Mn : MSt} {t_ : Int32} {tM_ : Int32} {rc : Int32} {rr : Int32} {rk : Int32} (hR : RSM S M) (h : CS_take S t_ rc Sn) (hm : MS_take M tM_ rr rk Mn) : RSM Sn Mn := RSM_mv hR (fc_take h) (fm_take hm)
theorem fc_quake {S Sn : CSt} {q : Int32} (h : CS_quake S q Sn) : sm3 S Sn := by
  rcases h with ⟨_, _, _, _, _, _, _, _, _, _, _, _, _, _, _, _, rfl⟩ | ⟨_, _, _, _, _, _, _, _, _, _, _, _, _, _, _, _, _, _, _, _, _, _, rfl⟩ | h
  · exact ⟨rfl, rfl, fun _ _ => ⟨rfl, rfl⟩⟩
  · exact ⟨rfl, rfl, fun _ _ => ⟨rfl, rfl⟩⟩
  · exact h.elim
theorem fm_quake {M Mn : MSt} {q : Int32} {k : Int32} (h : MS_quake M q k Mn) : sm3m M Mn := by
  rcases h with ⟨_, _, _, _, _, _, _, _, _, rfl⟩ | h
  · exact ⟨rfl, rfl, rfl, rfl⟩
  · exact h.elim
theorem sm_quake {S Sn : CSt} {M Mn : MSt} {rc : Int32} {rr : Int32} {rk : Int32} (hR : RSM S M) (h : CS_quake S rc Sn) (hm : MS_quake M rr rk Mn) : RSM Sn Mn := RSM_mv hR (fc_quake h) (fm_quake hm)
theorem fc_hours {S Sn : CSt} {n_ : Int32} {q : Int32} (h : CS_hours S n_ q Sn) : sm3 S Sn := by
  rcases h with ⟨_, _, _, _, _, _, _, _, _, _, _, _, _, _, _, _, _, rfl⟩ | ⟨_, _, _, _, _, _, _, _, _, _, _, _, _, _, _, _, _, _, _, _, _, _, _, rfl⟩ | h
  · exact ⟨rfl, rfl, fun _ _ => ⟨rfl, rfl⟩⟩
  · exact ⟨rfl, rfl, fun _ _ => ⟨rfl, rfl⟩⟩
  · exact h.elim
theorem fm_hours {M Mn : MSt} {n_ : Int32} {q : Int32} {k : Int32} (h : MS_hours M n_ q k Mn) : sm3m M Mn := by
  rcases h with ⟨_, _, _, _, _, _, _, _, _, _, _, _, rfl⟩ | h
  · exact ⟨rfl, rfl, rfl, rfl⟩
  · exact h.elim
theorem sm_hours {S Sn : CSt} {M Mn : MSt} {n_ : Int32} {nM_ : Int32} {rc rk : Int32} {o : Int64} {rr : Int32} (hR : RSM S M) (h : HS_hours S n_ rc o Sn) (hm : MS_hours M nM_ rr rk Mn) : RSM Sn Mn := by
  rcases h with ⟨_, q, h, _⟩ | ⟨rfl, _⟩
  · exact RSM_mv hR (fc_hours h) (fm_hours hm)
  · exact RSM_mv hR sm3_rf (fm_hours hm)
theorem fc_undo {S Sn : CSt} {n_ : Int32} {q : Int32} (h : CS_undo S n_ q Sn) : sm3 S Sn := by
  rcases h with ⟨_, _, _, _, _, _, _, _, _, _, _, _, rfl⟩ | h
  · exact ⟨rfl, rfl, fun _ _ => ⟨rfl, rfl⟩⟩
  · exact h.elim
theorem fm_undo {M Mn : MSt} {n_ : Int32} {q : Int32} {k : Int32} (h : MS_undo M n_ q k Mn) : sm3m M Mn := by
  rcases h with ⟨_, _, _, _, rfl⟩ | h
  · exact ⟨rfl, rfl, rfl, rfl⟩
  · exact h.elim
theorem sm_undo {S Sn : CSt} {M Mn : MSt} {n_ : Int32} {nM_ : Int32} {rc rk : Int32} {o : Int64} {rr : Int32} (hR : RSM S M) (h : HS_undo S n_ rc o Sn) (hm : MS_undo M nM_ rr rk Mn) : RSM Sn Mn := by
  rcases h with ⟨_, q, h, _⟩ | ⟨rfl, _⟩
  · exact RSM_mv hR (fc_undo h) (fm_undo hm)
  · exact RSM_mv hR sm3_rf (fm_undo hm)
theorem fc_judge {S Sn : CSt} {y_ : Int32} {w_ : Int32} {q : Int32} (h : CS_judge S y_ w_ q Sn) : sm3 S Sn := by
  rcases h with ⟨_, _, _, _, _, _, _, _, _, _, _, _, _, _, _, _, _, _, _, _, _, rfl⟩ | ⟨_, _, _, _, _, _, _, _, _, _, _, _, _, _, _, _, _, _, _, _, _, _, _, _, _, _, _, rfl⟩ | ⟨_, _, _, _, _, _, _, _, _, _, _, _, _, _, _, _, _, _, _, _, _, _, _, _, _, _, _, rfl⟩ | ⟨_, _, _, _, _, _, _, _, _, _, _, _, _, _, _, _, _, _, _, _, _, _, _, _, _, _, _, _, _, _, _, _, _, rfl⟩ | h
  · exact ⟨rfl, rfl, fun _ _ => ⟨rfl, rfl⟩⟩
  · exact ⟨rfl, rfl, fun _ _ => ⟨rfl, rfl⟩⟩
  · exact ⟨rfl, rfl, fun _ _ => ⟨rfl, rfl⟩⟩
  · exact ⟨rfl, rfl, fun _ _ => ⟨rfl, rfl⟩⟩
  · exact h.elim
theorem fm_judge {M Mn : MSt} {y_ : Int32} {w_ : Int32} {q : Int32} {k : Int32} (h : MS_judge M y_ w_ q k Mn) : sm3m M Mn := by
  rcases h with ⟨_, _, _, _, _, _, _, _, _, _, _, _, _, rfl⟩ | h
  · exact ⟨rfl, rfl, rfl, rfl⟩
  · exact h.elim
theorem sm_judge {S Sn : CSt} {M Mn : MSt} {y_ : Int32} {w_ : Int32} {yM_ : Int32} {wM_ : Int32} {rc rk : Int32} {o : Int64} {rr : Int32} (hR : RSM S M) (h : HS_judge S y_ w_ rc o Sn) (hm : MS_judge M yM_ wM_ rr rk Mn) : RSM Sn Mn := by
  rcases h with ⟨_, q, h, _⟩ | ⟨rfl, _⟩
  · exact RSM_mv hR (fc_judge h) (fm_judge hm)
  · exact RSM_mv hR sm3_rf (fm_judge hm)
theorem fc_falls {S Sn : CSt} {t_ : Int32} {q : Int32} (h : CS_falls S t_ q Sn) : sm3 S Sn := by
  rcases h with ⟨_, _, _, _, _, _, _, _, _, _, _, _, _, _, _, _, _, _, _, _, _, _, rfl⟩ | ⟨_, _, _, _, _, _, _, _, _, _, _, _, _, _, _, _, _, _, _, _, _, _, _, _, _, _, _, _, rfl⟩ | h
  · exact ⟨rfl, rfl, fun _ _ => ⟨rfl, rfl⟩⟩
  · exact ⟨rfl, rfl, fun _ _ => ⟨rfl, rfl⟩⟩
  · exact h.elim
theorem fm_falls {M Mn : MSt} {t_ : Int32} {q : Int32} {k : Int32} (h : MS_falls M t_ q k Mn) : sm3m M Mn := by
  rcases h with ⟨_, _, _, _, _, _, _, _, _, _, _, _, _, _, _, rfl⟩ | h
  · exact ⟨rfl, rfl, rfl, rfl⟩
  · exact h.elim
theorem sm_falls {S Sn : CSt} {M Mn : MSt} {t_ : Int32} {tM_ : Int32} {rc rk : Int32} {o : Int64} {rr : Int32} (hR : RSM S M) (h : HS_falls S t_ rc o Sn) (hm : MS_falls M tM_ rr rk Mn) : RSM Sn Mn := by
  rcases h with ⟨_, q, h, _⟩ | ⟨rfl, _⟩
  · exact RSM_mv hR (fc_falls h) (fm_falls hm)
  · exact RSM_mv hR sm3_rf (fm_falls hm)
theorem fc_lands {S Sn : CSt} {t_ : Int32} {q : Int32} (h : CS_lands S t_ q Sn) : sm3 S Sn := by
  rcases h with ⟨_, _, _, _, _, _, _, _, _, _, _, _, _, _, _, _, _, _, _, _, _, _, _, _, _, _, _, _, _, rfl⟩ | ⟨_, _, _, _, _, _, _, _, _, _, _, _, _, _, _, _, _, _, _, _, _, _, _, _, _, _, _, _, _, _, _, _, _, _, _, rfl⟩ | h
  · exact ⟨rfl, rfl, fun _ _ => ⟨rfl, rfl⟩⟩
  · exact ⟨rfl, rfl, fun _ _ => ⟨rfl, rfl⟩⟩
  · exact h.elim
theorem fm_lands {M Mn : MSt} {t_ : Int32} {q : Int32} {k : Int32} (h : MS_lands M t_ q k Mn) : sm3m M Mn := by
  rcases h with ⟨_, _, _, _, _, _, _, _, _, _, _, _, _, _, _, rfl⟩ | h
  · exact ⟨rfl, rfl, rfl, rfl⟩
  · exact h.elim
theorem sm_lands {S Sn : CSt} {M Mn : MSt} {t_ : Int32} {tM_ : Int32} {rc rk : Int32} {o : Int64} {rr : Int32} (hR : RSM S M) (h : HS_lands S t_ rc o Sn) (hm : MS_lands M tM_ rr rk Mn) : RSM Sn Mn := by
  rcases h with ⟨_, q, h, _⟩ | ⟨rfl, _⟩
  · exact RSM_mv hR (fc_lands h) (fm_lands hm)
  · exact RSM_mv hR sm3_rf (fm_lands hm)
theorem fc_fallIn {S Sn : CSt} {n_ : Int32} {q : Int32} (h : CS_fallIn S n_ q Sn) : sm3 S Sn := by
  rcases h with ⟨_, _, _, _, _, _, _, _, _, _, _, _, _, _, _, _, _, _, _, _, _, _, rfl⟩ | ⟨_, _, _, _, _, _, _, _, _, _, _, _, _, _, _, _, _, _, _, _, _, _, _, _, _, _, _, _, rfl⟩ | h
  · exact ⟨rfl, rfl, fun _ _ => ⟨rfl, rfl⟩⟩
  · exact ⟨rfl, rfl, fun _ _ => ⟨rfl, rfl⟩⟩
  · exact h.elim
theorem fm_fallIn {M Mn : MSt} {n_ : Int32} {q : Int32} {k : Int32} (h : MS_fallIn M n_ q k Mn) : sm3m M Mn := by
  rcases h with ⟨_, _, _, _, _, _, _, _, _, _, _, _, _, rfl⟩ | h
  · exact ⟨rfl, rfl, rfl, rfl⟩
  · exact h.elim
theorem sm_fallIn {S Sn : CSt} {M Mn : MSt} {n_ : Int32} {nM_ : Int32} {rc rk : Int32} {o : Int64} {rr : Int32} (hR : RSM S M) (h : HS_fallIn S n_ rc o Sn) (hm : MS_fallIn M nM_ rr rk Mn) : RSM Sn Mn := by
  rcases h with ⟨_, q, h, _⟩ | ⟨rfl, _⟩
  · exact RSM_mv hR (fc_fallIn h) (fm_fallIn hm)
  · exact RSM_mv hR sm3_rf (fm_fallIn hm)
theorem fc_next {S Sn : CSt} {q : Int32} (h : CS_next S q Sn) : sm3 S Sn := by
  rcases h with ⟨_, _, _, _, _, _, _, _, _, _, _, _, _, _, _, _, _, _, _, _, _, _, rfl⟩ | ⟨_, _, _, _, _, _, _, _, _, _, _, _, _, _, _, _, _, _, _, _, _, _, _, _, _, _, _, _, rfl⟩ | h
  · exact ⟨rfl, rfl, fun _ _ => ⟨rfl, rfl⟩⟩
  · exact ⟨rfl, rfl, fun _ _ => ⟨rfl, rfl⟩⟩
  · exact h.elim
theorem fm_next {M Mn : MSt} {q : Int32} {k : Int32} (h : MS_next M q k Mn) : sm3m M Mn := by
  rcases h with ⟨_, _, rfl⟩ | h
  · exact ⟨rfl, rfl, rfl, rfl⟩
  · exact h.elim
theorem sm_next {S Sn : CSt} {M Mn : MSt} {rc : Int32} {rr : Int32} {rk : Int32} (hR : RSM S M) (h : CS_next S rc Sn) (hm : MS_next M rr rk Mn) : RSM Sn Mn := RSM_mv hR (fc_next h) (fm_next hm)
theorem fc_busiest {S Sn : CSt} {q : Int32} (h : CS_busiest S q Sn) : sm3 S Sn := by
  rcases h with ⟨_, _, _, _, _, _, _, _, _, _, _, _, _, _, _, _, _, _, _, _, _, _, rfl⟩ | ⟨_, _, _, _, _, _, _, _, _, _, _, _, _, _, _, _, _, _, _, _, _, _, _, _, _, _, _, _, rfl⟩ | h
  · exact ⟨rfl, rfl, fun _ _ => ⟨rfl, rfl⟩⟩
  · exact ⟨rfl, rfl, fun _ _ => ⟨rfl, rfl⟩⟩
  · exact h.elim
theorem fm_busiest {M Mn : MSt} {q : Int32} {k : Int32} (h : MS_busiest M q k Mn) : sm3m M Mn := by
  rcases h with ⟨_, _, _, _, _, _, _, _, _, _, _, _, rfl⟩ | h
  · exact ⟨rfl, rfl, rfl, rfl⟩
  · exact h.elim
theorem sm_busiest {S Sn : CSt} {M Mn : MSt} {rc : Int32} {rr : Int32} {rk : Int32} (hR : RSM S M) (h : CS_busiest S rc Sn) (hm : MS_busiest M rr rk Mn) : RSM Sn Mn := RSM_mv hR (fc_busiest h) (fm_busiest hm)
theorem fc_frees {S Sn : CSt} {t_ : Int32} {q : Int32} (h : CS_frees S t_ q Sn) : sm3 S Sn := by
  rcases h with ⟨_, _, _, _, rfl⟩ | ⟨_, _, _, _, _, _, _, _, _, _, rfl⟩ | h
  · exact ⟨rfl, rfl, fun _ _ => ⟨rfl, rfl⟩⟩
  · exact ⟨rfl, rfl, fun _ _ => ⟨rfl, rfl⟩⟩
  · exact h.elim
theorem fm_frees {M Mn : MSt} {t_ : Int32} {q : Int32} {k : Int32} (h : MS_frees M t_ q k Mn) : sm3m M Mn := by
  rcases h with ⟨_, _, _, _, _, _, _, rfl⟩ | h
  · exact ⟨rfl, rfl, rfl, rfl⟩
  · exact h.elim
theorem sm_frees {S Sn : CSt} {M Mn : MSt} {t_ : Int32} {tM_ : Int32} {rc rk : Int32} {o : Int64} {rr : Int32} (hR : RSM S M) (h : HS_frees S t_ rc o Sn) (hm : MS_frees M tM_ rr rk Mn) : RSM Sn Mn := by
  rcases h with ⟨_, q, h, _⟩ | ⟨rfl, _⟩
  · exact RSM_mv hR (fc_frees h) (fm_frees hm)
  · exact RSM_mv hR sm3_rf (fm_frees hm)
theorem fc_heightIn {S Sn : CSt} {c_ : Int32} {n_ : Int32} {q : Int32} (h : CS_heightIn S c_ n_ q Sn) : sm3 S Sn := by
  rcases h with ⟨_, _, _, _, _, _, _, _, _, _, _, _, _, _, _, _, _, rfl⟩ | ⟨_, _, _, _, _, _, _, _, _, _, _, _, _, _, _, _, _, _, _, _, _, _, _, rfl⟩ | h
  · exact ⟨rfl, rfl, fun _ _ => ⟨rfl, rfl⟩⟩
  · exact ⟨rfl, rfl, fun _ _ => ⟨rfl, rfl⟩⟩
  · exact h.elim
theorem fm_heightIn {M Mn : MSt} {c_ : Int32} {n_ : Int32} {q : Int32} {k : Int32} (h : MS_heightIn M c_ n_ q k Mn) : sm3m M Mn := by
  rcases h with ⟨_, _, _, _, _, _, _, _, _, _, _, _, _, rfl⟩ | h
  · exact ⟨rfl, rfl, rfl, rfl⟩
  · exact h.elim
theorem sm_heightIn {S Sn : CSt} {M Mn : MSt} {c_ : Int32} {n_ : Int32} {cM_ : Int32} {nM_ : Int32} {rc rk : Int32} {o : Int64} {rr : Int32} (hR : RSM S M) (h : HS_heightIn S c_ n_ rc o Sn) (hm : MS_heightIn M cM_ nM_ rr rk Mn) : RSM Sn Mn := by
  rcases h with ⟨_, q, h, _⟩ | ⟨rfl, _⟩
  · exact RSM_mv hR (fc_heightIn h) (fm_heightIn hm)
  · exact RSM_mv hR sm3_rf (fm_heightIn hm)
theorem fc_hurtIn {S Sn : CSt} {w_ : Int32} {q : Int32} (h : CS_hurtIn S w_ q Sn) : sm3 S Sn := by
  rcases h with ⟨_, _, _, _, _, _, _, _, _, _, _, _, _, _, _, _, _, _, _, _, _, _, rfl⟩ | ⟨_, _, _, _, _, _, _, _, _, _, _, _, _, _, _, _, _, _, _, _, _, _, _, _, _, _, _, _, rfl⟩ | h
  · exact ⟨rfl, rfl, fun _ _ => ⟨rfl, rfl⟩⟩
  · exact ⟨rfl, rfl, fun _ _ => ⟨rfl, rfl⟩⟩
  · exact h.elim
theorem fm_hurtIn {M Mn : MSt} {w_ : Int32} {q : Int32} {k : Int32} (h : MS_hurtIn M w_ q k Mn) : sm3m M Mn := by
  rcases h with ⟨_, _, _, _, _, _, _, _, _, _, _, _, _, rfl⟩ | h
  · exact ⟨rfl, rfl, rfl, rfl⟩
  · exact h.elim
theorem sm_hurtIn {S Sn : CSt} {M Mn : MSt} {w_ : Int32} {wM_ : Int32} {rc rk : Int32} {o : Int64} {rr : Int32} (hR : RSM S M) (h : HS_hurtIn S w_ rc o Sn) (hm : MS_hurtIn M wM_ rr rk Mn) : RSM Sn Mn := by
  rcases h with ⟨_, q, h, _⟩ | ⟨rfl, _⟩
  · exact RSM_mv hR (fc_hurtIn h) (fm_hurtIn hm)
  · exact RSM_mv hR sm3_rf (fm_hurtIn hm)
theorem fc_hurts {S Sn : CSt} {w_ : Int32} {q : Int32} (h : CS_hurts S w_ q Sn) : sm3 S Sn := by
  rcases h with ⟨_, _, _, _, _, _, _, _, _, _, _, _, _, _, _, _, _, _, _, _, _, _, rfl⟩ | ⟨_, _, _, _, _, _, _, _, _, _, _, _, _, _, _, _, _, _, _, _, _, _, _, _, _, _, _, _, rfl⟩ | h
  · exact ⟨rfl, rfl, fun _ _ => ⟨rfl, rfl⟩⟩
  · exact ⟨rfl, rfl, fun _ _ => ⟨rfl, rfl⟩⟩
  · exact h.elim
theorem fm_hurts {M Mn : MSt} {w_ : Int32} {q : Int32} {k : Int32} (h : MS_hurts M w_ q k Mn) : sm3m M Mn := by
  rcases h with ⟨_, _, _, _, _, _, _, _, _, _, _, _, _, rfl⟩ | h
  · exact ⟨rfl, rfl, rfl, rfl⟩
  · exact h.elim
theorem sm_hurts {S Sn : CSt} {M Mn : MSt} {w_ : Int32} {wM_ : Int32} {rc rk : Int32} {o : Int64} {rr : Int32} (hR : RSM S M) (h : HS_hurts S w_ rc o Sn) (hm : MS_hurts M wM_ rr rk Mn) : RSM Sn Mn := by
  rcases h with ⟨_, q, h, _⟩ | ⟨rfl, _⟩
  · exact RSM_mv hR (fc_hurts h) (fm_hurts hm)
  · exact RSM_mv hR sm3_rf (fm_hurts hm)
theorem fc_spares {S Sn : CSt} {w_ : Int32} {c_ : Int32} {q : Int32} (h : CS_spares S w_ c_ q Sn) : sm3 S Sn := by
  rcases h with ⟨_, _, _, _, _, _, _, _, _, _, _, _, _, _, _, _, _, _, _, _, _, _, rfl⟩ | ⟨_, _, _, _, _, _, _, _, _, _, _, _, _, _, _, _, _, _, _, _, _, _, _, _, _, _, _, _, rfl⟩ | h
  · exact ⟨rfl, rfl, fun _ _ => ⟨rfl, rfl⟩⟩
  · exact ⟨rfl, rfl, fun _ _ => ⟨rfl, rfl⟩⟩
  · exact h.elim
theorem fm_spares {M Mn : MSt} {w_ : Int32} {c_ : Int32} {q : Int32} {k : Int32} (h : MS_spares M w_ c_ q k Mn) : sm3m M Mn := by
  rcases h with ⟨_, _, _, _, _, _, _, _, _, _, _, _, _, rfl⟩ | h
  · exact ⟨rfl, rfl, rfl, rfl⟩
  · exact h.elim
theorem sm_spares {S Sn : CSt} {M Mn : MSt} {w_ : Int32} {c_ : Int32} {wM_ : Int32} {cM_ : Int32} {rc rk : Int32} {o : Int64} {rr : Int32} (hR : RSM S M) (h : HS_spares S w_ c_ rc o Sn) (hm : MS_spares M wM_ cM_ rr rk Mn) : RSM Sn Mn := by
  rcases h with ⟨_, q, h, _⟩ | ⟨rfl, _⟩
  · exact RSM_mv hR (fc_spares h) (fm_spares hm)
  · exact RSM_mv hR sm3_rf (fm_spares hm)
theorem fc_fallsBy {S Sn : CSt} {t_ : Int32} {c_ : Int32} {l_ : Int32} {w_ : Int32} {q : Int32} (h : CS_fallsBy S t_ c_ l_ w_ q Sn) : sm3 S Sn := by
  rcases h with ⟨_, _, _, _, _, _, _, _, _, _, _, _, _, _, _, _, _, _, rfl⟩ | ⟨_, _, _, _, _, _, _, _, _, _, _, _, _, _, _, _, _, _, _, _, _, _, _, _, rfl⟩ | ⟨_, _, _, _, _, _, _, _, _, _, _, _, _, _, _, _, _, _, _, _, _, _, _, _, rfl⟩ | ⟨_, _, _, _, _, _, _, _, _, _, _, _, _, _, _, _, _, _, _, _, _, _, _, _, _, _, _, _, _, _, rfl⟩ | h
  · exact ⟨rfl, rfl, fun _ _ => ⟨rfl, rfl⟩⟩
  · exact ⟨rfl, rfl, fun _ _ => ⟨rfl, rfl⟩⟩
  · exact ⟨rfl, rfl, fun _ _ => ⟨rfl, rfl⟩⟩
  · exact ⟨rfl, rfl, fun _ _ => ⟨rfl, rfl⟩⟩
  · exact h.elim
theorem fm_fallsBy {M Mn : MSt} {t_ : Int32} {c_ : Int32} {l_ : Int32} {w_ : Int32} {q : Int32} {k : Int32} (h : MS_fallsBy M t_ c_ l_ w_ q k Mn) : sm3m M Mn := by
  rcases h with ⟨_, _, _, _, _, _, _, _, _, _, _, _, _, _, _, _, _, rfl⟩ | h
  · exact ⟨rfl, rfl, rfl, rfl⟩
  · exact h.elim
theorem sm_fallsBy {S Sn : CSt} {M Mn : MSt} {t_ : Int32} {c_ : Int32} {l_ : Int32} {w_ : Int32} {tM_ : Int32} {cM_ : Int32} {lM_ : Int32} {wM_ : Int32} {rc rk : Int32} {o : Int64} {rr : Int32} (hR : RSM S M) (h : HS_fallsBy S t_ c_ l_ w_ rc o Sn) (hm : MS_fallsBy M tM_ cM_ lM_ wM_ rr rk Mn) : RSM Sn Mn := by
  rcases h with ⟨_, q, h, _⟩ | ⟨rfl, _⟩
  · exact RSM_mv hR (fc_fallsBy h) (fm_fallsBy hm)
  · exact RSM_mv hR sm3_rf (fm_fallsBy hm)
theorem fc_waitFor {S Sn : CSt} {t_ : Int32} {c_ : Int32} {l_ : Int32} {n_ : Int32} {q : Int32} (h : CS_waitFor S t_ c_ l_ n_ q Sn) : sm3 S Sn := by
  rcases h with ⟨_, _, _, _, _, _, _, _, _, _, _, _, _, _, _, _, _, _, _, _, _, _, rfl⟩ | ⟨_, _, _, _, _, _, _, _, _, _, _, _, _, _, _, _, _, _, _, _, _, _, _, _, _, _, _, _, rfl⟩ | ⟨_, _, _, _, _, _, _, _, _, _, _, _, _, _, _, _, _, _, _, _, _, _, _, _, _, _, _, _, rfl⟩ | ⟨_, _, _, _, _, _, _, _, _, _, _, _, _, _, _, _, _, _, _, _, _, _, _, _, _, _, _, _, _, _, _, _, _, _, rfl⟩ | h
  · exact ⟨rfl, rfl, fun _ _ => ⟨rfl, rfl⟩⟩
  · exact ⟨rfl, rfl, fun _ _ => ⟨rfl, rfl⟩⟩
  · exact ⟨rfl, rfl, fun _ _ => ⟨rfl, rfl⟩⟩
  · exact ⟨rfl, rfl, fun _ _ => ⟨rfl, rfl⟩⟩
  · exact h.elim
theorem fm_waitFor {M Mn : MSt} {t_ : Int32} {c_ : Int32} {l_ : Int32} {n_ : Int32} {q : Int32} {k : Int32} (h : MS_waitFor M t_ c_ l_ n_ q k Mn) : sm3m M Mn := by
  rcases h with ⟨_, _, _, _, _, _, _, _, _, _, _, _, _, _, _, _, _, rfl⟩ | h
  · exact ⟨rfl, rfl, rfl, rfl⟩
  · exact h.elim
theorem sm_waitFor {S Sn : CSt} {M Mn : MSt} {t_ : Int32} {c_ : Int32} {l_ : Int32} {n_ : Int32} {tM_ : Int32} {cM_ : Int32} {lM_ : Int32} {nM_ : Int32} {rc rk : Int32} {o : Int64} {rr : Int32} (hR : RSM S M) (h : HS_waitFor S t_ c_ l_ n_ rc o Sn) (hm : MS_waitFor M tM_ cM_ lM_ nM_ rr rk Mn) : RSM Sn Mn := by
  rcases h with ⟨_, q, h, _⟩ | ⟨rfl, _⟩
  · exact RSM_mv hR (fc_waitFor h) (fm_waitFor hm)
  · exact RSM_mv hR sm3_rf (fm_waitFor hm)
theorem fc_waitSafe {S Sn : CSt} {t_ : Int32} {c_ : Int32} {l_ : Int32} {q : Int32} (h : CS_waitSafe S t_ c_ l_ q Sn) : sm3 S Sn := by
  rcases h with ⟨_, _, _, _, _, _, _, _, _, _, _, _, _, _, _, _, _, _, _, _, _, _, rfl⟩ | ⟨_, _, _, _, _, _, _, _, _, _, _, _, _, _, _, _, _, _, _, _, _, _, _, _, _, _, _, _, rfl⟩ | ⟨_, _, _, _, _, _, _, _, _, _, _, _, _, _, _, _, _, _, _, _, _, _, _, _, _, _, _, _, rfl⟩ | ⟨_, _, _, _, _, _, _, _, _, _, _, _, _, _, _, _, _, _, _, _, _, _, _, _, _, _, _, _, _, _, _, _, _, _, rfl⟩ | h
  · exact ⟨rfl, rfl, fun _ _ => ⟨rfl, rfl⟩⟩
  · exact ⟨rfl, rfl, fun _ _ => ⟨rfl, rfl⟩⟩
  · exact ⟨rfl, rfl, fun _ _ => ⟨rfl, rfl⟩⟩
  · exact ⟨rfl, rfl, fun _ _ => ⟨rfl, rfl⟩⟩
  · exact h.elim
theorem fm_waitSafe {M Mn : MSt} {t_ : Int32} {c_ : Int32} {l_ : Int32} {q : Int32} {k : Int32} (h : MS_waitSafe M t_ c_ l_ q k Mn) : sm3m M Mn := by
  rcases h with ⟨_, _, _, _, _, _, _, _, _, _, _, _, _, _, _, _, _, rfl⟩ | h
  · exact ⟨rfl, rfl, rfl, rfl⟩
  · exact h.elim
theorem sm_waitSafe {S Sn : CSt} {M Mn : MSt} {t_ : Int32} {c_ : Int32} {l_ : Int32} {tM_ : Int32} {cM_ : Int32} {lM_ : Int32} {rc rk : Int32} {o : Int64} {rr : Int32} (hR : RSM S M) (h : HS_waitSafe S t_ c_ l_ rc o Sn) (hm : MS_waitSafe M tM_ cM_ lM_ rr rk Mn) : RSM Sn Mn := by
  rcases h with ⟨_, q, h, _⟩ | ⟨rfl, _⟩
  · exact RSM_mv hR (fc_waitSafe h) (fm_waitSafe hm)
  · exact RSM_mv hR sm3_rf (fm_waitSafe hm)
theorem fc_waitHurt {S Sn : CSt} {t_ : Int32} {c_ : Int32} {l_ : Int32} {w_ : Int32} {q : Int32} (h : CS_waitHurt S t_ c_ l_ w_ q Sn) : sm3 S Sn := by
  rcases h with ⟨_, _, _, _, _, _, _, _, _, _, _, _, _, _, _, _, _, _, _, _, _, _, rfl⟩ | ⟨_, _, _, _, _, _, _, _, _, _, _, _, _, _, _, _, _, _, _, _, _, _, _, _, _, _, _, _, rfl⟩ | ⟨_, _, _, _, _, _, _, _, _, _, _, _, _, _, _, _, _, _, _, _, _, _, _, _, _, _, _, _, rfl⟩ | ⟨_, _, _, _, _, _, _, _, _, _, _, _, _, _, _, _, _, _, _, _, _, _, _, _, _, _, _, _, _, _, _, _, _, _, rfl⟩ | h
  · exact ⟨rfl, rfl, fun _ _ => ⟨rfl, rfl⟩⟩
  · exact ⟨rfl, rfl, fun _ _ => ⟨rfl, rfl⟩⟩
  · exact ⟨rfl, rfl, fun _ _ => ⟨rfl, rfl⟩⟩
  · exact ⟨rfl, rfl, fun _ _ => ⟨rfl, rfl⟩⟩
  · exact h.elim
theorem fm_waitHurt {M Mn : MSt} {t_ : Int32} {c_ : Int32} {l_ : Int32} {w_ : Int32} {q : Int32} {k : Int32} (h : MS_waitHurt M t_ c_ l_ w_ q k Mn) : sm3m M Mn := by
  rcases h with ⟨_, _, _, _, _, _, _, _, _, _, _, _, _, _, _, _, _, rfl⟩ | h
  · exact ⟨rfl, rfl, rfl, rfl⟩
  · exact h.elim
theorem sm_waitHurt {S Sn : CSt} {M Mn : MSt} {t_ : Int32} {c_ : Int32} {l_ : Int32} {w_ : Int32} {tM_ : Int32} {cM_ : Int32} {lM_ : Int32} {wM_ : Int32} {rc rk : Int32} {o : Int64} {rr : Int32} (hR : RSM S M) (h : HS_waitHurt S t_ c_ l_ w_ rc o Sn) (hm : MS_waitHurt M tM_ cM_ lM_ wM_ rr rk Mn) : RSM Sn Mn := by
  rcases h with ⟨_, q, h, _⟩ | ⟨rfl, _⟩
  · exact RSM_mv hR (fc_waitHurt h) (fm_waitHurt hm)
  · exact RSM_mv hR sm3_rf (fm_waitHurt hm)
theorem fc_place {S Sn : CSt} {t_ : Int32} {b_ : Int32} {q : Int32} (h : CS_place S t_ b_ q Sn) : sm3 S Sn := by
  rcases h with ⟨_, _, _, _, _, _, _, _, _, _, _, _, _, _, _, _, _, _, _, _, _, _, rfl⟩ | ⟨_, _, _, _, _, _, _, _, _, _, _, _, _, _, _, _, _, _, _, _, _, _, _, _, _, _, _, _, rfl⟩ | ⟨_, _, _, _, _, _, _, _, _, _, _, _, _, _, _, _, _, _, _, _, _, _, _, _, _, _, _, _, rfl⟩ | ⟨_, _, _, _, _, _, _, _, _, _, _, _, _, _, _, _, _, _, _, _, _, _, _, _, _, _, _, _, _, _, _, _, _, _, rfl⟩ | h
  · exact ⟨rfl, rfl, fun _ _ => ⟨rfl, rfl⟩⟩
  · exact ⟨rfl, rfl, fun _ _ => ⟨rfl, rfl⟩⟩
  · exact ⟨rfl, rfl, fun _ _ => ⟨rfl, rfl⟩⟩
  · exact ⟨rfl, rfl, fun _ _ => ⟨rfl, rfl⟩⟩
  · exact h.elim
theorem fm_place {M Mn : MSt} {t_ : Int32} {late_ : Int32} {q : Int32} {k : Int32} (h : MS_place M t_ late_ q k Mn) : sm3m M Mn := by
  rcases h with ⟨_, _, _, _, _, _, _, _, _, _, _, _, _, _, _, _, _, rfl⟩ | h
  · exact ⟨rfl, rfl, rfl, rfl⟩
  · exact h.elim
theorem sm_place {S Sn : CSt} {M Mn : MSt} {t_ : Int32} {b_ : Int32} {tM_ : Int32} {lateM_ : Int32} {rc rk : Int32} {o : Int64} {rr : Int32} (hR : RSM S M) (h : HS_place S t_ b_ rc o Sn) (hm : MS_place M tM_ lateM_ rr rk Mn) : RSM Sn Mn := by
  rcases h with ⟨_, q, h, _⟩ | ⟨rfl, _⟩
  · exact RSM_mv hR (fc_place h) (fm_place hm)
  · exact RSM_mv hR sm3_rf (fm_place hm)
theorem fc_worst {S Sn : CSt} {t_ : Int32} {w_ : Int32} {q : Int32} (h : CS_worst S t_ w_ q Sn) : sm3 S Sn := by
  rcases h with ⟨_, _, _, _, _, _, _, _, _, _, _, _, _, _, _, _, _, _, _, _, _, _, rfl⟩ | ⟨_, _, _, _, _, _, _, _, _, _, _, _, _, _, _, _, _, _, _, _, _, _, _, _, _, _, _, _, rfl⟩ | ⟨_, _, _, _, _, _, _, _, _, _, _, _, _, _, _, _, _, _, _, _, _, _, _, _, _, _, _, _, rfl⟩ | ⟨_, _, _, _, _, _, _, _, _, _, _, _, _, _, _, _, _, _, _, _, _, _, _, _, _, _, _, _, _, _, _, _, _, _, rfl⟩ | h
  · exact ⟨rfl, rfl, fun _ _ => ⟨rfl, rfl⟩⟩
  · exact ⟨rfl, rfl, fun _ _ => ⟨rfl, rfl⟩⟩
  · exact ⟨rfl, rfl, fun _ _ => ⟨rfl, rfl⟩⟩
  · exact ⟨rfl, rfl, fun _ _ => ⟨rfl, rfl⟩⟩
  · exact h.elim
theorem fm_worst {M Mn : MSt} {t_ : Int32} {w_ : Int32} {q : Int32} {k : Int32} (h : MS_worst M t_ w_ q k Mn) : sm3m M Mn := by
  rcases h with ⟨_, _, _, _, _, _, _, _, _, _, _, _, _, _, _, _, _, rfl⟩ | h
  · exact ⟨rfl, rfl, rfl, rfl⟩
  · exact h.elim
theorem sm_worst {S Sn : CSt} {M Mn : MSt} {t_ : Int32} {w_ : Int32} {tM_ : Int32} {wM_ : Int32} {rc rk : Int32} {o : Int64} {rr : Int32} (hR : RSM S M) (h : HS_worst S t_ w_ rc o Sn) (hm : MS_worst M tM_ wM_ rr rk Mn) : RSM Sn Mn := by
  rcases h with ⟨_, q, h, _⟩ | ⟨rfl, _⟩
  · exact RSM_mv hR (fc_worst h) (fm_worst hm)
  · exact RSM_mv hR sm3_rf (fm_worst hm)
theorem fc_both {S Sn : CSt} {t_ : Int32} {u_ : Int32} {c_ : Int32} {d_ : Int32} {l_ : Int32} {w_ : Int32} {q : Int32} (h : CS_both S t_ u_ c_ d_ l_ w_ q Sn) : sm3 S Sn := by
  rcases h with ⟨_, _, _, _, _, _, _, _, _, _, _, _, _, _, _, _, _, _, _, _, _, _, _, _, rfl⟩ | ⟨_, _, _, _, _, _, _, _, _, _, _, _, _, _, _, _, _, _, _, _, _, _, _, _, _, _, _, _, _, _, rfl⟩ | ⟨_, _, _, _, _, _, _, _, _, _, _, _, _, _, _, _, _, _, _, _, _, _, _, _, _, _, _, _, _, _, rfl⟩ | ⟨_, _, _, _, _, _, _, _, _, _, _, _, _, _, _, _, _, _, _, _, _, _, _, _, _, _, _, _, _, _, _, _, _, _, _, _, rfl⟩ | h
  · exact ⟨rfl, rfl, fun _ _ => ⟨rfl, rfl⟩⟩
  · exact ⟨rfl, rfl, fun _ _ => ⟨rfl, rfl⟩⟩
  · exact ⟨rfl, rfl, fun _ _ => ⟨rfl, rfl⟩⟩
  · exact ⟨rfl, rfl, fun _ _ => ⟨rfl, rfl⟩⟩
  · exact h.elim
theorem fm_both {M Mn : MSt} {t_ : Int32} {u_ : Int32} {c_ : Int32} {d_ : Int32} {l_ : Int32} {w_ : Int32} {q : Int32} {k : Int32} (h : MS_both M t_ u_ c_ d_ l_ w_ q k Mn) : sm3m M Mn := by
  rcases h with ⟨_, _, _, _, _, _, _, _, _, _, _, _, _, _, _, _, _, _, _, rfl⟩ | h
  · exact ⟨rfl, rfl, rfl, rfl⟩
  · exact h.elim
theorem sm_both {S Sn : CSt} {M Mn : MSt} {t_ : Int32} {u_ : Int32} {c_ : Int32} {d_ : Int32} {l_ : Int32} {w_ : Int32} {tM_ : Int32} {uM_ : Int32} {cM_ : Int32} {dM_ : Int32} {lM_ : Int32} {wM_ : Int32} {rc rk : Int32} {o : Int64} {rr : Int32} (hR : RSM S M) (h : HS_both S t_ u_ c_ d_ l_ w_ rc o Sn) (hm : MS_both M tM_ uM_ cM_ dM_ lM_ wM_ rr rk Mn) : RSM Sn Mn := by
  rcases h with ⟨_, q, h, _⟩ | ⟨rfl, _⟩
  · exact RSM_mv hR (fc_both h) (fm_both hm)
  · exact RSM_mv hR sm3_rf (fm_both hm)
theorem fc_safeWay {S Sn : CSt} {f_ : Int32} {t_ : Int32} {w_ : Int32} {q : Int32} (h : CS_safeWay S f_ t_ w_ q Sn) : sm3 S Sn := by
  rcases h with ⟨_, _, _, _, _, _, _, _, _, _, _, _, _, _, _, _, _, _, _, _, _, _, _, _, _, _, _, _, _, rfl⟩ | ⟨_, _, _, _, _, _, _, _, _, _, _, _, _, _, _, _, _, _, _, _, _, _, _, _, _, _, _, _, _, _, _, _, _, _, _, rfl⟩ | h
  · exact ⟨rfl, rfl, fun _ _ => ⟨rfl, rfl⟩⟩
  · exact ⟨rfl, rfl, fun _ _ => ⟨rfl, rfl⟩⟩
  · exact h.elim
theorem fm_safeWay {M Mn : MSt} {from_ : Int32} {to_ : Int32} {w_ : Int32} {q : Int32} {k : Int32} (h : MS_safeWay M from_ to_ w_ q k Mn) : sm3m M Mn := by
  rcases h with ⟨_, _, _, _, _, _, _, _, _, _, _, _, _, _, _, _, _, _, _, _, _, rfl⟩ | h
  · exact ⟨rfl, rfl, rfl, rfl⟩
  · exact h.elim
theorem sm_safeWay {S Sn : CSt} {M Mn : MSt} {f_ : Int32} {t_ : Int32} {w_ : Int32} {fromM_ : Int32} {toM_ : Int32} {wM_ : Int32} {rc rk : Int32} {o : Int64} {rr : Int32} (hR : RSM S M) (h : HS_safeWay S f_ t_ w_ rc o Sn) (hm : MS_safeWay M fromM_ toM_ wM_ rr rk Mn) : RSM Sn Mn := by
  rcases h with ⟨_, q, h, _⟩ | ⟨rfl, _⟩
  · exact RSM_mv hR (fc_safeWay h) (fm_safeWay hm)
  · exact RSM_mv hR sm3_rf (fm_safeWay hm)
theorem fc_safeWays {S Sn : CSt} {f_ : Int32} {t_ : Int32} {n_ : Int32} {q : Int64} (h : CS_safeWays S f_ t_ n_ q Sn) : sm3 S Sn := by
  rcases h with ⟨_, _, _, _, _, _, _, _, _, _, _, _, _, _, _, _, _, _, _, _, _, _, _, _, _, _, _, _, _, _, _, rfl⟩ | ⟨_, _, _, _, _, _, _, _, _, _, _, _, _, _, _, _, _, _, _, _, _, _, _, _, _, _, _, _, _, _, _, _, _, _, _, _, _, rfl⟩ | h
  · exact ⟨rfl, rfl, fun _ _ => ⟨rfl, rfl⟩⟩
  · exact ⟨rfl, rfl, fun _ _ => ⟨rfl, rfl⟩⟩
  · exact h.elim
theorem fm_safeWays {M Mn : MSt} {from_ : Int32} {to_ : Int32} {n_ : Int32} {q : Int64} {k : Int32} (h : MS_safeWays M from_ to_ n_ q k Mn) : sm3m M Mn := by
  rcases h with ⟨_, _, _, _, _, _, _, _, _, _, _, _, _, _, _, _, _, _, _, rfl⟩ | h
  · exact ⟨rfl, rfl, rfl, rfl⟩
  · exact h.elim
theorem sm_safeWays {S Sn : CSt} {M Mn : MSt} {f_ : Int32} {t_ : Int32} {n_ : Int32} {fromM_ : Int32} {toM_ : Int32} {nM_ : Int32} {rc rk : Int32} {o : Int64} {rr : Int64} (hR : RSM S M) (h : HS_safeWays S f_ t_ n_ rc o Sn) (hm : MS_safeWays M fromM_ toM_ nM_ rr rk Mn) : RSM Sn Mn := by
  rcases h with ⟨_, q, h, _⟩ | ⟨rfl, _⟩
  · exact RSM_mv hR (fc_safeWays h) (fm_safeWays hm)
  · exact RSM_mv hR sm3_rf (fm_safeWays hm)
theorem fc_safeIn {S Sn : CSt} {f_ : Int32} {n_ : Int32} {q : Int32} (h : CS_safeIn S f_ n_ q Sn) : sm3 S Sn := by
  rcases h with ⟨_, _, _, _, _, _, _, _, _, _, _, _, _, _, _, _, _, _, _, _, _, _, _, _, _, _, _, rfl⟩ | ⟨_, _, _, _, _, _, _, _, _, _, _, _, _, _, _, _, _, _, _, _, _, _, _, _, _, _, _, _, _, _, _, _, _, rfl⟩ | h
  · exact ⟨rfl, rfl, fun _ _ => ⟨rfl, rfl⟩⟩
  · exact ⟨rfl, rfl, fun _ _ => ⟨rfl, rfl⟩⟩
  · exact h.elim
theorem fm_safeIn {M Mn : MSt} {from_ : Int32} {n_ : Int32} {q : Int32} {k : Int32} (h : MS_safeIn M from_ n_ q k Mn) : sm3m M Mn := by
  rcases h with ⟨_, _, _, _, _, _, _, _, _, _, _, _, _, _, _, _, _, rfl⟩ | h
  · exact ⟨rfl, rfl, rfl, rfl⟩
  · exact h.elim
theorem sm_safeIn {S Sn : CSt} {M Mn : MSt} {f_ : Int32} {n_ : Int32} {fromM_ : Int32} {nM_ : Int32} {rc rk : Int32} {o : Int64} {rr : Int32} (hR : RSM S M) (h : HS_safeIn S f_ n_ rc o Sn) (hm : MS_safeIn M fromM_ nM_ rr rk Mn) : RSM Sn Mn := by
  rcases h with ⟨_, q, h, _⟩ | ⟨rfl, _⟩
  · exact RSM_mv hR (fc_safeIn h) (fm_safeIn hm)
  · exact RSM_mv hR sm3_rf (fm_safeIn hm)
theorem fc_shelter {S Sn : CSt} {q : Int32} (h : CS_shelter S q Sn) : sm3 S Sn := by
  rcases h with ⟨_, _, _, _, _, _, _, _, _, _, _, _, _, _, _, _, _, _, _, _, _, _, rfl⟩ | ⟨_, _, _, _, _, _, _, _, _, _, _, _, _, _, _, _, _, _, _, _, _, _, _, _, _, _, _, _, rfl⟩ | h
  · exact ⟨rfl, rfl, fun _ _ => ⟨rfl, rfl⟩⟩
  · exact ⟨rfl, rfl, fun _ _ => ⟨rfl, rfl⟩⟩
  · exact h.elim
theorem fm_shelter {M Mn : MSt} {q : Int32} {k : Int32} (h : MS_shelter M q k Mn) : sm3m M Mn := by
  rcases h with ⟨_, _, _, _, _, _, _, _, _, _, _, _, _, _, rfl⟩ | h
  · exact ⟨rfl, rfl, rfl, rfl⟩
  · exact h.elim
theorem sm_shelter {S Sn : CSt} {M Mn : MSt} {rc : Int32} {rr : Int32} {rk : Int32} (hR : RSM S M) (h : CS_shelter S rc Sn) (hm : MS_shelter M rr rk Mn) : RSM Sn Mn := RSM_mv hR (fc_shelter h) (fm_shelter hm)
theorem fc_later {S Sn : CSt} {w_ : Int32} {n_ : Int32} {q : Int32} (h : CS_later S w_ n_ q Sn) : sm3 S Sn := by
  rcases h with ⟨_, _, _, _, _, _, _, _, _, _, _, _, _, _, _, _, _, _, _, _, _, _, rfl⟩ | ⟨_, _, _, _, _, _, _, _, _, _, _, _, _, _, _, _, _, _, _, _, _, _, _, _, _, _, _, _, rfl⟩ | h
  · exact ⟨rfl, rfl, fun _ _ => ⟨rfl, rfl⟩⟩
  · exact ⟨rfl, rfl, fun _ _ => ⟨rfl, rfl⟩⟩
  · exact h.elim
theorem fm_later {M Mn : MSt} {w_ : Int32} {n_ : Int32} {q : Int32} {k : Int32} (h : MS_later M w_ n_ q k Mn) : sm3m M Mn := by
  rcases h with ⟨_, _, _, _, _, _, _, _, _, _, _, _, _, rfl⟩ | h
  · exact ⟨rfl, rfl, rfl, rfl⟩
  · exact h.elim
theorem sm_later {S Sn : CSt} {M Mn : MSt} {w_ : Int32} {n_ : Int32} {wM_ : Int32} {nM_ : Int32} {rc rk : Int32} {o : Int64} {rr : Int32} (hR : RSM S M) (h : HS_later S w_ n_ rc o Sn) (hm : MS_later M wM_ nM_ rr rk Mn) : RSM Sn Mn := by
  rcases h with ⟨_, q, h, _⟩ | ⟨rfl, _⟩
  · exact RSM_mv hR (fc_later h) (fm_later hm)
  · exact RSM_mv hR sm3_rf (fm_later hm)
theorem fc_letGoBy {S Sn : CSt} {c_ : Int32} {l_ : Int32} {w_ : Int32} {q : Int32} (h : CS_letGoBy S c_ l_ w_ q Sn) : sm3 S Sn := by
  rcases h with ⟨_, _, _, _, rfl⟩ | ⟨_, _, _, _, _, _, _, _, _, _, rfl⟩ | h
  · exact ⟨rfl, rfl, fun _ _ => ⟨rfl, rfl⟩⟩
  · exact ⟨rfl, rfl, fun _ _ => ⟨rfl, rfl⟩⟩
  · exact h.elim
theorem fm_letGoBy {M Mn : MSt} {a_ : Int32} {b_ : Int32} {c_ : Int32} {q : Int32} {k : Int32} (h : MS_letGoBy M a_ b_ c_ q k Mn) : sm3m M Mn := by
  rcases h with ⟨_, _, _, _, _, _, _, _, _, rfl⟩ | h
  · exact ⟨rfl, rfl, rfl, rfl⟩
  · exact h.elim
theorem sm_letGoBy {S Sn : CSt} {M Mn : MSt} {c_ : Int32} {l_ : Int32} {w_ : Int32} {aM_ : Int32} {bM_ : Int32} {cM_ : Int32} {rc rk : Int32} {o : Int64} {rr : Int32} (hR : RSM S M) (h : HS_letGoBy S c_ l_ w_ rc o Sn) (hm : MS_letGoBy M aM_ bM_ cM_ rr rk Mn) : RSM Sn Mn := by
  rcases h with ⟨_, q, h, _⟩ | ⟨rfl, _⟩
  · exact RSM_mv hR (fc_letGoBy h) (fm_letGoBy hm)
  · exact RSM_mv hR sm3_rf (fm_letGoBy hm)
theorem fc_letGoAt {S Sn : CSt} {c_ : Int32} {l_ : Int32} {w_ : Int32} {k_ : Int32} {q : Int32} (h : CS_letGoAt S c_ l_ w_ k_ q Sn) : sm3 S Sn := by
  rcases h with ⟨_, _, _, _, rfl⟩ | ⟨_, _, _, _, _, _, _, _, _, _, rfl⟩ | h
  · exact ⟨rfl, rfl, fun _ _ => ⟨rfl, rfl⟩⟩
  · exact ⟨rfl, rfl, fun _ _ => ⟨rfl, rfl⟩⟩
  · exact h.elim
theorem fm_letGoAt {M Mn : MSt} {a_ : Int32} {b_ : Int32} {c_ : Int32} {d_ : Int32} {q : Int32} {k : Int32} (h : MS_letGoAt M a_ b_ c_ d_ q k Mn) : sm3m M Mn := by
  rcases h with ⟨_, _, _, _, _, _, _, _, _, rfl⟩ | h
  · exact ⟨rfl, rfl, rfl, rfl⟩
  · exact h.elim
theorem sm_letGoAt {S Sn : CSt} {M Mn : MSt} {c_ : Int32} {l_ : Int32} {w_ : Int32} {k_ : Int32} {aM_ : Int32} {bM_ : Int32} {cM_ : Int32} {dM_ : Int32} {rc rk : Int32} {o : Int64} {rr : Int32} (hR : RSM S M) (h : HS_letGoAt S c_ l_ w_ k_ rc o Sn) (hm : MS_letGoAt M aM_ bM_ cM_ dM_ rr rk Mn) : RSM Sn Mn := by
  rcases h with ⟨_, q, h, _⟩ | ⟨rfl, _⟩
  · exact RSM_mv hR (fc_letGoAt h) (fm_letGoAt hm)
  · exact RSM_mv hR sm3_rf (fm_letGoAt hm)
theorem fc_levels {S Sn : CSt} {c_ : Int32} {w_ : Int32} {a_ : Int32} {h_ : Int32} {q : Int32} (h : CS_levels S c_ w_ a_ h_ q Sn) : sm3 S Sn := by
  rcases h with ⟨_, _, _, _, rfl⟩ | ⟨_, _, _, _, _, _, _, _, _, _, rfl⟩ | h
  · exact ⟨rfl, rfl, fun _ _ => ⟨rfl, rfl⟩⟩
  · exact ⟨rfl, rfl, fun _ _ => ⟨rfl, rfl⟩⟩
  · exact h.elim
theorem fm_levels {M Mn : MSt} {a_ : Int32} {b_ : Int32} {c_ : Int32} {d_ : Int32} {q : Int32} {k : Int32} (h : MS_levels M a_ b_ c_ d_ q k Mn) : sm3m M Mn := by
  rcases h with ⟨_, _, _, _, _, _, _, rfl⟩ | h
  · exact ⟨rfl, rfl, rfl, rfl⟩
  · exact h.elim
theorem sm_levels {S Sn : CSt} {M Mn : MSt} {c_ : Int32} {w_ : Int32} {a_ : Int32} {h_ : Int32} {aM_ : Int32} {bM_ : Int32} {cM_ : Int32} {dM_ : Int32} {rc rk : Int32} {o : Int64} {rr : Int32} (hR : RSM S M) (h : HS_levels S c_ w_ a_ h_ rc o Sn) (hm : MS_levels M aM_ bM_ cM_ dM_ rr rk Mn) : RSM Sn Mn := by
  rcases h with ⟨_, q, h, _⟩ | ⟨rfl, _⟩
  · exact RSM_mv hR (fc_levels h) (fm_levels hm)
  · exact RSM_mv hR sm3_rf (fm_levels hm)
theorem fm_write {M Mn : MSt} {t_ : Int32} {p_ : Int32} {v_ : Int64} {q : Int64} {k : Int32} (h : MS_write M t_ p_ v_ q k Mn) : sm3m M Mn := by
  rcases h with ⟨_, _, _, _, rfl⟩ | h
  · exact ⟨rfl, rfl, rfl, rfl⟩
  · exact h.elim
theorem fc_write {S Sn : CSt} {y_ : Int32} {p_ : Int32} {v_ : Int64} {q : Int64} (h : CS_write S y_ p_ v_ q Sn) : sm3 S Sn := by
  rcases h with ⟨_, _, ht, _, _, rfl⟩ | h
  · exact ⟨rfl, rfl, up_so ht⟩
  · exact h.elim
theorem sm_write {S Sn : CSt} {M Mn : MSt} {y_ : Int32} {p_ : Int32} {v_ : Int64} {tM_ : Int32} {pM_ : Int32} {vM_ : Int64} {rc rk : Int32} {o : Int64} {rr : Int64} (hR : RSM S M) (h : HS_write S y_ p_ v_ rc o Sn) (hm : MS_write M tM_ pM_ vM_ rr rk Mn) : RSM Sn Mn := by
  rcases h with ⟨_, q, h, _⟩ | ⟨rfl, _⟩
  · exact RSM_mv hR (fc_write h) (fm_write hm)
  · exact RSM_mv hR sm3_rf (fm_write hm)
theorem fm_copy {M Mn : MSt} {y_ : Int32} {q : Int32} {k : Int32} (h : MS_copy M y_ q k Mn) : sm3m M Mn := by
  rcases h with ⟨_, _, _, _, _, _, _, _, _, _, _, _, _, _, _, _, rfl⟩ | h
  · exact ⟨rfl, rfl, rfl, rfl⟩
  · exact h.elim
theorem fc_copy {S Sn : CSt} {y_ : Int32} {q : Int32} (h : CS_copy S y_ q Sn) : sm3 S Sn := by
  rcases h with ⟨_, _, _, _, _, _, _, _, _, _, _, _, _, _, _, _, _, _, _, _, _, _, _, ht, _, _, rfl⟩ | ⟨_, _, _, _, _, _, _, _, _, _, _, _, _, _, _, _, _, _, _, _, _, _, _, _, _, _, _, _, _, ht, _, _, rfl⟩ | h
  · exact ⟨rfl, rfl, up_so ht⟩
  · exact ⟨rfl, rfl, up_so ht⟩
  · exact h.elim
theorem sm_copy {S Sn : CSt} {M Mn : MSt} {y_ : Int32} {yM_ : Int32} {rc rk : Int32} {o : Int64} {rr : Int32} (hR : RSM S M) (h : HS_copy S y_ rc o Sn) (hm : MS_copy M yM_ rr rk Mn) : RSM Sn Mn := by
  rcases h with ⟨_, q, h, _⟩ | ⟨rfl, _⟩
  · exact RSM_mv hR (fc_copy h) (fm_copy hm)
  · exact RSM_mv hR sm3_rf (fm_copy hm)
theorem fc_count {S Sn : CSt} {w_ : Int32} {q : Int32} (h : CS_count S w_ q Sn) : sm3 S Sn := by
  rcases h with ⟨_, _, _, rfl⟩ | h
  · exact ⟨rfl, rfl, fun _ _ => ⟨rfl, rfl⟩⟩
  · exact h.elim
theorem fm_count {M Mn : MSt} {w_ : Int32} {q : Int32} {k : Int32} (h : MS_count M w_ q k Mn) : sm3m M Mn := by
  rcases h with ⟨_, _, rfl⟩ | h
  · exact ⟨rfl, rfl, rfl, rfl⟩
  · exact h.elim
theorem sm_count {S Sn : CSt} {M Mn : MSt} {w_ : Int32} {wM_ : Int32} {rc : Int32} {rr : Int32} {rk : Int32} (hR : RSM S M) (h : CS_count S w_ rc Sn) (hm : MS_count M wM_ rr rk Mn) : RSM Sn Mn := RSM_mv hR (fc_count h) (fm_count hm)
theorem It_ind {α : Type} {B : α → α → Prop} {P : α → Prop} {a : α} (h0 : P a) (hs : ∀ b c, P b → B b c → P c) : ∀ {b : α}, Itr B a b → P b := by
  intro b h
  obtain ⟨n, hn⟩ := h
  induction n generalizing b with
  | zero => exact (show a = b from hn) ▸ h0
  | succ n ih =>
    obtain ⟨c, h1, h2⟩ := hn
    exact hs c b (ih h1) h2
theorem wi1 {x r : Int32} (h : R_X11_within_w_e1 x.toInt64 (0 : Int64) r) : x.toInt < 0 := by
  rcases h with ⟨h, _⟩ | h
  · have e1 := Int32.toInt_toInt64 x
    have e0 : (0 : Int64).toInt = 0 := by decide
    have := Int64.lt_iff_toInt_lt.mp ((lg_cmp_lt _ _).mp h)
    omega
  · exact h.elim
theorem wi2 {x r : Int32} {b : Int64} (h : R_X11_within_w_e2 x.toInt64 (0 : Int64) b r) : b.toInt < x.toInt := by
  rcases h with ⟨_, h, _⟩ | h
  · have e1 := Int32.toInt_toInt64 x
    have := Int64.lt_iff_toInt_lt.mp ((lg_cmp_gt _ _).mp h)
    omega
  · exact h.elim
theorem wi3 {x r : Int32} {b : Int64} (h : R_X11_within_w_e3 x.toInt64 (0 : Int64) b r) : 0 ≤ x.toInt ∧ x.toInt ≤ b.toInt := by
  rcases h with ⟨h1, h2, _⟩ | h
  · have e1 := Int32.toInt_toInt64 x
    have e0 : (0 : Int64).toInt = 0 := by decide
    have a1 : ¬ x.toInt64.toInt < (0 : Int64).toInt := fun h => h1 ((lg_cmp_lt _ _).mpr (Int64.lt_iff_toInt_lt.mpr h))
    have a2 : ¬ b.toInt < x.toInt64.toInt := fun h => h2 ((lg_cmp_gt _ _).mpr (Int64.lt_iff_toInt_lt.mpr h))
    omega
  · exact h.elim
/-! feed -/
theorem pb4 {t b x : Int32} {f g : Nat → Int32} (h : R_X10_putBytes_e t f b x g) (h0 : 0 ≤ t.toInt) (h1 : t.toInt ≤ 896) : x.toInt = t.toInt + 4 := by
  have e1 : (t + 1).toInt = t.toInt + 1 := inc32 t (by omega)
  have e2 : (t + 1 + 1).toInt = t.toInt + 2 := by rw [inc32 (t + 1) (by omega)]; omega
  have e3 : (t + 1 + 1 + 1).toInt = t.toInt + 3 := by rw [inc32 (t + 1 + 1) (by omega)]; omega
  have e4 : (t + 1 + 1 + 1 + 1).toInt = t.toInt + 4 := by rw [inc32 (t + 1 + 1 + 1) (by omega)]; omega
  have e9 : (900 : Int32).toInt = 900 := by decide
  rcases h with ⟨c, _⟩ | ⟨_, c, _⟩ | ⟨_, _, c, _⟩ | ⟨_, _, _, c, _⟩ | ⟨_, _, _, _, rfl, _⟩ | h
  · rw [fa_le] at c; omega
  · rw [fa_le] at c; omega
  · rw [fa_le] at c; omega
  · rw [fa_le] at c; omega
  · exact e4
  · exact h.elim
def feA (t x r : Int32) : Prop := (t.toInt + 20 ≤ 900 ∧ x.toInt = t.toInt + 20 ∧ r = x) ∨ (¬ t.toInt + 20 ≤ 900 ∧ x = t ∧ r = -1)
theorem le20 {t : Int32} (h0 : 0 ≤ t.toInt) (h1 : t.toInt ≤ 900) : t + 20 ≤ 900 ↔ t.toInt + 20 ≤ 900 := by
  have e2 : (20 : Int32).toInt = 20 := by decide
  have e9 : (900 : Int32).toInt = 900 := by decide
  rw [fa_le, add32 _ _ (by omega) (by omega), e2, e9]
theorem feC {t a b c d e x r : Int32} {f g : Nat → Int32} (h : R_X10_feed_e t f a b c d e x g r) (h0 : 0 ≤ t.toInt) (h1 : t.toInt ≤ 900) : feA t x r := by
  rcases h with ⟨v1, g1, v2, g2, v3, g3, v4, g4, v5, g5, c, p1, p2, p3, p4, p5, rfl, _, rfl⟩ | ⟨c, rfl, _, rfl⟩ | h
  · rw [le20 h0 h1] at c
    have q1 := pb4 p1 h0 (by omega)
    have q2 := pb4 p2 (by omega) (by omega)
    have q3 := pb4 p3 (by omega) (by omega)
    have q4 := pb4 p4 (by omega) (by omega)
    have q5 := pb4 p5 (by omega) (by omega)
    exact Or.inl ⟨c, by omega, rfl⟩
  · rw [le20 h0 h1] at c
    exact Or.inr ⟨c, rfl, rfl⟩
  · exact h.elim
theorem feM {t a b c d e x r : Int32} {f g : Nat → Int32} (h : R_X11_feed_e t e d c b a f x g r) (h0 : 0 ≤ t.toInt) (h1 : t.toInt ≤ 900) : feA t x r := by
  rcases h with ⟨k, v, g1, c, hi, c2, rfl, _, rfl⟩ | ⟨c, rfl, _, rfl⟩ | h
  · rw [le20 h0 h1] at c
    have key := It_ind (P := fun u : Int32 × Int32 × (Nat → Int32) => 0 ≤ u.1.toInt ∧ u.1.toInt ≤ 20 ∧ u.2.1.toInt = t.toInt + u.1.toInt) (by exact ⟨show (0 : Int) ≤ (0 : Int32).toInt by decide, show (0 : Int32).toInt ≤ 20 by decide, by have e0 : (0 : Int32).toInt = 0 := (by decide); show t.toInt = t.toInt + (0 : Int32).toInt; omega⟩) (fun u w hu hw => by
      obtain ⟨u1, u2, u3⟩ := hu
      have e2 : (20 : Int32).toInt = 20 := by decide
      rcases hw with ⟨_, c3, _, rfl⟩ | hw
      · rw [fa_le] at c3
        have a1 : (u.1 + 1).toInt = u.1.toInt + 1 := inc32 _ (by omega)
        have a2 : (u.2.1 + 1).toInt = u.2.1.toInt + 1 := inc32 _ (by omega)
        exact ⟨by show 0 ≤ (u.1 + 1).toInt; omega, by show (u.1 + 1).toInt ≤ 20; omega, by show (u.2.1 + 1).toInt = t.toInt + (u.1 + 1).toInt; omega⟩
      · exact hw.elim) hi
    obtain ⟨k1, k2, k3⟩ := key
    have e2 : (20 : Int32).toInt = 20 := by decide
    rw [fa_le] at c2
    have k2' : k.toInt ≤ 20 := k2
    have k3' : r.toInt = t.toInt + k.toInt := k3
    exact Or.inl ⟨c, by omega, rfl⟩
  · rw [le20 h0 h1] at c
    exact Or.inr ⟨c, rfl, rfl⟩
  · exact h.elim
theorem feE {t x r x2 r2 : Int32} (h : feA t x r) (q : feA t x2 r2) : x = x2 ∧ r = r2 := by
  rcases h with ⟨h1, h2, rfl⟩ | ⟨h1, rfl, rfl⟩
  · rcases q with ⟨q1, q2, rfl⟩ | ⟨q1, _⟩
    · have : r = r2 := Int32.toInt_inj.mp (by omega)
      exact ⟨this, this⟩
    · exact absurd h1 q1
  · rcases q with ⟨q1, _⟩ | ⟨q1, rfl, rfl⟩
    · exact absurd q1 h1
    · exact ⟨rfl, rfl⟩
theorem ft_feed {S Sn : CSt} {M Mn : MSt} {a_ b_ c_ d_ e_ rc rr rk : Int32} (hR : RSM S M) (h : CS_feed S a_ b_ c_ d_ e_ rc Sn) (hm : MS_feed M a_ b_ c_ d_ e_ rr rk Mn) : RSM Sn Mn ∧ rc = rr := by
  obtain ⟨h1, h2, h3, h4, h5⟩ := hR
  rcases h with ⟨x, g, hf, rfl⟩ | h
  · rcases hm with ⟨x2, g2, hf2, rfl, rfl⟩ | hm
    · rw [← h1] at hf2
      have q := feC hf h4 h5
      obtain ⟨rfl, rfl⟩ := feE q (feM hf2 h4 h5)
      refine ⟨⟨rfl, h2, h3, ?_, ?_⟩, rfl⟩
      · show 0 ≤ x.toInt
        rcases q with ⟨_, q, _⟩ | ⟨_, rfl, _⟩ <;> omega
      · show x.toInt ≤ 900
        rcases q with ⟨_, q, _⟩ | ⟨_, rfl, _⟩ <;> omega
    · exact hm.elim
  · exact h.elim
theorem sc_feed {S Sn : CSt} {M Mn : MSt} {a_ b_ c_ d_ e_ rc rr rk : Int32} (hR : RSM S M) (h : CS_feed S a_ b_ c_ d_ e_ rc Sn) (hm : MS_feed M a_ b_ c_ d_ e_ rr rk Mn) : rc = rr := (ft_feed hR h hm).2
theorem sm_feed {S Sn : CSt} {M Mn : MSt} {a_ b_ c_ d_ e_ rc rr rk : Int32} (hR : RSM S M) (h : CS_feed S a_ b_ c_ d_ e_ rc Sn) (hm : MS_feed M a_ b_ c_ d_ e_ rr rk Mn) : RSM Sn Mn := (ft_feed hR h hm).1
/-! images -/
theorem ni_e {i : Int32} (h : R_X10_needImage_e i) : 0 ≤ i.toInt ∧ i.toInt ≤ 2 := by
  rcases h with ⟨h1, h2⟩ | h
  · rw [fa_lt] at h1 h2
    have e0 : (0 : Int32).toInt = 0 := by decide
    have e3 : (3 : Int32).toInt = 3 := by decide
    omega
  · exact h.elim
theorem ni_x {i : Int32} (h : R_X10_needImage_x2 i) : ¬ (0 ≤ i.toInt ∧ i.toInt ≤ 2) := by
  have e0 : (0 : Int32).toInt = 0 := by decide
  have e3 : (3 : Int32).toInt = 3 := by decide
  rcases h with (h | ⟨_, h⟩ | h) | h
  · rw [fa_lt] at h; omega
  · rw [fa_lt] at h; omega
  · exact h.elim
  · exact h.elim
theorem nx_lo {i : Int32} (h : rg (-2147483648) (-1) i) : ¬ (0 ≤ i.toInt ∧ i.toInt ≤ 2) := by unfold rg at h; omega
theorem nx_hi {i : Int32} (h : rg (3) (2147483647) i) : ¬ (0 ≤ i.toInt ∧ i.toInt ≤ 2) := by unfold rg at h; omega
/-- what the class does with an image's number -/
theorem hs_image {S Sn : CSt} {i rc : Int32} (h : HS_image S i rc Sn) : (rc = 0 ∧ (0 ≤ i.toInt ∧ i.toInt ≤ 2) ∧ Sn.1 = S.1 ∧ Sn.2.2.2.2.1 = S.2.2.2.2.1 ∧ ∃ v, Sn.2.2.2.1 = va_up S.2.2.2.1 i.toNatClampNeg (some v)) ∨ (rc = 1 ∧ ¬ (0 ≤ i.toInt ∧ i.toInt ≤ 2) ∧ Sn = S) := by
  rcases h with ⟨rfl, h⟩ | ⟨rfl, ⟨h, rfl⟩ | h⟩
  · rcases h with ⟨_, _, _, _, _, _, hr, _, rfl⟩ | ⟨_, _, _, _, _, _, _, _, _, _, _, _, hr, _, rfl⟩ | h
    · exact Or.inl ⟨rfl, ⟨hr.1, hr.2⟩, rfl, rfl, _, rfl⟩
    · exact Or.inl ⟨rfl, ⟨hr.1, hr.2⟩, rfl, rfl, _, rfl⟩
    · exact h.elim
  · rcases h with ⟨hr, hx, _⟩ | ⟨hr, hx, _⟩ | ⟨_, hr, hx, _⟩ | ⟨_, _, hr, hx, _⟩ | h
    · exact Or.inr ⟨rfl, nx_lo hr, rfl⟩
    · exact Or.inr ⟨rfl, nx_hi hr, rfl⟩
    · exact absurd (And.intro hr.1 hr.2) (ni_x (hx.elim id False.elim))
    · exact absurd (And.intro hr.1 hr.2) (ni_x (hx.elim id False.elim))
    · exact h.elim
  · exact h.elim
theorem ms_image {M Mn : MSt} {i k : Int32} (h : MS_image M i k Mn) : (k = 1 ∧ ¬ (0 ≤ i.toInt ∧ i.toInt ≤ 2) ∧ Mn = M) ∨ (k = 0 ∧ (0 ≤ i.toInt ∧ i.toInt ≤ 2) ∧ Mn.2.2.2.2.1 = M.2.2.2.2.1 ∧ Mn.2.2.1 = upd M.2.2.1 i.toNatClampNeg 1 ∧ Mn.2.2.2.2.2.2.2.1 = M.2.2.2.2.2.2.2.1 ∧ Mn.2.2.2.2.2.2.2.2.1 = M.2.2.2.2.2.2.2.2.1) := by
  have e2 : (2 : Int64).toInt = 2 := by decide
  rcases h with ⟨hx, rfl, rfl⟩ | ⟨_, _, hx, rfl, rfl⟩ | h
  · refine Or.inl ⟨rfl, fun hb => ?_, rfl⟩
    rcases hx with ⟨v, hx⟩ | ⟨v, hx⟩ | hx
    · have := wi1 hx; omega
    · have := wi2 hx; omega
    · exact hx
  · rcases hx with ⟨_, _, _, hw, _, _, _, h1⟩ | hx
    · have := wi3 hw
      refine Or.inr ⟨rfl, by omega, rfl, ?_, rfl, rfl⟩
      exact h1.trans (by rw [show vp_nar .boolean (1 : Int32) = 1 from rfl])
    · exact hx.elim
  · exact h.elim
theorem RSM_im {S Sn : CSt} {M Mn : MSt} {i : Int32} {v : ScT × HiT} (hR : RSM S M) (hi : 0 ≤ i.toInt ∧ i.toInt ≤ 2) (h1 : Sn.1 = S.1) (h2 : Sn.2.2.2.2.1 = S.2.2.2.2.1) (h3 : Sn.2.2.2.1 = va_up S.2.2.2.1 i.toNatClampNeg (some v)) (m1 : Mn.2.2.2.2.1 = M.2.2.2.2.1) (m2 : Mn.2.2.1 = upd M.2.2.1 i.toNatClampNeg 1) (m3 : Mn.2.2.2.2.2.2.2.1 = M.2.2.2.2.2.2.2.1) (m4 : Mn.2.2.2.2.2.2.2.2.1 = M.2.2.2.2.2.2.2.2.1) : RSM Sn Mn := by
  obtain ⟨a1, a2, a3, a4, a5⟩ := hR
  refine ⟨by rw [h1, m1]; exact a1, fun j hj => ?_, fun j hj => by rw [h2, m3, m4]; exact a3 j hj, by rw [h1]; exact a4, by rw [h1]; exact a5⟩
  rw [h3, m2]
  by_cases hji : j = i.toNatClampNeg
  · subst hji
    rw [va_up_self]
    unfold upd
    rw [if_pos rfl]
    exact ⟨fun q => by simp at q, fun q => absurd q (by decide)⟩
  · rw [va_up_ne _ _ hji]
    unfold upd
    rw [if_neg hji]
    exact a2 j hj
theorem sm_image {S Sn : CSt} {M Mn : MSt} {i rc rk : Int32} (hR : RSM S M) (h : HS_image S i rc Sn) (hm : MS_image M i rk Mn) : RSM Sn Mn := by
  rcases hs_image h with ⟨rfl, hi, h1, h2, v, h3⟩ | ⟨rfl, hi, rfl⟩
  · rcases ms_image hm with ⟨rfl, hn, rfl⟩ | ⟨rfl, _, m1, m2, m3, m4⟩
    · exact absurd hi hn
    · exact RSM_im hR hi h1 h2 h3 m1 m2 m3 m4
  · rcases ms_image hm with ⟨rfl, hn, rfl⟩ | ⟨rfl, hn, _⟩
    · exact hR
    · exact absurd hn hi
theorem sc_image {S Sn : CSt} {M Mn : MSt} {i rc rk : Int32} (hR : RSM S M) (h : HS_image S i rc Sn) (hm : MS_image M i rk Mn) : rc = rk := by
  rcases hs_image h with ⟨rfl, hi, _⟩ | ⟨rfl, hi, _⟩
  · rcases ms_image hm with ⟨rfl, hn, _⟩ | ⟨rfl, _⟩
    · exact absurd hi hn
    · rfl
  · rcases ms_image hm with ⟨rfl, hn, _⟩ | ⟨rfl, hn, _⟩
    · rfl
    · exact absurd hn hi
theorem hs_restore {S Sn : CSt} {i rc : Int32} (h : HS_restore S i rc Sn) : (rc = 0 ∧ (0 ≤ i.toInt ∧ i.toInt ≤ 2) ∧ Sn.1 = S.1 ∧ Sn.2.2.2.2.1 = S.2.2.2.2.1 ∧ Sn.2.2.2.1 = S.2.2.2.1 ∧ S.2.2.2.1 i.toNatClampNeg ≠ none) ∨ (rc = 1 ∧ ¬ (0 ≤ i.toInt ∧ i.toInt ≤ 2) ∧ Sn = S) ∨ (rc = 2 ∧ (0 ≤ i.toInt ∧ i.toInt ≤ 2) ∧ S.2.2.2.1 i.toNatClampNeg = none ∧ Sn = S) := by
  rcases h with ⟨rfl, h⟩ | ⟨rfl, h⟩
  · rcases h with ⟨_, _, _, _, _, _, _, _, _, _, _, hv, hr, _, rfl⟩ | h
    · refine Or.inl ⟨rfl, ⟨hr.1, hr.2⟩, rfl, rfl, ?_, by rw [hv]; simp⟩
      show va_up S.2.2.2.1 i.toNatClampNeg (some _) = S.2.2.2.1
      have hh := up_id S.2.2.2.1 i.toNatClampNeg
      rw [hv] at hh
      exact hh
    · exact h.elim
  · rcases h with ⟨h, rfl⟩ | ⟨h, rfl⟩ | h
    · rcases h with ⟨hr, hx, he⟩ | ⟨hr, hx, he⟩ | ⟨hv, hr, hx, he⟩ | ⟨hv, hr, hx, he⟩ | ⟨_, hv, hr, hx, he⟩ | h
      · exact Or.inr (Or.inl ⟨rfl, nx_lo hr, rfl⟩)
      · exact Or.inr (Or.inl ⟨rfl, nx_hi hr, rfl⟩)
      · exact absurd he (by decide)
      · exact absurd (And.intro hr.1 hr.2) (ni_x (hx.elim id False.elim))
      · exact absurd (And.intro hr.1 hr.2) (ni_x (hx.elim id False.elim))
      · exact h.elim
    · rcases h with ⟨hr, hx, he⟩ | ⟨hr, hx, he⟩ | ⟨hv, hr, hx, he⟩ | ⟨hv, hr, hx, he⟩ | ⟨_, hv, hr, hx, he⟩ | h
      · exact absurd he (by decide)
      · exact absurd he (by decide)
      · exact Or.inr (Or.inr ⟨rfl, ⟨hr.1, hr.2⟩, hv, rfl⟩)
      · exact absurd he (by decide)
      · exact absurd he (by decide)
      · exact h.elim
    · exact h.elim
theorem ms_restore {M Mn : MSt} {i k : Int32} (h : MS_restore M i k Mn) : (k = 1 ∧ ¬ (0 ≤ i.toInt ∧ i.toInt ≤ 2) ∧ sm3m M Mn) ∨ (k = 2 ∧ (0 ≤ i.toInt ∧ i.toInt ≤ 2) ∧ M.2.2.1 i.toNatClampNeg = 0 ∧ sm3m M Mn) ∨ (k = 0 ∧ (0 ≤ i.toInt ∧ i.toInt ≤ 2) ∧ M.2.2.1 i.toNatClampNeg ≠ 0 ∧ sm3m M Mn) := by
  have e2 : (2 : Int64).toInt = 2 := by decide
  rcases h with ⟨x, hx, rfl, rfl⟩ | ⟨x, hx, rfl, rfl⟩ | h
  · rcases hx with ⟨v, hw, rfl⟩ | ⟨v, hw, rfl⟩ | ⟨v, w, hw, rfl, hz, rfl⟩ | hx
    · exact Or.inl ⟨rfl, by have := wi1 hw; omega, rfl, rfl, rfl, rfl⟩
    · exact Or.inl ⟨rfl, by have := wi2 hw; omega, rfl, rfl, rfl, rfl⟩
    · exact Or.inr (Or.inl ⟨rfl, by have := wi3 hw; omega, hz, rfl, rfl, rfl, rfl⟩)
    · exact hx.elim
  · rcases hx with ⟨v, w, v2, g, hw, rfl, hz, _⟩ | hx
    · exact Or.inr (Or.inr ⟨rfl, by have := wi3 hw; omega, hz, rfl, rfl, rfl, rfl⟩)
    · exact hx.elim
  · exact h.elim
theorem in3 {i : Int32} (h : 0 ≤ i.toInt ∧ i.toInt ≤ 2) : i.toNatClampNeg < 3 := by have := Int32.toNat_toInt i; omega
theorem ft_restore {S Sn : CSt} {M Mn : MSt} {i rc rk : Int32} (hR : RSM S M) (h : HS_restore S i rc Sn) (hm : MS_restore M i rk Mn) : rc = rk ∧ RSM Sn Mn := by
  have hI := hR.2.1
  rcases hs_restore h with ⟨rfl, hi, h1, h2, h3, h4⟩ | ⟨rfl, hi, rfl⟩ | ⟨rfl, hi, h4, rfl⟩
  · rcases ms_restore hm with ⟨rfl, hn, _⟩ | ⟨rfl, _, hz, _⟩ | ⟨rfl, _, _, hs⟩
    · exact absurd hi hn
    · exact absurd ((hI _ (in3 hi)).mpr hz) h4
    · exact ⟨rfl, RSM_mv hR ⟨by rw [h1], h3, fun j _ => by rw [h2]; exact ⟨rfl, rfl⟩⟩ hs⟩
  · rcases ms_restore hm with ⟨rfl, hn, hs⟩ | ⟨rfl, hn, _⟩ | ⟨rfl, hn, _⟩
    · exact ⟨rfl, RSM_mv hR sm3_rf hs⟩
    · exact absurd hn hi
    · exact absurd hn hi
  · rcases ms_restore hm with ⟨rfl, hn, _⟩ | ⟨rfl, _, _, hs⟩ | ⟨rfl, _, hz, _⟩
    · exact absurd hi hn
    · exact ⟨rfl, RSM_mv hR sm3_rf hs⟩
    · exact absurd ((hI _ (in3 hi)).mp h4) hz
theorem sm_restore {S Sn : CSt} {M Mn : MSt} {i rc rk : Int32} (hR : RSM S M) (h : HS_restore S i rc Sn) (hm : MS_restore M i rk Mn) : RSM Sn Mn := (ft_restore hR h hm).2
theorem sc_restore {S Sn : CSt} {M Mn : MSt} {i rc rk : Int32} (hR : RSM S M) (h : HS_restore S i rc Sn) (hm : MS_restore M i rk Mn) : rc = rk := (ft_restore hR h hm).1
/-! district, as far as the tape goes -/
theorem cd0 {S Sn : CSt} {n q : Int32} (h : CS_district S n q Sn) : Sn.1.1 = 0 ∧ Sn.2.2.2.1 = S.2.2.2.1 ∧ Sn.2.2.2.2.1 = S.2.2.2.2.1 := by
  rcases h with ⟨_, _, _, _, _, _, _, _, _, _, _, _, _, _, _, _, _, _, _, _, _, _, _, _, _, _, _, _, _, _, _, _, _, _, _, _, _, _, _, _, _, _, _, _, _, _, _, _, rfl⟩ | ⟨_, _, _, _, _, _, _, _, _, _, _, _, _, _, _, _, _, _, _, _, _, _, _, _, _, _, _, _, _, _, _, _, _, _, _, _, _, _, _, _, _, _, rfl⟩ | h
  · exact ⟨rfl, rfl, rfl⟩
  · exact ⟨rfl, rfl, rfl⟩
  · exact h.elim
theorem sm_district {S Sn : CSt} {M Mn : MSt} {n rc rk rr : Int32} {o : Int64} (hR : RSM S M) (h : HS_district S n rc o Sn) (hm : MS_district M n rr rk Mn) : RSM Sn Mn := by
  obtain ⟨a1, a2, a3, a4, a5⟩ := hR
  have em := Int32.toInt_toInt64 M.2.2.2.2.1
  have ht : S.1.1.toInt = M.2.2.2.2.1.toInt := by rw [a1]
  have hk : (¬ (0 ≤ n.toInt ∧ n.toInt ≤ S.1.1.toInt) ∧ Mn.2.2.2.2.1 = M.2.2.2.2.1 ∨ (0 ≤ n.toInt ∧ n.toInt ≤ S.1.1.toInt) ∧ Mn.2.2.2.2.1 = 0) ∧ Mn.2.2.1 = M.2.2.1 ∧ Mn.2.2.2.2.2.2.2.1 = M.2.2.2.2.2.2.2.1 ∧ Mn.2.2.2.2.2.2.2.2.1 = M.2.2.2.2.2.2.2.2.1 := by
    rcases hm with ⟨_, _, _, _, _, _, _, _, _, _, _, _, _, _, _, _, _, _, _, _, _, _, _, _, _, _, _, hx, _, rfl⟩ | hm
    · refine ⟨?_, rfl, rfl, rfl⟩
      rcases hx with ⟨_, _, hw, _, _, h1, _, _, _, _, _, _, _, _, _, _, _, _, _, _, _⟩ | ⟨_, _, hw, _, _, h1, _, _, _, _, _, _, _, _, _, _, _, _, _, _, _⟩ | ⟨_, _, _, _, _, _, _, _, _, _, _, _, _, _, _, _, _, _, _, _, _, _, _, _, _, _, _, _, _, _, _, _, _, _, _, _, _, _, _, _, _, _, _, _, _, _, _, _, _, _, _, _, _, _, _, _, _, _, _, _, hw, _, _, _, _, _, _, _, _, _, _, _, _, _, _, _, _, _, _, h1, _, _, _, _, _, _, _, _, _, _, _, _, _, _, _⟩ | ⟨_, _, _, _, _, _, _, _, _, _, _, _, _, _, _, _, _, _, _, _, _, _, _, _, _, _, _, _, _, _, _, _, _, _, _, _, _, _, _, _, _, _, _, _, hw, _, _, _, _, _, _, _, _, _, _, _, _, h1, _, _, _, _, _, _, _, _, _, _, _, _, _, _, _⟩ | hx
      · exact Or.inl ⟨by have := wi1 hw; omega, h1⟩
      · exact Or.inl ⟨by have := wi2 hw; omega, h1⟩
      · exact Or.inr ⟨by have := wi3 hw; omega, h1⟩
      · exact Or.inr ⟨by have := wi3 hw; omega, h1⟩
      · exact hx.elim
    · exact hm.elim
  obtain ⟨hk, b2, b3, b4⟩ := hk
  rcases h with ⟨rfl, hn, q, h, _⟩ | ⟨rfl, ⟨hx, rfl⟩ | h⟩
  · rcases hk with ⟨hk, _⟩ | ⟨_, hk⟩
    · exact absurd hn hk
    · obtain ⟨c1, c2, c3⟩ := cd0 h
      exact ⟨by rw [c1, hk], by rw [c2, b2]; exact a2, fun j hj => by rw [c3, b3, b4]; exact a3 j hj, by rw [c1]; decide, by rw [c1]; decide⟩
  · rcases hk with ⟨_, hk⟩ | ⟨hk, _⟩
    · exact ⟨by rw [hk]; exact a1, by rw [b2]; exact a2, fun j hj => by rw [b3, b4]; exact a3 j hj, a4, a5⟩
    · exact absurd hk hx.1
  · exact h.elim
/-! trays: sort and how many -/
def okT (y s m : Int32) : Prop := (0 ≤ y.toInt ∧ y.toInt ≤ 3) ∧ (0 ≤ s.toInt ∧ s.toInt ≤ 3) ∧ 0 ≤ m.toInt ∧ m.toInt ≤ 30
theorem it1 {x r : Int32} (h : R_X11_isTray_w_e1 x r) : x.toInt < 0 := by
  rcases h with ⟨v, q, _⟩ | h
  · exact wi1 q
  · exact h.elim
theorem it2 {x r : Int32} (h : R_X11_isTray_w_e2 x r) : 3 < x.toInt := by
  have e3 : (3 : Int64).toInt = 3 := by decide
  rcases h with ⟨v, q, _⟩ | h
  · have := wi2 q; omega
  · exact h.elim
theorem it3 {x r : Int32} (h : R_X11_isTray_w_e3 x r) : 0 ≤ x.toInt ∧ x.toInt ≤ 3 := by
  have e3 : (3 : Int64).toInt = 3 := by decide
  rcases h with ⟨v, q, _⟩ | h
  · have := wi3 q; omega
  · exact h.elim
theorem an_in {y : Int32} (h : R_X10_anyTray_in_e y) : 0 ≤ y.toInt ∧ y.toInt ≤ 3 := by
  rcases h with ⟨h1, h2⟩ | h
  · rw [fa_lt] at h1 h2
    have e0 : (0 : Int32).toInt = 0 := by decide
    have e4 : (4 : Int32).toInt = 4 := by decide
    omega
  · exact h.elim
theorem tj {s m : Int32} (h : R_X10_tray_in_j1 s m) : ¬ ((0 ≤ s.toInt ∧ s.toInt ≤ 3) ∧ 0 ≤ m.toInt ∧ m.toInt ≤ 30) := by
  have e0 : (0 : Int32).toInt = 0 := by decide
  have e4 : (4 : Int32).toInt = 4 := by decide
  have e30 : (30 : Int32).toInt = 30 := by decide
  rcases h with h | ⟨_, h⟩ | ⟨_, _, h⟩ | ⟨_, _, _, h⟩ | h
  · rw [fa_lt] at h; omega
  · rw [fa_le] at h; omega
  · rw [fa_lt] at h; omega
  · rw [fa_le] at h; omega
  · exact h.elim
theorem hs_tray {S Sn : CSt} {y s m rc : Int32} (h : HS_tray S y s m rc Sn) : (rc = 0 ∧ okT y s m ∧ Sn.1 = S.1 ∧ Sn.2.2.2.1 = S.2.2.2.1 ∧ ∃ z, Sn.2.2.2.2.1 = va_up S.2.2.2.2.1 y.toNatClampNeg (s, m, z)) ∨ (¬ okT y s m ∧ Sn = S) := by
  rcases h with ⟨rfl, h⟩ | ⟨rfl, h⟩
  · rcases h with ⟨_, _, _, hr, hx, rfl⟩ | h
    · rcases hx with ⟨g, h0, h1, h2, h3, h4, _⟩ | hx
      · rw [fa_lt] at h1 h3
        rw [fa_le] at h2 h4
        have e0 : (0 : Int32).toInt = 0 := by decide
        have e4 : (4 : Int32).toInt = 4 := by decide
        have e30 : (30 : Int32).toInt = 30 := by decide
        exact Or.inl ⟨rfl, ⟨an_in h0, ⟨by omega, by omega⟩, by omega, by omega⟩, rfl, rfl, _, rfl⟩
      · exact hx.elim
    · exact h.elim
  · refine Or.inr ⟨fun ho => ?_, rfl⟩
    obtain ⟨o1, o2, o3⟩ := ho
    rcases h with ⟨h, _⟩ | ⟨h, _⟩ | h
    · rcases h with ⟨hr, hx, he⟩ | ⟨hr, hx, he⟩ | ⟨_, _, hr, hx, he⟩ | h
      · unfold rg at hr; omega
      · unfold rg at hr; omega
      · rcases hx with ⟨_, hx⟩ | hx
        · exact tj hx ⟨o2, o3⟩
        · exact hx
      · exact h
    · rcases h with ⟨hr, hx, he⟩ | ⟨hr, hx, he⟩ | ⟨_, _, hr, hx, he⟩ | h
      · unfold rg at hr; omega
      · unfold rg at hr; omega
      · rcases hx with ⟨_, hx⟩ | hx
        · exact tj hx ⟨o2, o3⟩
        · exact hx
      · exact h
    · exact h
theorem ms_tray {M Mn : MSt} {y s m k : Int32} (h : MS_tray M y s m k Mn) : (okT y s m ∧ Mn.2.2.2.2.1 = M.2.2.2.2.1 ∧ Mn.2.2.1 = M.2.2.1 ∧ Mn.2.2.2.2.2.2.2.1 = upd M.2.2.2.2.2.2.2.1 y.toNatClampNeg s ∧ Mn.2.2.2.2.2.2.2.2.1 = upd M.2.2.2.2.2.2.2.2.1 y.toNatClampNeg m) ∨ (¬ okT y s m ∧ sm3m M Mn) := by
  have e3 : (3 : Int64).toInt = 3 := by decide
  have e30 : (30 : Int64).toInt = 30 := by decide
  rcases h with ⟨_, _, _, _, hx, _, rfl⟩ | h
  · rcases hx with ⟨_, ht, _, q1, q2, _⟩ | ⟨_, ht, _, q1, q2, _⟩ | ⟨_, _, ht, hs, _, q1, q2, _⟩ | ⟨_, _, ht, hs, _, q1, q2, _⟩ | ⟨_, _, _, ht, hs, hm, _, q1, q2, _⟩ | ⟨_, _, _, ht, hs, hm, _, q1, q2, _⟩ | ⟨_, _, _, _, _, ht, hs, hm, _, _, _, q1, q2, _⟩ | hx
    · have w0 := it1 ht
      exact Or.inr ⟨fun ho => by obtain ⟨o1, o2, o3⟩ := ho; omega, rfl, rfl, q1, q2⟩
    · have w0 := it2 ht
      exact Or.inr ⟨fun ho => by obtain ⟨o1, o2, o3⟩ := ho; omega, rfl, rfl, q1, q2⟩
    · have w0 := it3 ht
      have w1 := wi1 hs
      exact Or.inr ⟨fun ho => by obtain ⟨o1, o2, o3⟩ := ho; omega, rfl, rfl, q1, q2⟩
    · have w0 := it3 ht
      have w1 := wi2 hs
      exact Or.inr ⟨fun ho => by obtain ⟨o1, o2, o3⟩ := ho; omega, rfl, rfl, q1, q2⟩
    · have w0 := it3 ht
      have w1 := wi3 hs
      have w2 := wi1 hm
      exact Or.inr ⟨fun ho => by obtain ⟨o1, o2, o3⟩ := ho; omega, rfl, rfl, q1, q2⟩
    · have w0 := it3 ht
      have w1 := wi3 hs
      have w2 := wi2 hm
      exact Or.inr ⟨fun ho => by obtain ⟨o1, o2, o3⟩ := ho; omega, rfl, rfl, q1, q2⟩
    · have w0 := it3 ht
      have w1 := wi3 hs
      have w2 := wi3 hm
      exact Or.inl ⟨⟨w0, by omega, by omega⟩, rfl, rfl, q1, q2⟩
    · exact hx.elim
  · exact h.elim
theorem in4 {i : Int32} (h : 0 ≤ i.toInt ∧ i.toInt ≤ 3) : i.toNatClampNeg < 4 := by have := Int32.toNat_toInt i; omega
theorem sm_tray {S Sn : CSt} {M Mn : MSt} {y s m rc rk : Int32} (hR : RSM S M) (h : HS_tray S y s m rc Sn) (hm : MS_tray M y s m rk Mn) : RSM Sn Mn := by
  rcases hs_tray h with ⟨_, ho, h1, h2, z, h3⟩ | ⟨ho, rfl⟩
  · rcases ms_tray hm with ⟨_, m1, m2, m3, m4⟩ | ⟨hn, _⟩
    · obtain ⟨a1, a2, a3, a4, a5⟩ := hR
      refine ⟨by rw [h1, m1]; exact a1, by rw [h2, m2]; exact a2, fun j hj => ?_, by rw [h1]; exact a4, by rw [h1]; exact a5⟩
      rw [h3, m3, m4]
      by_cases hji : j = y.toNatClampNeg
      · subst hji
        rw [va_up_self]
        unfold upd
        rw [if_pos rfl, if_pos rfl]
        exact ⟨rfl, rfl, ⟨by have := ho.2.1.1; show (-1 : Int) ≤ s.toInt; omega, ho.2.1.2⟩, ho.2.2⟩
      · rw [va_up_ne _ _ hji]
        unfold upd
        rw [if_neg hji, if_neg hji]
        exact a3 j hj
    · exact absurd ho hn
  · rcases ms_tray hm with ⟨hn, _⟩ | ⟨_, hs⟩
    · exact absurd hn ho
    · exact RSM_mv hR sm3_rf hs
/-! write: the class casts, the reference shifts twice -/
theorem cut_8 (v : Int64) : (v <<< (56 : Int64)) >>> (56 : Int64) = v.toInt32.toInt8.toInt32.toInt64 := by
  apply Int64.toBitVec_inj.mp
  have h56 : (56 : Int64).toBitVec.smod 64 = 56#64 := by decide
  simp only [Int64.toBitVec_shiftRight, Int64.toBitVec_shiftLeft, Int32.toBitVec_toInt64, Int8.toBitVec_toInt32, Int32.toBitVec_toInt8, Int64.toBitVec_toInt32, h56]
  apply BitVec.eq_of_getLsbD_eq
  intro i hi
  have k1 : decide (64 ≤ i) = false := decide_eq_false (by omega)
  have k2 : decide (i < 64) = true := decide_eq_true hi
  by_cases h8 : i < 8
  · have k3 : 56 + i < 64 := by omega
    have k4 : ¬ 56 + i < 56 := by omega
    have k5 : i < 32 := by omega
    simp [BitVec.getLsbD_sshiftRight, BitVec.getElem_sshiftRight, BitVec.getElem_shiftLeft, BitVec.getElem_signExtend, BitVec.getLsbD_signExtend, BitVec.getLsbD_setWidth, BitVec.msb_eq_getLsbD_last, k1, k2, k3, k4, k5, h8]
    exact fun h => absurd h (by omega)
  · have k3 : ¬ 56 + i < 64 := by omega
    by_cases h32 : i < 32
    · simp [BitVec.getLsbD_sshiftRight, BitVec.getElem_sshiftRight, BitVec.getElem_shiftLeft, BitVec.getElem_signExtend, BitVec.getLsbD_signExtend, BitVec.getLsbD_setWidth, BitVec.msb_eq_getLsbD_last, k1, k2, k3, h8, h32]
    · simp [BitVec.getLsbD_sshiftRight, BitVec.getElem_sshiftRight, BitVec.getElem_shiftLeft, BitVec.getElem_signExtend, BitVec.getLsbD_signExtend, BitVec.getLsbD_setWidth, BitVec.msb_eq_getLsbD_last, k1, k2, k3, h8, h32]
theorem cut_16 (v : Int64) : (v <<< (48 : Int64)) >>> (48 : Int64) = v.toInt32.toInt16.toInt32.toInt64 := by
  apply Int64.toBitVec_inj.mp
  have h56 : (48 : Int64).toBitVec.smod 64 = 48#64 := by decide
  simp only [Int64.toBitVec_shiftRight, Int64.toBitVec_shiftLeft, Int32.toBitVec_toInt64, Int16.toBitVec_toInt32, Int32.toBitVec_toInt16, Int64.toBitVec_toInt32, h56]
  apply BitVec.eq_of_getLsbD_eq
  intro i hi
  have k1 : decide (64 ≤ i) = false := decide_eq_false (by omega)
  have k2 : decide (i < 64) = true := decide_eq_true hi
  by_cases h8 : i < 16
  · have k3 : 48 + i < 64 := by omega
    have k4 : ¬ 48 + i < 48 := by omega
    have k5 : i < 32 := by omega
    simp [BitVec.getLsbD_sshiftRight, BitVec.getElem_sshiftRight, BitVec.getElem_shiftLeft, BitVec.getElem_signExtend, BitVec.getLsbD_signExtend, BitVec.getLsbD_setWidth, BitVec.msb_eq_getLsbD_last, k1, k2, k3, k4, k5, h8]
    exact fun h => absurd h (by omega)
  · have k3 : ¬ 48 + i < 64 := by omega
    by_cases h32 : i < 32
    · simp [BitVec.getLsbD_sshiftRight, BitVec.getElem_sshiftRight, BitVec.getElem_shiftLeft, BitVec.getElem_signExtend, BitVec.getLsbD_signExtend, BitVec.getLsbD_setWidth, BitVec.msb_eq_getLsbD_last, k1, k2, k3, h8, h32]
    · simp [BitVec.getLsbD_sshiftRight, BitVec.getElem_sshiftRight, BitVec.getElem_shiftLeft, BitVec.getElem_signExtend, BitVec.getLsbD_signExtend, BitVec.getLsbD_setWidth, BitVec.msb_eq_getLsbD_last, k1, k2, k3, h8, h32]
theorem cut_32 (v : Int64) : (v <<< (32 : Int64)) >>> (32 : Int64) = v.toInt32.toInt64 := by
  apply Int64.toBitVec_inj.mp
  have h56 : (32 : Int64).toBitVec.smod 64 = 32#64 := by decide
  simp only [Int64.toBitVec_shiftRight, Int64.toBitVec_shiftLeft, Int32.toBitVec_toInt64, Int64.toBitVec_toInt32, h56]
  apply BitVec.eq_of_getLsbD_eq
  intro i hi
  have k1 : decide (64 ≤ i) = false := decide_eq_false (by omega)
  have k2 : decide (i < 64) = true := decide_eq_true hi
  by_cases h8 : i < 32
  · have k3 : 32 + i < 64 := by omega
    have k4 : ¬ 32 + i < 32 := by omega
    have k5 : i < 32 := by omega
    simp [BitVec.getLsbD_sshiftRight, BitVec.getElem_sshiftRight, BitVec.getElem_shiftLeft, BitVec.getElem_signExtend, BitVec.getLsbD_signExtend, BitVec.getLsbD_setWidth, BitVec.msb_eq_getLsbD_last, k1, k2, k3, k4, k5, h8]
    exact fun h => absurd h (by omega)
  · have k3 : ¬ 32 + i < 64 := by omega
    by_cases h32 : i < 32
    · simp [BitVec.getLsbD_sshiftRight, BitVec.getElem_sshiftRight, BitVec.getElem_shiftLeft, BitVec.getElem_signExtend, BitVec.getLsbD_signExtend, BitVec.getLsbD_setWidth, BitVec.msb_eq_getLsbD_last, k1, k2, k3, h8, h32]
    · simp [BitVec.getLsbD_sshiftRight, BitVec.getElem_sshiftRight, BitVec.getElem_shiftLeft, BitVec.getElem_signExtend, BitVec.getLsbD_signExtend, BitVec.getLsbD_setWidth, BitVec.msb_eq_getLsbD_last, k1, k2, k3, h8, h32]
/-! write: what is kept of a number -/
theorem cut_E {s : Int32} {v q : Int64} (h : R_X8_cut_e s v q) (h0 : 0 ≤ s.toInt) (h3 : s.toInt ≤ 3) : q = (v <<< ((64 - ((8 : Int32) <<< (s &&& 31))).toInt64 &&& 63)) >>> ((64 - ((8 : Int32) <<< (s &&& 31))).toInt64 &&& 63) := by
  rcases h with ⟨rfl, rfl⟩ | ⟨rfl, rfl⟩ | ⟨rfl, rfl⟩ | ⟨w, rfl, hw, rfl⟩ | h
  · rw [show ((64 - ((8 : Int32) <<< ((0 : Int32) &&& 31))).toInt64 &&& 63) = (56 : Int64) by decide]
    exact (cut_8 v).symm
  · rw [show ((64 - ((8 : Int32) <<< ((1 : Int32) &&& 31))).toInt64 &&& 63) = (48 : Int64) by decide]
    exact (cut_16 v).symm
  · rw [show ((64 - ((8 : Int32) <<< ((2 : Int32) &&& 31))).toInt64 &&& 63) = (32 : Int64) by decide]
    exact (cut_32 v).symm
  · have e3 : w = 3 := Int32.toInt_inj.mp (by have : (3 : Int32).toInt = 3 := by decide
                                              omega)
    subst e3
    rw [show ((64 - ((8 : Int32) <<< ((3 : Int32) &&& 31))).toInt64 &&& 63) = (0 : Int64) by decide]
    simp
  · exact h.elim
def okW (S : CSt) (y p : Int32) (rc : Int32) : Prop := (rc = 1 ∧ ¬ (0 ≤ y.toInt ∧ y.toInt ≤ 3)) ∨ (rc = 2 ∧ (0 ≤ y.toInt ∧ y.toInt ≤ 3) ∧ (S.2.2.2.2.1 y.toNatClampNeg).1 = -1) ∨ (rc = 3 ∧ (0 ≤ y.toInt ∧ y.toInt ≤ 3) ∧ (S.2.2.2.2.1 y.toNatClampNeg).1 ≠ -1 ∧ ¬ (0 ≤ p.toInt ∧ p.toInt < (S.2.2.2.2.1 y.toNatClampNeg).2.1.toInt)) ∨ (rc = 0 ∧ (0 ≤ y.toInt ∧ y.toInt ≤ 3) ∧ (S.2.2.2.2.1 y.toNatClampNeg).1 ≠ -1 ∧ (0 ≤ p.toInt ∧ p.toInt < (S.2.2.2.2.1 y.toNatClampNeg).2.1.toInt))
theorem okW_u {S : CSt} {y p a b : Int32} (h : okW S y p a) (q : okW S y p b) : a = b := by
  rcases h with ⟨rfl, h⟩ | ⟨rfl, h, h2⟩ | ⟨rfl, h, h2, h3⟩ | ⟨rfl, h, h2, h3⟩ <;> rcases q with ⟨rfl, q⟩ | ⟨rfl, q, q2⟩ | ⟨rfl, q, q2, q3⟩ | ⟨rfl, q, q2, q3⟩ <;> first | rfl | exact absurd q h | exact absurd h q | exact absurd q2 h2 | exact absurd h2 q2 | exact absurd q3 h3 | exact absurd h3 q3
def cutv (S : CSt) (y : Int32) (v : Int64) : Int64 := (v <<< ((64 - ((8 : Int32) <<< ((S.2.2.2.2.1 y.toNatClampNeg).1 &&& 31))).toInt64 &&& 63)) >>> ((64 - ((8 : Int32) <<< ((S.2.2.2.2.1 y.toNatClampNeg).1 &&& 31))).toInt64 &&& 63)
theorem hs_write {S Sn : CSt} {M : MSt} {y p rc : Int32} {v o : Int64} (hR : RSM S M) (h : HS_write S y p v rc o Sn) : okW S y p rc ∧ (rc = 0 → o = cutv S y v) := by
  rcases h with ⟨rfl, q, ⟨t, x, rfl, hy, hw, _⟩ | h, rfl⟩ | ⟨_, ⟨h, rfl⟩ | ⟨h, rfl⟩ | ⟨h, rfl⟩ | h⟩
  · have hs := (hR.2.2.1 _ (in4 ⟨hy.1, hy.2⟩)).2.2
    rcases hw with ⟨g, w, ⟨_, hne⟩ | hf, h1, h2, hp, _, rfl⟩ | hw
    · rw [fa_lt] at h1 h2
      have e0 : (0 : Int32).toInt = 0 := by decide
      have em : (-1 : Int32).toInt = -1 := by decide
      refine ⟨Or.inr (Or.inr (Or.inr ⟨rfl, ⟨hy.1, hy.2⟩, hne, by omega, h2⟩)), fun _ => ?_⟩
      rcases hp with ⟨hj, _⟩ | ⟨w1, w2, _, _, _, hc, rfl, _, rfl⟩ | hp
      · rcases hj with hj | ⟨_, hj⟩ | hj
        · rw [fa_lt] at hj; omega
        · rw [fa_le] at hj; omega
        · exact hj.elim
      · have hlo := hs.1.1
        have hne' : (S.2.2.2.2.1 y.toNatClampNeg).1.toInt ≠ -1 := fun hq => hne (Int32.toInt_inj.mp (hq.trans em.symm))
        have := cut_E hc (by omega) hs.1.2
        unfold vp_updL
        rw [if_pos rfl]
        exact this
      · exact hp.elim
    · exact hf.elim
    · exact hw.elim
  · exact h.elim
  · refine ⟨Or.inl ⟨rfl, ?_⟩, fun hq => absurd hq (by decide)⟩
    rcases h with ⟨hr, _, _⟩ | ⟨hr, _, _⟩ | ⟨_, _, _, _, he⟩ | ⟨_, _, _, _, he⟩ | h
    · unfold rg at hr; omega
    · unfold rg at hr; omega
    · exact absurd he (by decide)
    · exact absurd he (by decide)
    · exact h.elim
  · refine ⟨?_, fun hq => absurd hq (by decide)⟩
    rcases h with ⟨_, _, he⟩ | ⟨_, _, he⟩ | ⟨_, rfl, hr, hx, he⟩ | ⟨_, _, _, _, he⟩ | h
    · exact absurd he (by decide)
    · exact absurd he (by decide)
    · rcases hx with (⟨_, hx⟩ | hx) | hx
      · exact Or.inr (Or.inl ⟨rfl, ⟨hr.1, hr.2⟩, hx⟩)
      · exact hx.elim
      · exact hx.elim
    · exact absurd he (by decide)
    · exact h.elim
  · refine ⟨?_, fun hq => absurd hq (by decide)⟩
    rcases h with ⟨_, _, he⟩ | ⟨_, _, he⟩ | ⟨_, _, _, _, he⟩ | ⟨_, rfl, hr, hx, he⟩ | h
    · exact absurd he (by decide)
    · exact absurd he (by decide)
    · exact absurd he (by decide)
    · rcases hx with ⟨(⟨_, hf⟩ | hf), hj⟩ | hx
      · refine Or.inr (Or.inr (Or.inl ⟨rfl, ⟨hr.1, hr.2⟩, hf, fun hq => ?_⟩))
        have e0 : (0 : Int32).toInt = 0 := by decide
        rcases hj with hj | ⟨_, hj⟩ | hj
        · rw [fa_lt] at hj; omega
        · rw [fa_lt] at hj; omega
        · exact hj
      · exact hf.elim
      · exact hx.elim
    · exact h.elim
  · exact h.elim
theorem tf3 {y r : Int32} {f : Nat → Int32} (h : R_X11_trayFault_e3 y f r) : (0 ≤ y.toInt ∧ y.toInt ≤ 3) ∧ f y.toNatClampNeg ≠ -1 ∧ r = 0 := by
  rcases h with ⟨v, w, ht, rfl, hn, rfl⟩ | h
  · exact ⟨it3 ht, hn, rfl⟩
  · exact h.elim
theorem tf4 {y r : Int32} {f : Nat → Int32} (h : R_X11_trayFault_e4 y f r) : (0 ≤ y.toInt ∧ y.toInt ≤ 3) ∧ f y.toNatClampNeg = -1 ∧ r = 2 := by
  rcases h with ⟨v, w, ht, rfl, hn, rfl⟩ | h
  · exact ⟨it3 ht, hn, rfl⟩
  · exact h.elim
theorem tf1 {y r : Int32} (h : R_X11_trayFault_e1 y r) : ¬ (0 ≤ y.toInt ∧ y.toInt ≤ 3) ∧ r = 1 := by
  rcases h with ⟨v, ht, rfl⟩ | h
  · exact ⟨by have := it1 ht; omega, rfl⟩
  · exact h.elim
theorem tf2 {y r : Int32} (h : R_X11_trayFault_e2 y r) : ¬ (0 ≤ y.toInt ∧ y.toInt ≤ 3) ∧ r = 1 := by
  rcases h with ⟨v, ht, rfl⟩ | h
  · exact ⟨by have := it2 ht; omega, rfl⟩
  · exact h.elim
theorem mW1 {m : Int32} (h : rg (0) (30) m) : ((m - 1).toInt64).toInt = m.toInt - 1 := by
  have e1 : (1 : Int32).toInt = 1 := by decide
  have h1 := h.1
  have h2 := h.2
  rw [Int32.toInt_toInt64, Int32.toInt_sub, e1]
  rw [Int.bmod_eq_of_le] <;> omega
theorem ms_write {S : CSt} {M Mn : MSt} {y p rk : Int32} {v rr : Int64} (hR : RSM S M) (h : MS_write M y p v rr rk Mn) : okW S y p rk ∧ (rk = 0 → rr = cutv S y v) := by
  have e0 : (0 : Int32).toInt = 0 := by decide
  rcases h with ⟨x0, x1, h, rfl, _⟩ | h
  · rcases h with ⟨f, hf, _, rfl, _⟩ | ⟨f, hf, _, rfl, _⟩ | ⟨f, m, w, q, hf, _, rfl, hw, _, rfl, _⟩ | ⟨f, m, w, q, hf, _, rfl, hw, _, rfl, _⟩ | ⟨f, m, w, g, r2, hf, _, rfl, hw, hc, rfl, _, rfl⟩ | ⟨f, hf, _, rfl, _⟩ | h
    · obtain ⟨h1, rfl⟩ := tf1 hf
      exact ⟨Or.inl ⟨rfl, h1⟩, fun hq => absurd hq (by decide)⟩
    · obtain ⟨h1, rfl⟩ := tf2 hf
      exact ⟨Or.inl ⟨rfl, h1⟩, fun hq => absurd hq (by decide)⟩
    · obtain ⟨h1, h2, _⟩ := tf3 hf
      obtain ⟨a1, a2, _, _⟩ := hR.2.2.1 _ (in4 h1)
      exact ⟨Or.inr (Or.inr (Or.inl ⟨rfl, h1, by rw [a1]; exact h2, by have := wi1 hw; omega⟩)), fun hq => absurd hq (by decide)⟩
    · obtain ⟨h1, h2, _⟩ := tf3 hf
      obtain ⟨a1, a2, a3, a4⟩ := hR.2.2.1 _ (in4 h1)
      have h9 := wi2 hw
      rw [← a2] at h9
      have hm : (((S.2.2.2.2.1 y.toNatClampNeg).2.1 - 1).toInt64).toInt = (S.2.2.2.2.1 y.toNatClampNeg).2.1.toInt - 1 := mW1 a4
      exact ⟨Or.inr (Or.inr (Or.inl ⟨rfl, h1, by rw [a1]; exact h2, by omega⟩)), fun hq => absurd hq (by decide)⟩
    · obtain ⟨h1, h2, rfl⟩ := tf3 hf
      obtain ⟨a1, a2, a3, a4⟩ := hR.2.2.1 _ (in4 h1)
      have h9 := wi3 hw
      rw [← a2] at h9
      have hm : (((S.2.2.2.2.1 y.toNatClampNeg).2.1 - 1).toInt64).toInt = (S.2.2.2.2.1 y.toNatClampNeg).2.1.toInt - 1 := mW1 a4
      refine ⟨Or.inr (Or.inr (Or.inr ⟨rfl, h1, by rw [a1]; exact h2, by omega⟩)), fun _ => ?_⟩
      rcases hc with ⟨w1, w2, rfl, rfl, _, rfl⟩ | hc
      · unfold vp_updL cutv
        rw [if_pos rfl, a1]
      · exact hc.elim
    · obtain ⟨h1, h2, rfl⟩ := tf4 hf
      obtain ⟨a1, a2, _, _⟩ := hR.2.2.1 _ (in4 h1)
      exact ⟨Or.inr (Or.inl ⟨rfl, h1, by rw [a1]; exact h2⟩), fun hq => absurd hq (by decide)⟩
    · exact h.elim
  · exact h.elim
theorem sc_write {S Sn : CSt} {M Mn : MSt} {y p rc rk : Int32} {v o rr : Int64} (hR : RSM S M) (h : HS_write S y p v rc o Sn) (hm : MS_write M y p v rr rk Mn) : rc = rk ∧ (rc = 0 → o = rr) := by
  have a := hs_write hR h
  have b := ms_write hR hm
  have hc := okW_u a.1 b.1
  exact ⟨hc, fun hz => (a.2 hz).trans (b.2 (hc ▸ hz)).symm⟩
