/-! what is being told -/
def TX (C L : Int) (f : Nat → Int32) : Prop := KX C L 0 999 0 f ∧ ∀ t : Nat, t < 8 → rg 0 99 (f (32 + t))
theorem TX_l {C L a b a' b' lo hi : Int} {f : Nat → Int32} {i : Int32} (hq : ∀ {A B h : Int} {j : Nat} {x : Int32}, a' ≤ (j : Int) → (j : Int) ≤ b' → (kb A B h j x ↔ rg lo hi x)) (hk : TX C L f) (hi_ : rg a b i) (h1 : a' ≤ a ∧ 0 ≤ a) (h2 : b ≤ b' ∧ b < 2260) : rg lo hi (f i.toNatClampNeg) := KX_l hq hk.1 hi_ h1 h2
theorem TX_rb {C L : Int} {f : Nat → Int32} (hk : TX C L f) : RB f := KX_rb hk.1
/-- places that nothing hangs on -/
def Fr (j : Nat) : Prop := j = 0 ∨ j = 3 ∨ (40 ≤ j ∧ j ≤ 52) ∨ (57 ≤ j ∧ j ≤ 88)
theorem SP_fr {f : Nat → Int32} {i : Nat} {v : Int32} (hs : SP f) (hd : Fr i) : SP (upd f i v) := by
  unfold Fr at hd
  refine ⟨fun w hw hlt => ?_, ?_, ?_⟩
  · rw [pk_un (by omega)] at hlt
    rw [pk_un (by omega)]
    exact hs.1 w hw hlt
  · rw [pk_un (by omega)]
    exact LW1_cg (fun j hj => pk_un (by omega)) hs.2.1
  · rw [pk_un (by omega)]
    exact LW1_cg (fun j hj => pk_un (by omega)) hs.2.2
theorem TX_f {C L : Int} {f : Nat → Int32} {i : Nat} {v : Int32} (hk : TX C L f) (hd : Fr i) (hv : kb 0 999 0 i v) : TX C L (upd f i v) := by
  have hd' := hd
  unfold Fr at hd'
  refine ⟨⟨KB_st hk.1.1 hv, SP_fr hk.1.2.1 hd, KH_cg (fun j hj => pk_un (by omega)) hk.1.2.2.1, by rw [pk_un (by omega)]; exact hk.1.2.2.2.1, by rw [pk_un (by omega)]; exact hk.1.2.2.2.2⟩, fun t ht => ?_⟩
  rw [pk_un (by omega)]
  exact hk.2 t ht
theorem kb_0 {A B h : Int} {j : Nat} {x : Int32} (a : 0 ≤ (j : Int)) (b : (j : Int) ≤ 0) : kb A B h j x ↔ True := by
  obtain rfl : j = 0 := by omega
  exact Iff.rfl
theorem kb_57 {A B h : Int} {j : Nat} {x : Int32} (a : 57 ≤ (j : Int)) (b : (j : Int) ≤ 88) : kb A B h j x ↔ True := by
  unfold kb
  rw [if_neg (by omega), if_neg (by omega), if_neg (by omega), if_neg (by omega), if_neg (by omega), if_neg (by omega), if_neg (by omega), if_pos (by omega)]
theorem kb_459 {A B h : Int} {j : Nat} {x : Int32} (a : 459 ≤ j) : kb A B h j x := by
  unfold kb
  rw [if_neg (by omega), if_neg (by omega), if_neg (by omega), if_neg (by omega), if_neg (by omega), if_neg (by omega), if_neg (by omega), if_neg (by omega), if_neg (by omega)]
  trivial
theorem TX_s {C L a b a' b' lo hi : Int} {f : Nat → Int32} {i v : Int32} (hq : ∀ {A B h : Int} {j : Nat} {x : Int32}, a' ≤ (j : Int) → (j : Int) ≤ b' → (kb A B h j x ↔ rg lo hi x)) (hk : TX C L f) (hi_ : rg a b i) (hv : rg lo hi v) (h1 : a' ≤ a ∧ 0 ≤ a) (h2 : b ≤ b') (h3 : (3 ≤ a ∧ b ≤ 3) ∨ (41 ≤ a ∧ b ≤ 52)) : TX C L (upd f i.toNatClampNeg v) := by
  obtain ⟨j, hj, h4, h5⟩ := rg_cl hi_ h1.2
  rw [hj]
  exact TX_f hk (by unfold Fr; omega) ((hq (by omega) (by omega)).mpr hv)
theorem TX_sT {C L a b a' b' : Int} {f : Nat → Int32} {i v : Int32} (hq : ∀ {A B h : Int} {j : Nat} {x : Int32}, a' ≤ (j : Int) → (j : Int) ≤ b' → (kb A B h j x ↔ True)) (hk : TX C L f) (hi_ : rg a b i) (h1 : a' ≤ a ∧ 0 ≤ a) (h2 : b ≤ b') (h3 : (0 ≤ a ∧ b ≤ 0) ∨ (57 ≤ a ∧ b ≤ 88)) : TX C L (upd f i.toNatClampNeg v) := by
  obtain ⟨j, hj, h4, h5⟩ := rg_cl hi_ h1.2
  rw [hj]
  exact TX_f hk (by unfold Fr; omega) ((hq (by omega) (by omega)).mpr trivial)
theorem TX_40 {C L : Int} {f : Nat → Int32} {v : Int32} (hk : TX C L f) (hv : rg 0 999 v) : TX C L (upd f (40 : Int32).toNatClampNeg v) := by
  rw [p40]
  exact TX_f hk (by unfold Fr; omega) ((kb_40 (by decide) (by decide)).mpr hv)
/-- what a thing is told to be -/
def LY (C L : Int) (w c l h : Int32) : Prop := (w = 1 → rg 0 (C - 1) c ∧ rg 0 (L - 1) l) ∧ rg 0 99 h
theorem TX_ly {C L : Int} {f : Nat → Int32} {t w c l h : Int32} (hk : TX C L f) (ht : rg 0 7 t) (hw : rg 0 2 w) (hp : LY C L w c l h) : TX C L (upd (upd (upd (upd f (8 + t).toNatClampNeg w) (16 + t).toNatClampNeg c) (24 + t).toNatClampNeg l) (32 + t).toNatClampNeg h) := by
  have hu := lt7 ht
  rw [p8 ht, p16 ht, p24 ht, p32 ht]
  refine ⟨KX_4 hk.1 hu (fun j a b c d => by rw [pk_un d, pk_un c, pk_un b, pk_un a]) ?_ ?_ ?_, fun u hu2 => ?_⟩
  · rw [pk_un (by omega), pk_un (by omega), pk_un (by omega), pk_us]; exact hw
  · intro q
    rw [pk_un (by omega), pk_un (by omega), pk_un (by omega), pk_us] at q
    rw [pk_un (by omega : 16 + t.toNatClampNeg ≠ 32 + t.toNatClampNeg), pk_un (by omega : 16 + t.toNatClampNeg ≠ 24 + t.toNatClampNeg), pk_us, pk_un (by omega : 24 + t.toNatClampNeg ≠ 32 + t.toNatClampNeg), pk_us, pk_us]
    exact ⟨(hp.1 q).1, (hp.1 q).2, rg_w hp.2 (by decide) (by decide)⟩
  · intro _
    rw [pk_us]
    exact rg_w hp.2 (by decide) (by decide)
  · by_cases e : u = t.toNatClampNeg
    · subst e; rw [pk_us]; exact hp.2
    · rw [pk_un (by omega), pk_un (by omega), pk_un (by omega), pk_un (by omega)]; exact hk.2 u hu2
theorem ly_3 {f : Nat → Int32} {t w c l h : Int32} (ht : rg 0 7 t) : (upd (upd (upd (upd f (8 + t).toNatClampNeg w) (16 + t).toNatClampNeg c) (24 + t).toNatClampNeg l) (32 + t).toNatClampNeg h) 3 = f 3 := by
  have hu := lt7 ht
  rw [p8 ht, p16 ht, p24 ht, p32 ht, pk_un (by omega), pk_un (by omega), pk_un (by omega), pk_un (by omega)]
theorem p4 : (4 : Int32).toNatClampNeg = 4 := by decide
theorem TX_wk {C L : Int} {f : Nat → Int32} {w m n : Int32} (hk : TX C L f) (e : w = f 4) (hw : rg 0 3 w) (hm : rg 1 8 m) (en : n = upd f (53 + w).toNatClampNeg m (4 : Int32).toNatClampNeg) : TX C L (upd (upd f (53 + w).toNatClampNeg m) (4 : Int32).toNatClampNeg (n + 1)) := by
  have hu : w.toNatClampNeg < 4 := by
    unfold rg at hw
    unfold Int32.toNatClampNeg
    omega
  have hu2 : (w.toNatClampNeg : Int) = w.toInt := by
    unfold rg at hw
    unfold Int32.toNatClampNeg
    omega
  rw [cl_53 hw, p4, pk_un (by omega), ← e] at en
  subst en
  rw [cl_53 hw, p4]
  have hn : (n + 1).toInt = n.toInt + 1 := inc32 n (by unfold rg at hw; omega)
  refine ⟨⟨KB_st (KB_st hk.1.1 ((kb_53 (by omega) (by omega)).mpr (rg_w hm (by decide) (by decide)))) ((kb_4 (by decide) (by decide)).mpr (by unfold rg at *; omega)), ⟨fun j hj hlt => ?_, ?_, ?_⟩, KH_cg (fun j hj => by rw [pk_un (by omega), pk_un (by omega)]) hk.1.2.2.1, ?_, ?_⟩, fun t ht => ?_⟩
  · rw [pk_us, hn] at hlt
    rw [pk_un (by omega)]
    by_cases q : j = n.toNatClampNeg
    · subst q; rw [pk_us]; exact hm.1
    · rw [pk_un (by omega)]
      exact hk.1.2.1.1 j hj (by rw [← e]; omega)
  · rw [pk_un (by omega), pk_un (by omega)]
    exact LW1_cg (fun j hj => by rw [pk_un (by omega), pk_un (by omega)]) hk.1.2.1.2.1
  · rw [pk_un (by omega), pk_un (by omega)]
    exact LW1_cg (fun j hj => by rw [pk_un (by omega), pk_un (by omega)]) hk.1.2.1.2.2
  · rw [pk_un (by omega), pk_un (by omega)]; exact hk.1.2.2.2.1
  · rw [pk_un (by omega), pk_un (by omega)]; exact hk.1.2.2.2.2
  · rw [pk_un (by omega), pk_un (by omega)]; exact hk.2 t ht
theorem LW1_0 {f : Nat → Int32} {at_ : Nat} : LW1 f at_ 0 := fun k hk => by omega
theorem TX_b5 {C L : Int} {f : Nat → Int32} (hk : TX C L f) : TX C L (upd f (5 : Int32).toNatClampNeg 0) := by
  rw [show (5 : Int32).toNatClampNeg = 5 from by decide]
  refine ⟨⟨KB_st hk.1.1 ((kb_5 (by decide) (by decide)).mpr (rg_lit (by decide))), ⟨fun j hj hlt => ?_, ?_, ?_⟩, KH_cg (fun j hj => pk_un (by omega)) hk.1.2.2.1, ?_, ?_⟩, fun t ht => ?_⟩
  · rw [pk_un (by omega)] at hlt ⊢
    exact hk.1.2.1.1 j hj hlt
  · rw [pk_us, t0]; exact LW1_0
  · rw [pk_un (by omega)]
    exact LW1_cg (fun j hj => pk_un (by omega)) hk.1.2.1.2.2
  · rw [pk_un (by omega)]; exact hk.1.2.2.2.1
  · rw [pk_un (by omega)]; exact hk.1.2.2.2.2
  · rw [pk_un (by omega)]; exact hk.2 t ht
theorem TX_b6 {C L : Int} {f : Nat → Int32} (hk : TX C L f) : TX C L (upd f (6 : Int32).toNatClampNeg 0) := by
  rw [show (6 : Int32).toNatClampNeg = 6 from by decide]
  refine ⟨⟨KB_st hk.1.1 ((kb_6 (by decide) (by decide)).mpr (rg_lit (by decide))), ⟨fun j hj hlt => ?_, ?_, ?_⟩, KH_cg (fun j hj => pk_un (by omega)) hk.1.2.2.1, ?_, ?_⟩, fun t ht => ?_⟩
  · rw [pk_un (by omega)] at hlt ⊢
    exact hk.1.2.1.1 j hj hlt
  · rw [pk_un (by omega)]
    exact LW1_cg (fun j hj => pk_un (by omega)) hk.1.2.1.2.1
  · rw [pk_us, t0]; exact LW1_0
  · rw [pk_un (by omega)]; exact hk.1.2.2.2.1
  · rw [pk_un (by omega)]; exact hk.1.2.2.2.2
  · rw [pk_un (by omega)]; exact hk.2 t ht
/-! the reading's own facts -/
def TK (b h t : Int32) : Prop := b.toInt ≤ h.toInt ∧ (t.toInt = 0 ∨ b.toInt < h.toInt)
def PA (m a : Nat) (D s : Int) (f : Nat → Int32) (bad b : Int32) : Prop := bad.toInt = 0 → (f m).toInt + s ≤ b.toInt ∧ dpt f a (f m).toNatClampNeg = D
def RO (h b' h' t' : Int32) : Prop := h.toInt ≤ b'.toInt ∧ TK b' h' t'
def CO (bad b bad' b' h' t' : Int32) : Prop := b.toInt ≤ b'.toInt ∧ (bad'.toInt = 0 → bad.toInt = 0) ∧ TK b' h' t'
def CO1 (bad b bad' b' h' t' : Int32) : Prop := CO bad b bad' b' h' t' ∧ (bad'.toInt = 0 → b.toInt + 1 ≤ b'.toInt)
/-- the depth behind a step -/
def dst (x : Int) : Int := if 100 ≤ x then 1 else if x = 18 then 0 else -1
def okS (x D : Int) : Prop := (100 ≤ x → 0 ≤ D ∧ D ≤ 63 ∧ (x < 1000 → x ≤ 105)) ∧ (x = 18 → 1 ≤ D ∧ D ≤ 64) ∧ (x < 100 → x ≠ 18 → 2 ≤ D ∧ D ≤ 64)
theorem ls_TX {C L : Int} {f : Nat → Int32} {m a n : Nat} {st : Int32} (hma : (m = 5 ∧ a = 459) ∨ (m = 6 ∧ a = 1359)) (hk : TX C L f) (hn : (f m).toNatClampNeg = n) (h9 : n ≤ 899) (hs : okS st.toInt (dpt f a n)) (v : Int32) (hv : v.toInt = (n : Int) + 1) : TX C L (upd (upd f (a + n) st) m v) ∧ dpt (upd (upd f (a + n) st) m v) a (n + 1) = dpt f a n + dst st.toInt := by
  have h0 : 0 ≤ (f m).toInt := by
    rcases hma with ⟨rfl, rfl⟩ | ⟨rfl, rfl⟩
    · exact ((kb_5 (by decide) (by decide)).mp (hk.1.1 5 (by decide))).1
    · exact ((kb_6 (by decide) (by decide)).mp (hk.1.1 6 (by decide))).1
  have hm : (f m).toInt = (n : Int) := by
    rw [← hn]
    unfold Int32.toNatClampNeg
    omega
  have hu : ∀ j : Nat, j ≠ a + n → j ≠ m → (upd (upd f (a + n) st) m v) j = f j := fun j q1 q2 => by rw [pk_un q2, pk_un q1]
  have hd : ∀ k : Nat, k ≤ n → dpt (upd (upd f (a + n) st) m v) a k = dpt f a k := fun k hk2 => dpt_cg2 k (fun j hj => hu _ (by omega) (by omega))
  have hst : (upd (upd f (a + n) st) m v) (a + n) = st := by rw [pk_un (by omega), pk_us]
  have hvm : (upd (upd f (a + n) st) m v) m = v := pk_us
  have hL : LW1 f a (f m).toInt := by
    rcases hma with ⟨rfl, rfl⟩ | ⟨rfl, rfl⟩
    · exact hk.1.2.1.2.1
    · exact hk.1.2.1.2.2
  have hown : LW1 (upd (upd f (a + n) st) m v) a ((n : Int) + 1) := fun k hk2 => by
    by_cases q : k = n
    · subst q
      rw [hd k (Nat.le_refl _), hst]
      exact hs
    · rw [hd k (by omega), hu (a + k) (by omega) (by omega)]
      exact hL k (by omega)
  have h5 := (kb_5 (by decide) (by decide)).mp (hk.1.1 5 (by decide))
  have h6 := (kb_6 (by decide) (by decide)).mp (hk.1.1 6 (by decide))
  unfold rg at h5 h6
  refine ⟨⟨⟨fun j hj => ?_, ⟨fun j hj hlt => ?_, ?_, ?_⟩, KH_cg (fun j hj => hu j (by omega) (by omega)) hk.1.2.2.1, ?_, ?_⟩, fun t ht => ?_⟩, ?_⟩
  · by_cases q1 : j = m
    · subst q1
      rw [hvm]
      rcases hma with ⟨rfl, rfl⟩ | ⟨rfl, rfl⟩
      · exact (kb_5 (by decide) (by decide)).mpr (by unfold rg; omega)
      · exact (kb_6 (by decide) (by decide)).mpr (by unfold rg; omega)
    · by_cases q2 : j = a + n
      · subst q2; exact kb_459 (by omega)
      · rw [hu j q2 q1]; exact hk.1.1 j hj
  · rw [hu 4 (by omega) (by omega)] at hlt
    rw [hu (53 + j) (by omega) (by omega)]
    exact hk.1.2.1.1 j hj hlt
  · rcases hma with ⟨rfl, rfl⟩ | ⟨rfl, rfl⟩
    · rw [hvm, hv]; exact hown
    · rw [hu 5 (by omega) (by omega)]
      exact LW1_cg2 (fun j hj => hu _ (by omega) (by omega)) hk.1.2.1.2.1
  · rcases hma with ⟨rfl, rfl⟩ | ⟨rfl, rfl⟩
    · rw [hu 6 (by omega) (by omega)]
      exact LW1_cg2 (fun j hj => hu _ (by omega) (by omega)) hk.1.2.1.2.2
    · rw [hvm, hv]; exact hown
  · rw [hu 1 (by omega) (by omega)]; exact hk.1.2.2.2.1
  · rw [hu 2 (by omega) (by omega)]; exact hk.1.2.2.2.2
  · rw [hu (32 + t) (by omega) (by omega)]; exact hk.2 t ht
  · rw [dpt, hd n (Nat.le_refl _), hst]
    rfl
/-- a step laid -/
theorem ls_of {C L D D' s : Int} {f : Nat → Int32} {m a : Nat} {A M st n n2 bad b : Int32} (hma : (m = 5 ∧ a = 459) ∨ (m = 6 ∧ a = 1359)) (hA : A.toInt = (a : Int)) (hM : M.toNatClampNeg = m) (hk : TX C L f) (hpa : PA m a D (s + 1) f bad b) (hs : 0 ≤ s) (hb : rg 0 0 bad) (hbb : rg 0 900 b) (hst : okS st.toInt D) (hD : D + dst st.toInt = D')
    (en : n = f M.toNatClampNeg) (en2 : n2 = upd f (A + n).toNatClampNeg st M.toNatClampNeg) : TX C L (upd (upd f (A + n).toNatClampNeg st) M.toNatClampNeg (n2 + 1)) ∧ PA m a D' s (upd (upd f (A + n).toNatClampNeg st) M.toNatClampNeg (n2 + 1)) bad b := by
  obtain ⟨h1, h2⟩ := hpa (by unfold rg at hb; omega)
  rw [hM] at en en2 ⊢
  have hr : 0 ≤ n.toInt := by
    rw [en]
    rcases hma with ⟨rfl, rfl⟩ | ⟨rfl, rfl⟩
    · exact ((kb_5 (by decide) (by decide)).mp (hk.1.1 5 (by decide))).1
    · exact ((kb_6 (by decide) (by decide)).mp (hk.1.1 6 (by decide))).1
  rw [← en] at h1 h2
  have hbb2 : b.toInt ≤ 900 := hbb.2
  have hnn : (n.toNatClampNeg : Int) = n.toInt := by
    unfold Int32.toNatClampNeg
    omega
  have e1 : (A + n).toNatClampNeg = a + n.toNatClampNeg := by
    unfold Int32.toNatClampNeg
    rw [add32 A n (by omega) (by omega), hA]
    omega
  rw [e1] at en2 ⊢
  rw [pk_un (by omega), ← en] at en2
  subst en2
  have hv : (n2 + 1).toInt = (n2.toNatClampNeg : Int) + 1 := by rw [inc32 n2 (by omega), hnn]
  have h3 := ls_TX hma hk (by rw [← en]) (by omega) (by rw [h2]; exact hst) (n2 + 1) hv
  refine ⟨h3.1, fun _ => ?_⟩
  rw [pk_us, show (n2 + 1).toNatClampNeg = n2.toNatClampNeg + 1 from by unfold Int32.toNatClampNeg; rw [inc32 n2 (by omega)]; omega, h3.2, h2]
  exact ⟨by rw [inc32 n2 (by omega)]; omega, hD⟩
theorem PA_n {m a : Nat} {D s lo hi : Int} {f : Nat → Int32} {bad b : Int32} (h : rg lo hi bad) (h1 : 1 ≤ lo) : PA m a D s f bad b := fun q => by
  unfold rg at h
  omega
theorem lt_ab {x y : Int32} (h1 : x < y) (h2 : y.toInt ≤ x.toInt) : False := by
  rw [fa_lt] at h1
  omega
theorem ro_e {x v : Int32} (h : x.toInt ≤ v.toInt) : RO x v v 0 := ⟨h, Int.le_refl _, Or.inl t0⟩
theorem ro_s {x v t : Int32} {a b : Int} (h : x.toInt ≤ v.toInt) (hv : rg a b v) (h0 : b ≤ 900) : RO x v (v + 1) t := by
  have e := inc32 v (by unfold rg at hv; omega)
  exact ⟨h, by omega, Or.inr (by omega)⟩
theorem ro_l {x v w t : Int32} (h : x.toInt ≤ v.toInt) (h2 : v.toInt + 1 ≤ w.toInt) : RO x v w t := ⟨h, by omega, Or.inr (by omega)⟩
theorem inc_le {x v : Int32} {a b c : Int} (hv : rg a b v) (h0 : b ≤ 900) (h : c ≤ v.toInt) : c ≤ (v + 1).toInt := by
  rw [inc32 v (by unfold rg at hv; omega)]
  omega
theorem inc_l1 {v : Int32} {a b : Int} (hv : rg a b v) (h0 : b ≤ 900) : v.toInt + 1 ≤ (v + 1).toInt := by
  rw [inc32 v (by unfold rg at hv; omega)]
  omega
theorem co_n {bad b bad' h t : Int32} {lo hi : Int} (htk : TK b h t) (hb : rg lo hi bad') (h1 : 1 ≤ lo) : CO1 bad b bad' b h t := by
  unfold rg at hb
  exact ⟨⟨Int.le_refl _, fun q => by omega, htk⟩, fun q => by omega⟩
theorem co_r {bad b h t b' h' t' : Int32} (htk : TK b h t) (ht : t.toInt ≠ 0) (hro : RO h b' h' t') : CO1 bad b bad b' h' t' := by
  have h1 := htk.1
  have h2 := hro.1
  have h3 : b.toInt < h.toInt := htk.2.resolve_left ht
  exact ⟨⟨by omega, fun q => q, hro.2⟩, fun _ => by omega⟩
theorem co_i {bad b h t : Int32} (htk : TK b h t) : CO bad b bad b h t := ⟨Int.le_refl _, fun q => q, htk⟩
theorem co_tr {a0 b0 a1 b1 a2 b2 h1 t1 h2 t2 : Int32} (x : CO a0 b0 a1 b1 h1 t1) (y : CO a1 b1 a2 b2 h2 t2) : CO a0 b0 a2 b2 h2 t2 := ⟨Int.le_trans x.1 y.1, fun q => x.2.1 (y.2.1 q), y.2.2⟩
theorem co_t1 {a0 b0 a1 b1 a2 b2 h1 t1 h2 t2 : Int32} (x : CO a0 b0 a1 b1 h1 t1) (y : CO1 a1 b1 a2 b2 h2 t2) : CO1 a0 b0 a2 b2 h2 t2 := ⟨co_tr x y.1, fun q => by
  have h1 := y.2 q
  have h2 := x.1
  omega⟩
theorem co_t2 {a0 b0 a1 b1 a2 b2 h1 t1 h2 t2 : Int32} (x : CO1 a0 b0 a1 b1 h1 t1) (y : CO a1 b1 a2 b2 h2 t2) : CO1 a0 b0 a2 b2 h2 t2 := ⟨co_tr x.1 y, fun q => by
  have h1 := x.2 (y.2.1 q)
  have h2 := y.1
  omega⟩
theorem tz {t k : Int32} (h : t = k) (hk : k.toInt ≠ 0) : t.toInt ≠ 0 := by rw [h]; exact hk
theorem tzr {t : Int32} {a b : Int} (h : rg a b t) (h0 : 1 ≤ a) : t.toInt ≠ 0 := by
  unfold rg at h
  omega
theorem bz {b : Int32} {lo hi : Int} (h : rg lo hi b) (h0 : 0 ≤ lo ∧ hi ≤ 0) : b.toInt = 0 := by
  unfold rg at h
  omega
/-- the facts go on over what reads on -/
theorem pa_c {m a : Nat} {D s : Int} {f : Nat → Int32} {bad b bad' b' h' t' : Int32} (h : PA m a D s f bad b) (hc : CO bad b bad' b' h' t') : PA m a D s f bad' b' := fun q => by
  obtain ⟨h1, h2⟩ := h (hc.2.1 q)
  have h3 := hc.1
  exact ⟨by omega, h2⟩
theorem pa_c1 {m a : Nat} {D s : Int} {f : Nat → Int32} {bad b bad' b' h' t' : Int32} (h : PA m a D s f bad b) (hc : CO1 bad b bad' b' h' t') : PA m a D (s + 1) f bad' b' := fun q => by
  obtain ⟨h1, h2⟩ := h (hc.1.2.1 q)
  have h3 := hc.2 q
  exact ⟨by omega, h2⟩
theorem pa_w {m a : Nat} {D s s' : Int} {f : Nat → Int32} {bad b : Int32} (h : PA m a D s f bad b) (hs : s' ≤ s) : PA m a D s' f bad b := fun q => by
  obtain ⟨h1, h2⟩ := h q
  exact ⟨by omega, h2⟩
theorem pa_D {m a : Nat} {D D' s : Int} {f : Nat → Int32} {bad b : Int32} (h : PA m a D s f bad b) (hs : D = D') : PA m a D' s f bad b := hs ▸ h
theorem ms_b {b b' : Int32} {lo hi : Int} (h : b.toInt + 1 ≤ b'.toInt) (hb : rg lo hi b') (h0 : hi ≤ 900) : (900 - b'.toInt).toNat < (900 - b.toInt).toNat := by
  unfold rg at hb
  omega
theorem okS_p {x : Int32} {D a b : Int} (h : rg a b x) (h0 : (100 ≤ a ∧ b ≤ 105) ∨ 1000 ≤ a) (hD : 0 ≤ D ∧ D ≤ 63) : okS x.toInt D ∧ D + dst x.toInt = D + 1 := by
  unfold rg at h
  refine ⟨⟨fun _ => ⟨hD.1, hD.2, fun q => by omega⟩, fun q => by omega, fun q => by omega⟩, ?_⟩
  unfold dst
  rw [if_pos (by omega)]
theorem okS_n {D : Int} (hD : 1 ≤ D ∧ D ≤ 64) : okS (18 : Int32).toInt D ∧ D + dst (18 : Int32).toInt = D := by
  rw [show (18 : Int32).toInt = 18 from by decide]
  refine ⟨⟨fun q => by omega, fun _ => hD, fun _ q => absurd rfl q⟩, ?_⟩
  unfold dst
  rw [if_neg (by omega), if_pos rfl]
  omega
theorem okS_b {x : Int32} {D a b : Int} (h : rg a b x) (h0 : 10 ≤ a ∧ b ≤ 17) (hD : 2 ≤ D ∧ D ≤ 64) : okS x.toInt D ∧ D + dst x.toInt = D - 1 := by
  unfold rg at h
  refine ⟨⟨fun q => by omega, fun q => by omega, fun _ _ => hD⟩, ?_⟩
  unfold dst
  rw [if_neg (by omega), if_neg (by omega)]
  omega
