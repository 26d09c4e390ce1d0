/-! forecasts -/
theorem ms_0 {H : Nat} {m n : Int32} {P : Nat} (h : ¬ m = 0) (hm : rg 0 1 m) (hn : rg 0 0 n) (e : P = H) : 2 * P + n.toNatClampNeg < 2 * H + m.toNatClampNeg := by
  rw [fa_eq, t0] at h
  unfold rg at hm hn
  unfold Int32.toNatClampNeg
  omega
theorem ms_1 {f g : Nat → Int32} {m n : Int32} (h : NF f g) (hn : rg 1 1 n) : 2 * hcn g 8 + n.toNatClampNeg < 2 * hcn f 8 + m.toNatClampNeg := by
  have := h.2
  unfold rg at hn
  unfold Int32.toNatClampNeg
  omega
theorem wk_su {f g : Nat → Int32} {w : Int32} (h : wk f w) (hs : SU f g) : wk g w := ⟨h.1, by rw [hs 4 (by omega)]; exact h.2⟩
theorem dn_h {f g : Nat → Int32} {t : Int32} (h : DN f g) (ht : rg 0 7 t) (h0 : f (8 + t).toNatClampNeg = 0) : g (8 + t).toNatClampNeg = 0 := by
  rw [p8 ht] at h0 ⊢
  rw [((h.2 _ (lt7 ht)).1 (by rw [h0]; decide)).1]
  exact h0
theorem NXr {C L A B h : Int} {f : Nat → Int32} {r t : Int32} (hk : KX C L A B h f) (hx : NX f r) (ht : th f t) (h1 : f (8 + t).toNatClampNeg = 1) : rg (-2000000) 4000000 r := NX_rg hk hx (NX_th hk hx ht h1)
theorem NFd {C L A B h : Int} {f g : Nat → Int32} {r t : Int32} (hk : KX C L A B h f) (hx : NX f r) (ht : th f t) (h1 : f (8 + t).toNatClampNeg = 1) (hg : GP f g r) : hcn g 8 < hcn f 8 := (NF_of hx (NX_th hk hx ht h1) hg).2
/-- one may be let go there -/
def wo (C L : Int) (f : Nat → Int32) (t c l : Int32) : Prop := th f t ∧ f (8 + t).toNatClampNeg = 0 ∧ rg 0 (C - 1) c ∧ rg 0 (L - 1) l
theorem wo_of {C L : Int} {f : Nat → Int32} {t c l : Int32} (h1 : lth f t.toInt64) (h2 : col C c.toInt64 ∧ col L l.toInt64) (h3 : f (8 + t).toNatClampNeg = 0) : wo C L f t c l := ⟨th_of h1, h3, col_32 h2.1, col_32 h2.2⟩
theorem c_lt {C L A B h a b : Int} {f : Nat → Int32} {c n : Int32} (hk : KX C L A B h f) (hc : rg a b c) (h0 : 0 ≤ a) (hlt : c < n) (e : n = f (1 : Int32).toNatClampNeg) : rg 0 (C - 1) c := by
  rw [show (1 : Int32).toNatClampNeg = 1 from by decide] at e
  have h3 := hk.2.2.2.1
  rw [← e] at h3
  rw [fa_lt] at hlt
  unfold rg at *
  omega
theorem l_lt {C L A B h a b : Int} {f : Nat → Int32} {c n : Int32} (hk : KX C L A B h f) (hc : rg a b c) (h0 : 0 ≤ a) (hlt : c < n) (e : n = f (2 : Int32).toNatClampNeg) : rg 0 (L - 1) c := by
  rw [show (2 : Int32).toNatClampNeg = 2 from by decide] at e
  have h3 := hk.2.2.2.2
  rw [← e] at h3
  rw [fa_lt] at hlt
  unfold rg at *
  omega
theorem rlt {r : Int32} {a b : Int} (h : rg a b r) (h0 : b ≤ 536870911) : r.toInt < 536870912 := by
  unfold rg at h
  omega
theorem th_mn {f : Nat → Int32} {t n a : Int32} (ht : rg 0 7 t) (h : t < (if n < a then n else a)) (e : n = f (3 : Int32).toNatClampNeg) : th f t := by
  refine ⟨ht, ?_⟩
  rw [p3] at e
  rw [fa_lt, mm_min, e] at h
  omega
