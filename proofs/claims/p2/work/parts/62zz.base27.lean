/-! places told, things told -/
def col (C : Int) (c : Int64) : Prop := 0 ≤ c.toInt ∧ c.toInt < C
def lth (f : Nat → Int32) (t : Int64) : Prop := rl 0 7 t ∧ t.toInt < (f 3).toInt
theorem sb64 {n : Int32} {c : Int64} {a b : Int} (h2 : c ≤ (n - 1).toInt64) (hn : rg a b n) (h0 : 0 ≤ a) : c.toInt < n.toInt := by
  have e1 : (1 : Int32).toInt = 1 := by decide
  rw [fa_le64, Int32.toInt_toInt64, sub32 n 1 (by unfold rg at hn; rw [e1]; omega) (by unfold rg at hn; rw [e1]; have := rng32 n; omega), e1] at h2
  omega
theorem col_of {C L A B h a b : Int} {f : Nat → Int32} {n : Int32} {c : Int64} (hk : KX C L A B h f) (hr : rl a b c) (h0 : 0 ≤ a) (h2 : c ≤ (n - 1).toInt64) (hn : rg 1 6 n) (e : n = f (1 : Int32).toNatClampNeg) : col C c := by
  have h4 := sb64 h2 hn (by decide)
  rw [show (1 : Int32).toNatClampNeg = 1 from by decide] at e
  have h3 := hk.2.2.2.1
  rw [← e] at h3
  unfold rl at hr
  exact ⟨by omega, by omega⟩
theorem lev_of {C L A B h a b : Int} {f : Nat → Int32} {n : Int32} {c : Int64} (hk : KX C L A B h f) (hr : rl a b c) (h0 : 0 ≤ a) (h2 : c ≤ (n - 1).toInt64) (hn : rg 1 9 n) (e : n = f (2 : Int32).toNatClampNeg) : col L c := by
  have h4 := sb64 h2 hn (by decide)
  rw [show (2 : Int32).toNatClampNeg = 2 from by decide] at e
  have h3 := hk.2.2.2.2
  rw [← e] at h3
  unfold rl at hr
  exact ⟨by omega, by omega⟩
theorem lth_of {f : Nat → Int32} {n : Int32} {t : Int64} {a b : Int} (hr : rl a b t) (h0 : 0 ≤ a ∧ b ≤ 7) (h2 : t ≤ (n - 1).toInt64) (hn : rg 0 8 n) (e : n = f (3 : Int32).toNatClampNeg) : lth f t := by
  have h4 := sb64 h2 hn (by decide)
  rw [p3] at e
  rw [e] at h4
  exact ⟨rl_w hr h0.1 h0.2, h4⟩
def wl0 (C L : Int) (f : Nat → Int32) (t c l : Int64) : Prop := lth f t ∧ (col C c ∧ col L l) ∧ f (8 + t.toInt32).toNatClampNeg = 0
theorem i32_64 (t : Int32) : t.toInt64.toInt32 = t := by
  rw [fa_eq, Int64.toInt_toInt32, Int32.toInt_toInt64]
  have := rng32 t
  first | (rw [Int.bmod_eq_of_le (by omega) (by omega)]) | (unfold Int.bmod; omega)
theorem col_32 {C : Int} {c : Int32} (h : col C c.toInt64) : rg 0 (C - 1) c := by
  unfold col at h
  rw [Int32.toInt_toInt64] at h
  exact ⟨h.1, by omega⟩
theorem th_of {f : Nat → Int32} {t : Int32} (h : lth f t.toInt64) : th f t := by
  unfold lth rl at h
  rw [Int32.toInt_toInt64] at h
  exact ⟨⟨h.1.1, h.1.2⟩, h.2⟩
theorem wl_h {C L : Int} {f g : Nat → Int32} {t : Int32} {c l : Int64} (h : wl0 C L f t.toInt64 c l) (hk : KK f g) (ht : rg 0 7 t) : g (8 + t).toNatClampNeg = 0 := by
  have h1 := h.2.2
  have hu := lt7 ht
  rw [i32_64, p8 ht] at h1
  rw [p8 ht, hk _ (by omega)]
  exact h1
theorem d32 {v d : Int32} {k : Int} (hv : 0 ≤ v.toInt) (hd : d.toInt = k) (h0 : 0 < k) : (v / d).toInt = v.toInt / k := by
  have hny : d ≠ -1 := fun h => by
    rw [h, show (-1 : Int32).toInt = -1 from by decide] at hd
    omega
  rw [Int32.toInt_div_of_ne_right _ _ hny, hd, Int.tdiv_eq_ediv_of_nonneg hv]
theorem r32 {v d : Int32} {k : Int} (hv : 0 ≤ v.toInt) (hd : d.toInt = k) (h0 : 0 < k) : (v - v / d * d).toInt = v.toInt % k := by
  have hr := rng32 v
  have e1 := d32 hv hd h0
  have h1 : v.toInt / k * k + v.toInt % k = v.toInt := by rw [Int.mul_comm]; exact Int.mul_ediv_add_emod v.toInt k
  have h2 : 0 ≤ v.toInt % k := Int.emod_nonneg _ (by omega)
  have h4 : 0 ≤ v.toInt / k * k := Int.mul_nonneg (Int.ediv_nonneg hv (by omega)) (by omega)
  have e2 : (v / d * d).toInt = v.toInt / k * k := by rw [mul32 _ _ (by rw [e1, hd]; omega) (by rw [e1, hd]; omega), e1, hd]
  rw [sub32 _ _ (by rw [e2]; omega) (by rw [e2]; omega), e2]
  omega
theorem mul64 (x y : Int64) (h1 : -9223372036854775808 ≤ x.toInt * y.toInt) (h2 : x.toInt * y.toInt < 9223372036854775808) : (x * y).toInt = x.toInt * y.toInt := by
  rw [Int64.toInt_mul]
  have e : (2 : Int) ^ 64 = 18446744073709551616 := by decide
  first | (rw [Int.bmod_eq_of_le (by omega) (by omega)]) | (unfold Int.bmod; omega)
theorem d64 {v d : Int64} {k : Int} (hv : 0 ≤ v.toInt) (hd : d.toInt = k) (h0 : 0 < k) : (v / d).toInt = v.toInt / k := by
  have hny : d ≠ -1 := fun h => by
    rw [h, show (-1 : Int64).toInt = -1 from by decide] at hd
    omega
  rw [Int64.toInt_div_of_ne_right _ _ hny, hd, Int.tdiv_eq_ediv_of_nonneg hv]
theorem r64 {v d : Int64} {k : Int} (hv : 0 ≤ v.toInt) (hd : d.toInt = k) (h0 : 0 < k) : (v - v / d * d).toInt = v.toInt % k := by
  have hr1 := Int64.le_toInt v
  have hr2 := Int64.toInt_lt v
  have e1 := d64 hv hd h0
  have h1 : v.toInt / k * k + v.toInt % k = v.toInt := by rw [Int.mul_comm]; exact Int.mul_ediv_add_emod v.toInt k
  have h2 : 0 ≤ v.toInt % k := Int.emod_nonneg _ (by omega)
  have h4 : 0 ≤ v.toInt / k * k := Int.mul_nonneg (Int.ediv_nonneg hv (by omega)) (by omega)
  have e2 : (v / d * d).toInt = v.toInt / k * k := by rw [mul64 _ _ (by rw [e1, hd]; omega) (by rw [e1, hd]; omega), e1, hd]
  rw [sub64 _ _ (by rw [e2]; omega) (by rw [e2]; omega), e2]
  omega
/-- a deed told by a number -/
def wt (C L : Int) (f : Nat → Int32) (n : Int) : Prop := n < 0 ∨ 799 < n ∨ (f (8 + (n / 100).toNat) = 0 ∧ n / 10 % 10 < C ∧ n % 10 < L)
theorem wt_of {C L a b : Int} {f : Nat → Int32} {v : Int64} (hv : rl a b v) (h0 : 0 ≤ a ∧ b ≤ 799) (h : wl0 C L f (v / 100) (v / 10 - v / 10 / 10 * 10) (v - v / 10 * 10)) : wt C L f v.toInt := by
  unfold rl at hv
  have e1 : (v / 100).toInt = v.toInt / 100 := d64 (by omega) (by decide) (by decide)
  have e2 : (v / 10).toInt = v.toInt / 10 := d64 (by omega) (by decide) (by decide)
  have e3 : (v / 10 - v / 10 / 10 * 10).toInt = v.toInt / 10 % 10 := by rw [r64 (k := 10) (by rw [e2]; omega) (by decide) (by decide), e2]
  have e4 : (v - v / 10 * 10).toInt = v.toInt % 10 := r64 (by omega) (by decide) (by decide)
  obtain ⟨h1, ⟨h2, h3⟩, h4⟩ := h
  have e5 : (v / 100).toInt32.toInt = v.toInt / 100 := by
    rw [Int64.toInt_toInt32, e1]
    first | (rw [Int.bmod_eq_of_le (by omega) (by omega)]) | (unfold Int.bmod; omega)
  have hr : rg 0 7 (v / 100).toInt32 := by
    unfold rg
    rw [e5]
    omega
  have e6 : (v / 100).toInt32.toNatClampNeg = (v.toInt / 100).toNat := by
    unfold Int32.toNatClampNeg
    rw [e5]
  rw [p8 hr, e6] at h4
  exact Or.inr (Or.inr ⟨h4, by rw [← e3]; exact h2.2, by rw [← e4]; exact h3.2⟩)
theorem wt_lo {C L : Int} {f : Nat → Int32} {n : Int} (h : n < 0 ∨ 799 < n) : wt C L f n := by
  rcases h with h | h
  · exact Or.inl h
  · exact Or.inr (Or.inl h)
theorem wt_kk {C L : Int} {f g : Nat → Int32} {n : Int} (h : wt C L f n) (hk : KK f g) : wt C L g n := by
  rcases h with h | h | ⟨h1, h2, h3⟩
  · exact Or.inl h
  · exact Or.inr (Or.inl h)
  · by_cases q : n < 0 ∨ 799 < n
    · exact wt_lo q
    · refine Or.inr (Or.inr ⟨?_, h2, h3⟩)
      rw [hk _ (by omega)]
      exact h1
theorem wt_32 {C L a b : Int} {f : Nat → Int32} {w : Int64} (h : wt C L f w.toInt) (hw : rl a b w) (h0 : -1000000 ≤ a ∧ b ≤ 1000000) : wt C L f w.toInt32.toInt := by
  have e : w.toInt32.toInt = w.toInt := by
    unfold rl at hw
    rw [Int64.toInt_toInt32]
    first | (rw [Int.bmod_eq_of_le (by omega) (by omega)]) | (unfold Int.bmod; omega)
  rw [e]
  exact h
theorem wt_64 {C L : Int} {f : Nat → Int32} {v : Int32} (h : wt C L f v.toInt64.toInt) : wt C L f v.toInt := by
  rw [Int32.toInt_toInt64] at h
  exact h
theorem wt_h {C L : Int} {f : Nat → Int32} {v : Int32} (h : wt C L f v.toInt) (hv : rg 0 799 v) : f (8 + v / 100).toNatClampNeg = 0 := by
  unfold rg at hv
  have e1 : (v / 100).toInt = v.toInt / 100 := d32 (by omega) (by decide) (by decide)
  have hr : rg 0 7 (v / 100) := by
    unfold rg
    rw [e1]
    omega
  rcases h with h | h | h
  · omega
  · omega
  · rw [p8 hr, show (v / 100).toNatClampNeg = (v.toInt / 100).toNat from by unfold Int32.toNatClampNeg; rw [e1]]
    exact h.1
theorem wt_c {C L : Int} {f : Nat → Int32} {v : Int32} (h : wt C L f v.toInt) (hv : rg 0 799 v) : rg 0 (C - 1) (v / 10 - v / 10 / 10 * 10) := by
  unfold rg at *
  have e2 : (v / 10).toInt = v.toInt / 10 := d32 (by omega) (by decide) (by decide)
  rw [r32 (k := 10) (by rw [e2]; omega) (by decide) (by decide), e2]
  rcases h with h | h | h
  · omega
  · omega
  · omega
theorem wt_l {C L : Int} {f : Nat → Int32} {v : Int32} (h : wt C L f v.toInt) (hv : rg 0 799 v) : rg 0 (L - 1) (v - v / 10 * 10) := by
  unfold rg at *
  rw [r32 (k := 10) (by omega) (by decide) (by decide)]
  rcases h with h | h | h
  · omega
  · omega
  · omega
