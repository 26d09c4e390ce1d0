/-! more of ranges; how far a number has gone at least -/
theorem rg_ab {a b c d : Int} {x : Int32} {P : Prop} (h1 : rg a b x) (h2 : rg c d x) (h : b < c ∨ d < a) : P := by
  unfold rg at h1 h2
  exact absurd h (by omega)
theorem rg_cut {a b c d : Int} {x : Int32} (h1 : rg a b x) (h2 : rg c d x) : rg (max a c) (min b d) x := by
  unfold rg at *
  omega
def mo (b : Int32) (d : Int) (x : Int32) : Prop := b.toInt + d ≤ x.toInt
theorem mo_rf (b : Int32) : mo b 0 b := by unfold mo; omega
theorem mo_w {b x : Int32} {d e : Int} (h : mo b d x) (h1 : e ≤ d) : mo b e x := by unfold mo at *; omega
theorem mo_tr {a b x : Int32} {d e : Int} (h : mo a d b) (h1 : mo b e x) : mo a (d + e) x := by unfold mo at *; omega
theorem mo_add {b x y : Int32} {d lo hi k : Int} (h : mo b d x) (hx : rg lo hi x) (hy : y.toInt = k) (h0 : 0 ≤ k) (h1 : hi + k ≤ 2147483647) : mo b (d + k) (x + y) := by
  have hr := rng32 x
  unfold mo rg at *
  rw [add32 x y (by omega) (by omega)]
  omega

theorem rg_eqab {a b c d : Int} {x y : Int32} {P : Prop} (h : x = y) (hx : rg a b x) (hy : rg c d y) (h1 : b < c ∨ d < a) : P := by
  rw [← h] at hy
  exact rg_ab hx hy h1
theorem rg_ne0 {k : Int} {x y : Int32} {P : Prop} (h : ¬ x = y) (hx : rg k k x) (hy : rg k k y) : P := by
  unfold rg at hx hy
  rw [fa_eq] at h
  exact absurd (show x.toInt = y.toInt by omega) h
theorem rg_div {d a b e f : Int} {x y : Int32} (hx : rg a b x) (hy : y.toInt = d) (hd : 0 < d ∧ 0 ≤ a) (h1 : e ≤ a / d) (h2 : b / d ≤ f) : rg e f (x / y) := by
  unfold rg at *
  have hny : y ≠ -1 := fun h => by
    rw [h, show (-1 : Int32).toInt = -1 from by decide] at hy
    omega
  have e1 : (x / y).toInt = x.toInt / d := by rw [Int32.toInt_div_of_ne_right _ _ hny, hy, Int.tdiv_eq_ediv_of_nonneg (by omega)]
  have h3 : a / d ≤ x.toInt / d := Int.ediv_le_ediv hd.1 hx.1
  have h4 : x.toInt / d ≤ b / d := Int.ediv_le_ediv hd.1 hx.2
  rw [e1]
  omega
/-! ranges of longs -/
def rl (lo hi : Int) (x : Int64) : Prop := lo ≤ x.toInt ∧ x.toInt ≤ hi
theorem rl_lit {lo hi : Int} {x : Int64} (h : decide (lo ≤ x.toInt ∧ x.toInt ≤ hi) = true) : rl lo hi x := (of_decide_eq_true h : lo ≤ x.toInt ∧ x.toInt ≤ hi)
theorem rl_any (x : Int64) : rl (-9223372036854775808) 9223372036854775807 x := ⟨Int64.le_toInt x, by have h := Int64.toInt_lt x; omega⟩
theorem rl_w {lo hi lo' hi' : Int} {x : Int64} (h : rl lo hi x) (h1 : lo' ≤ lo) (h2 : hi ≤ hi') : rl lo' hi' x := ⟨Int.le_trans h1 h.1, Int.le_trans h.2 h2⟩
theorem rl_lt1 {a b c d e : Int} {x y : Int64} (h : x < y) (hx : rl a b x) (hy : rl c d y) (h1 : d - 1 ≤ e) : rl a e x := by
  rw [fa_lt64] at h
  unfold rl at *
  omega
theorem rl_lt2 {a b c d e : Int} {x y : Int64} (h : x < y) (hx : rl a b x) (hy : rl c d y) (h1 : e ≤ a + 1) : rl e d y := by
  rw [fa_lt64] at h
  unfold rl at *
  omega
theorem rl_le1 {a b c d e : Int} {x y : Int64} (h : x ≤ y) (hx : rl a b x) (hy : rl c d y) (h1 : d ≤ e) : rl a e x := by
  rw [fa_le64] at h
  unfold rl at *
  omega
theorem rl_le2 {a b c d e : Int} {x y : Int64} (h : x ≤ y) (hx : rl a b x) (hy : rl c d y) (h1 : e ≤ a) : rl e d y := by
  rw [fa_le64] at h
  unfold rl at *
  omega
theorem rl_nlt {x y : Int64} (h : ¬ x < y) : y ≤ x := by
  rw [fa_lt64] at h
  rw [fa_le64]
  omega
theorem rl_nle {x y : Int64} (h : ¬ x ≤ y) : y < x := by
  rw [fa_le64] at h
  rw [fa_lt64]
  omega
theorem rl_eq {a b : Int} {x y : Int64} (h : x = y) (hy : rl a b y) : rl a b x := by rw [h]; exact hy
theorem rl_l2i {a b : Int} {x : Int64} (h : rl a b x) (h1 : -2147483648 ≤ a) (h2 : b ≤ 2147483647) : rg a b x.toInt32 := by
  unfold rl at h
  unfold rg
  have e : x.toInt32.toInt = x.toInt := by
    rw [Int64.toInt_toInt32]
    first | (rw [Int.bmod_eq_of_le (by omega) (by omega)]) | (unfold Int.bmod; omega)
  rw [e]
  exact h
theorem rl_i2l {a b : Int} {x : Int32} (h : rg a b x) : rl a b x.toInt64 := by
  unfold rg at h
  unfold rl
  rw [Int32.toInt_toInt64]
  exact h
