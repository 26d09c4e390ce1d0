/-! walkers -/
theorem wk_of {f : Nat → Int32} {w n : Int32} (hw : rg 0 3 w) (h : w < n) (e : n = f (4 : Int32).toNatClampNeg) : wk f w := by
  refine ⟨hw, ?_⟩
  rw [fa_lt, e, show (4 : Int32).toNatClampNeg = 4 from by decide] at h
  exact h
theorem wk_of2 {f : Nat → Int32} {w n : Int32} (hw : rg 0 3 w) (h : w.toInt64 ≤ (n - 1).toInt64) (hn : rg 0 4 n) (e : n = f (4 : Int32).toNatClampNeg) : wk f w := by
  refine ⟨hw, ?_⟩
  have e1 : (1 : Int32).toInt = 1 := by decide
  rw [fa_le64, Int32.toInt_toInt64, Int32.toInt_toInt64, sub32 n 1 (by unfold rg at hn; rw [e1]; omega) (by unfold rg at hn; rw [e1]; omega), e1] at h
  rw [e, show (4 : Int32).toNatClampNeg = 4 from by decide] at h
  omega
/-! a law's steps and how many numbers wait -/
theorem lw_ix {a : Nat} {A k : Int32} (hA : A.toInt = a) (ha : a ≤ 1359) (hk : rg 0 899 k) : (A + k).toNatClampNeg = a + k.toNatClampNeg := by
  unfold rg at hk
  unfold Int32.toNatClampNeg
  rw [add32 A k (by omega) (by omega), hA]
  omega
theorem lw_k {k : Int32} (hk : rg 0 899 k) : (k + 1).toNatClampNeg = k.toNatClampNeg + 1 := by
  unfold rg at hk
  unfold Int32.toNatClampNeg
  rw [inc32 k (by omega)]
  omega
theorem lw_lt {N k : Int32} (h : k < N) (hk : rg 0 899 k) : (k.toNatClampNeg : Int) < N.toInt := by
  rw [fa_lt] at h
  unfold rg at hk
  unfold Int32.toNatClampNeg
  omega
section Lws
variable {f : Nat → Int32} {a : Nat} {A N k st n : Int32} {lo hi : Int}
theorem lw_1 (hl : LW1 f a N.toInt) (hA : A.toInt = a) (ha : a ≤ 1359) (hlt : k < N) (hk : rg 0 899 k) (e : st = f (A + k).toNatClampNeg) (hn : n.toInt = dpt f a k.toNatClampNeg) (hs : rg lo hi st) (h0 : 100 ≤ lo) : rg 0 63 n ∧ (st < 1000 → rg 100 105 st) := by
  have h1 := (hl k.toNatClampNeg (lw_lt hlt hk)).1
  rw [← lw_ix hA ha hk, ← e] at h1
  unfold rg at *
  obtain ⟨h2, h3, h4⟩ := h1 (by omega)
  refine ⟨⟨by omega, by omega⟩, fun q => ?_⟩
  rw [fa_lt, show (1000 : Int32).toInt = 1000 from by decide] at q
  have := h4 q
  constructor <;> omega
theorem lw_2 (hl : LW1 f a N.toInt) (hA : A.toInt = a) (ha : a ≤ 1359) (hlt : k < N) (hk : rg 0 899 k) (e : st = f (A + k).toNatClampNeg) (hn : n.toInt = dpt f a k.toNatClampNeg) (hs : rg 18 18 st) : rg 1 64 n := by
  have h1 := (hl k.toNatClampNeg (lw_lt hlt hk)).2.1
  rw [← lw_ix hA ha hk, ← e] at h1
  unfold rg at *
  have := h1 (by omega)
  omega
theorem lw_3 (hl : LW1 f a N.toInt) (hA : A.toInt = a) (ha : a ≤ 1359) (hlt : k < N) (hk : rg 0 899 k) (e : st = f (A + k).toNatClampNeg) (hn : n.toInt = dpt f a k.toNatClampNeg) (hs : rg lo hi st) (h0 : hi ≤ 99) (h1 : ¬ st = 18) : rg 2 64 n := by
  have h2 := (hl k.toNatClampNeg (lw_lt hlt hk)).2.2
  rw [← lw_ix hA ha hk, ← e] at h2
  rw [fa_eq, show (18 : Int32).toInt = 18 from by decide] at h1
  unfold rg at *
  have := h2 (by omega) h1
  omega
theorem lw_s1 (hA : A.toInt = a) (ha : a ≤ 1359) (hk : rg 0 899 k) (e : st = f (A + k).toNatClampNeg) (hn : n.toInt = dpt f a k.toNatClampNeg) (hs : rg lo hi st) (h0 : 100 ≤ lo) (hr : rg 0 63 n) : (n + 1).toInt = dpt f a (k + 1).toNatClampNeg := by
  rw [lw_k hk, dpt, ← lw_ix hA ha hk, ← e, ← hn]
  unfold rg at *
  rw [if_pos (by omega), inc32 n (by omega)]
theorem lw_s2 (hA : A.toInt = a) (ha : a ≤ 1359) (hk : rg 0 899 k) (e : st = f (A + k).toNatClampNeg) (hn : n.toInt = dpt f a k.toNatClampNeg) (hs : rg 18 18 st) : n.toInt = dpt f a (k + 1).toNatClampNeg := by
  rw [lw_k hk, dpt, ← lw_ix hA ha hk, ← e, ← hn]
  unfold rg at *
  rw [if_neg (by omega), if_pos (by omega)]
  omega
theorem lw_s3 (hA : A.toInt = a) (ha : a ≤ 1359) (hk : rg 0 899 k) (e : st = f (A + k).toNatClampNeg) (hn : n.toInt = dpt f a k.toNatClampNeg) (hs : rg lo hi st) (h0 : hi ≤ 99) (h1 : ¬ st = 18) (hr : rg 2 64 n) : (n + (-1)).toInt = dpt f a (k + 1).toNatClampNeg := by
  rw [fa_eq, show (18 : Int32).toInt = 18 from by decide] at h1
  rw [lw_k hk, dpt, ← lw_ix hA ha hk, ← e, ← hn]
  unfold rg at *
  rw [if_neg (by omega), if_neg (by omega), dec32 n (by omega)]
  omega
theorem lw_0 : (0 : Int32).toInt = dpt f a (0 : Int32).toNatClampNeg := by
  rw [show (0 : Int32).toNatClampNeg = 0 from by decide]
  rfl
end Lws
theorem lw_N5 {h : Int} {f : Nat → Int32} {n : Int32} (hk : KX h f) (e : n = f (5 : Int32).toNatClampNeg) : LW1 f 459 n.toInt := by
  rw [e, show (5 : Int32).toNatClampNeg = 5 from by decide]
  exact hk.2.2.1
theorem lw_N6 {h : Int} {f : Nat → Int32} {n : Int32} (hk : KX h f) (e : n = f (6 : Int32).toNatClampNeg) : LW1 f 1359 n.toInt := by
  rw [e, show (6 : Int32).toNatClampNeg = 6 from by decide]
  exact hk.2.2.2
