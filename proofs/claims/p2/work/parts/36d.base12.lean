/-! one number by another -/
def db (x y : Int32) (c : Int) : Prop := x.toInt ≤ y.toInt + c
theorem db_rf (x : Int32) : db x x 0 := by unfold db; omega
theorem db_w {x y : Int32} {c d : Int} (h : db x y c) (h1 : c ≤ d) : db x y d := by unfold db at *; omega
theorem db_rg {a b c d e : Int} {x y : Int32} (hx : rg a b x) (hy : rg c d y) (h : b - c ≤ e) : db x y e := by unfold db rg at *; omega
theorem db_al {x y k : Int32} {c a b n : Int} (h : db x y c) (hx : rg a b x) (hk : k.toInt = n) (h1 : -2147483648 ≤ a + n) (h2 : b + n ≤ 2147483647) : db (x + k) y (c + n) := by
  unfold db rg at *
  rw [add32 x k (by omega) (by omega)]
  omega
theorem db_ar {x y k : Int32} {c a b n : Int} (h : db x y c) (hy : rg a b y) (hk : k.toInt = n) (h1 : -2147483648 ≤ a + n) (h2 : b + n ≤ 2147483647) : db x (y + k) (c - n) := by
  unfold db rg at *
  rw [add32 y k (by omega) (by omega)]
  omega
theorem db_lt {x y w : Int32} {c : Int} (h : x < y) (h1 : db y w c) : db x w (c - 1) := by
  rw [fa_lt] at h
  unfold db at *
  omega
theorem db_le {x y w : Int32} {c : Int} (h : x ≤ y) (h1 : db y w c) : db x w (c - 0) := by
  rw [fa_le] at h
  unfold db at *
  omega
theorem db_hi {x y : Int32} {a b c d e f : Int} (h : db x y c) (hx : rg a b x) (hy : rg d e y) (h1 : e + c ≤ f) : rg a f x := by unfold db rg at *; omega
theorem db_tr {x y w : Int32} {c d : Int} (h : db x y c) (h1 : db y w d) : db x w (c + d) := by unfold db at *; omega
theorem mo_lo {b x : Int32} {d lo hi lo2 hi2 e : Int} (h : mo b d x) (hb : rg lo hi b) (hx : rg lo2 hi2 x) (h1 : e ≤ lo + d) : rg e hi2 x := by unfold mo rg at *; omega
theorem rg_sl {a b lo hi : Int} {x : Int32} (h : rg a b x) (h1 : b < lo) : x.toInt < lo ∨ hi < x.toInt := by unfold rg at h; omega
theorem rg_sh {a b lo hi : Int} {x : Int32} (h : rg a b x) (h1 : hi < a) : x.toInt < lo ∨ hi < x.toInt := by unfold rg at h; omega
theorem mo_rg {a b c d e : Int} {x y : Int32} (hx : rg a b x) (hy : rg c d y) (h : e ≤ c - b) : mo x e y := by unfold mo rg at *; omega
