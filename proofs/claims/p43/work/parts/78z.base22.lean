theorem sub64 (x y : Int64) (h1 : -9223372036854775808 ≤ x.toInt - y.toInt) (h2 : x.toInt - y.toInt < 9223372036854775808) : (x - y).toInt = x.toInt - y.toInt := by
  rw [Int64.toInt_sub]
  first | (rw [Int.bmod_eq_of_le (by omega) (by omega)]) | (unfold Int.bmod; omega)
theorem rl_sb {a b c d n e g : Int} {x k : Int64} (h : rl a b (x - k)) (hx : rl c d x) (hk : k.toInt = n) (h1 : -9223372036854775808 ≤ c - n) (h2 : d - n < 9223372036854775808) (h3 : e ≤ a + n) (h4 : b + n ≤ g) : rl e g x := by
  unfold rl at *
  rw [sub64 x k (by omega) (by omega)] at h
  omega
