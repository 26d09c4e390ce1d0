/-! rows of a length that is a number of the program -/
theorem rg_nn {a b : Int} {x : Int32} (h : rg a b x) (h1 : 0 ≤ a) : ¬ x < 0 := fun q => by
  rw [fa_lt, show (0 : Int32).toInt = 0 from by decide] at q
  unfold rg at h
  omega
theorem len_of {a b : Int} {x : Int32} {N : Nat} (h : rg a b x) (e : x.toNatClampNeg = N) (h1 : b ≤ 900) : N ≤ 900 := by
  unfold rg at h
  rw [← e]
  unfold Int32.toNatClampNeg
  omega
theorem len_by {N : Nat} (h : N ≤ 900) : N * componentBytes .int ≤ 536870912 := by
  have e : componentBytes .int = 4 := rfl
  rw [e]
  omega
theorem len_cl {N : Nat} (h : N ≤ 900) : (Int32.ofNat N).toNatClampNeg = N := by
  unfold Int32.toNatClampNeg
  rw [Int32.toInt_ofNat_of_lt (by omega)]
  omega
theorem len_nn {N : Nat} (h : N ≤ 900) : ¬ Int32.ofNat N < 0 := fun q => by
  rw [fa_lt, show (0 : Int32).toInt = 0 from by decide, Int32.toInt_ofNat_of_lt (by omega)] at q
  omega
theorem len_c0 {N : Nat} (h : N ≤ 900) : (0 : Int32).toNatClampNeg + (Int32.ofNat N).toNatClampNeg ≤ 900 := by
  rw [len_cl h, show (0 : Int32).toNatClampNeg = 0 from by decide]
  omega
theorem len_c1 {N : Nat} (h : N ≤ 900) : (0 : Int32).toNatClampNeg + (Int32.ofNat N).toNatClampNeg ≤ N := by
  rw [len_cl h, show (0 : Int32).toNatClampNeg = 0 from by decide]
  omega
