theorem tri3 (y : Int32) : rg (-2147483648) (-1) y ∨ rg (4) (2147483647) y ∨ rg (0) (3) y := by
  have h := rg_any y
  unfold rg at *
  omega
theorem tri2 (y : Int32) : rg (-2147483648) (-1) y ∨ rg (3) (2147483647) y ∨ rg (0) (2) y := by
  have h := rg_any y
  unfold rg at *
  omega
theorem tri_3 {y : Int32} (h : rg (0) (3) y) : y.toNatClampNeg < 4 := by
  have h1 := Int32.toNat_toInt y
  have h2 := h.1
  have h3 := h.2
  omega
theorem tri_2 {y : Int32} (h : rg (0) (2) y) : y.toNatClampNeg < 3 := by
  have h1 := Int32.toNat_toInt y
  have h2 := h.1
  have h3 := h.2
  omega
theorem sg_two {Xs : List va_W} {R : va_W} : (Xs ++ [R]).flatten.Perm (List.flatten [Xs.flatten, R]) := List.Perm.of_eq (by rw [List.flatten_append]; rfl)
theorem db_T {x t : Int32} (h : db x t 20) : x.toInt ≤ t.toInt + 20 := by unfold db at h; omega
theorem tl20 {a b : Int32} {k : Int} (h : a = b) (hk : 0 ≤ k := by decide) : a.toInt ≤ b.toInt + k := by rw [h]; omega
