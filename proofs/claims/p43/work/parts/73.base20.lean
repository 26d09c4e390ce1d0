/-! sets that grow -/
theorem or_ge (x y : Int32) : x.toBitVec.toNat ≤ (x ||| y).toBitVec.toNat := by
  have e : (x ||| y).toBitVec = x.toBitVec ||| y.toBitVec := rfl
  rw [e, BitVec.toNat_or]
  exact Nat.left_le_or
theorem fw_dec {t s u : Int32} (h : ¬ t = s) (h2 : s.toBitVec.toNat ≤ u.toBitVec.toNat) : (2 * (4294967296 - u.toBitVec.toNat) + (if s = u then 0 else 1)) < (2 * (4294967296 - s.toBitVec.toNat) + (if t = s then 0 else 1)) := by
  rw [if_neg h]
  have h3 := u.toBitVec.isLt
  by_cases e : s = u
  · subst e; rw [if_pos rfl]; omega
  · rw [if_neg e]
    have h4 : s.toBitVec.toNat ≠ u.toBitVec.toNat := fun q => e (Int32.toBitVec_inj.mp (BitVec.eq_of_toNat_eq q))
    omega
