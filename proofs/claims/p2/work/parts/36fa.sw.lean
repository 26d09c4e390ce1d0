theorem sw_60_62 (x : Int32) : x = 60 ∨ x = 61 ∨ x = 62 ∨ (x.toInt < 60 ∨ 62 < x.toInt) := by
  by_cases h : 60 ≤ x.toInt ∧ x.toInt ≤ 62
  · obtain ⟨j, hj, hx⟩ := vp_in_of (vp_in_iff.mpr ⟨by omega, by omega⟩ : vp_in x 63) (by decide)
    subst hx
    have h2 : (nI j).toInt = j := nI_toInt (by omega)
    rw [h2] at h
    obtain ⟨i, rfl⟩ : ∃ i : Nat, j = 60 + i := ⟨j - 60, by omega⟩
    have hi : i < 3 := by omega
    clear h h2 hj
    match i, hi with
    | 0, _ => exact (Or.inl (by decide))
    | 1, _ => exact Or.inr ((Or.inl (by decide)))
    | 2, _ => exact Or.inr (Or.inr ((Or.inl (by decide))))
    | k + 3, hk => exact absurd hk (by omega)
  · exact Or.inr (Or.inr (Or.inr ((by omega))))
theorem sw_205_220 (x : Int32) : x = 205 ∨ x = 206 ∨ x = 207 ∨ x = 208 ∨ x = 209 ∨ x = 210 ∨ x = 211 ∨ x = 212 ∨ x = 213 ∨ x = 214 ∨ x = 215 ∨ x = 216 ∨ x = 217 ∨ x = 218 ∨ x = 219 ∨ x = 220 ∨ (x.toInt < 205 ∨ 220 < x.toInt) := by
  by_cases h : 205 ≤ x.toInt ∧ x.toInt ≤ 220
  · obtain ⟨j, hj, hx⟩ := vp_in_of (vp_in_iff.mpr ⟨by omega, by omega⟩ : vp_in x 221) (by decide)
    subst hx
    have h2 : (nI j).toInt = j := nI_toInt (by omega)
    rw [h2] at h
    obtain ⟨i, rfl⟩ : ∃ i : Nat, j = 205 + i := ⟨j - 205, by omega⟩
    have hi : i < 16 := by omega
    clear h h2 hj
    match i, hi with
    | 0, _ => exact (Or.inl (by decide))
    | 1, _ => exact Or.inr ((Or.inl (by decide)))
    | 2, _ => exact Or.inr (Or.inr ((Or.inl (by decide))))
    | 3, _ => exact Or.inr (Or.inr (Or.inr ((Or.inl (by decide)))))
    | 4, _ => exact Or.inr (Or.inr (Or.inr (Or.inr ((Or.inl (by decide))))))
    | 5, _ => exact Or.inr (Or.inr (Or.inr (Or.inr (Or.inr ((Or.inl (by decide)))))))
    | 6, _ => exact Or.inr (Or.inr (Or.inr (Or.inr (Or.inr (Or.inr ((Or.inl (by decide))))))))
    | 7, _ => exact Or.inr (Or.inr (Or.inr (Or.inr (Or.inr (Or.inr (Or.inr ((Or.inl (by decide)))))))))
    | 8, _ => exact Or.inr (Or.inr (Or.inr (Or.inr (Or.inr (Or.inr (Or.inr (Or.inr ((Or.inl (by decide))))))))))
    | 9, _ => exact Or.inr (Or.inr (Or.inr (Or.inr (Or.inr (Or.inr (Or.inr (Or.inr (Or.inr ((Or.inl (by decide)))))))))))
    | 10, _ => exact Or.inr (Or.inr (Or.inr (Or.inr (Or.inr (Or.inr (Or.inr (Or.inr (Or.inr (Or.inr ((Or.inl (by decide))))))))))))
    | 11, _ => exact Or.inr (Or.inr (Or.inr (Or.inr (Or.inr (Or.inr (Or.inr (Or.inr (Or.inr (Or.inr (Or.inr ((Or.inl (by decide)))))))))))))
    | 12, _ => exact Or.inr (Or.inr (Or.inr (Or.inr (Or.inr (Or.inr (Or.inr (Or.inr (Or.inr (Or.inr (Or.inr (Or.inr ((Or.inl (by decide))))))))))))))
    | 13, _ => exact Or.inr (Or.inr (Or.inr (Or.inr (Or.inr (Or.inr (Or.inr (Or.inr (Or.inr (Or.inr (Or.inr (Or.inr (Or.inr ((Or.inl (by decide)))))))))))))))
    | 14, _ => exact Or.inr (Or.inr (Or.inr (Or.inr (Or.inr (Or.inr (Or.inr (Or.inr (Or.inr (Or.inr (Or.inr (Or.inr (Or.inr (Or.inr ((Or.inl (by decide))))))))))))))))
    | 15, _ => exact Or.inr (Or.inr (Or.inr (Or.inr (Or.inr (Or.inr (Or.inr (Or.inr (Or.inr (Or.inr (Or.inr (Or.inr (Or.inr (Or.inr (Or.inr ((Or.inl (by decide)))))))))))))))))
    | k + 16, hk => exact absurd hk (by omega)
  · exact Or.inr (Or.inr (Or.inr (Or.inr (Or.inr (Or.inr (Or.inr (Or.inr (Or.inr (Or.inr (Or.inr (Or.inr (Or.inr (Or.inr (Or.inr (Or.inr ((by omega)))))))))))))))))
theorem sw_206_209 (x : Int32) : x = 206 ∨ x = 207 ∨ x = 208 ∨ x = 209 ∨ (x.toInt < 206 ∨ 209 < x.toInt) := by
  by_cases h : 206 ≤ x.toInt ∧ x.toInt ≤ 209
  · obtain ⟨j, hj, hx⟩ := vp_in_of (vp_in_iff.mpr ⟨by omega, by omega⟩ : vp_in x 210) (by decide)
    subst hx
    have h2 : (nI j).toInt = j := nI_toInt (by omega)
    rw [h2] at h
    obtain ⟨i, rfl⟩ : ∃ i : Nat, j = 206 + i := ⟨j - 206, by omega⟩
    have hi : i < 4 := by omega
    clear h h2 hj
    match i, hi with
    | 0, _ => exact (Or.inl (by decide))
    | 1, _ => exact Or.inr ((Or.inl (by decide)))
    | 2, _ => exact Or.inr (Or.inr ((Or.inl (by decide))))
    | 3, _ => exact Or.inr (Or.inr (Or.inr ((Or.inl (by decide)))))
    | k + 4, hk => exact absurd hk (by omega)
  · exact Or.inr (Or.inr (Or.inr (Or.inr ((by omega)))))
