/-! the reference: the states of deeds -/
theorem el_of {a b : Int} {n x : Int32} (e : n = x) (h : rg a b n) : rg a b x := e ▸ h
theorem el_st {a b : Int} {f : Nat → Int32} {i : Nat} {v : Int32} (h : rg a b v) : rg a b (upd f i v i) := by rw [pk_us]; exact h
theorem el_up {a b c d : Int} {f : Nat → Int32} {i v : Int32} {k : Nat} (h : rg a b (f k)) (hi : rg c d i) (h0 : 0 ≤ c) (h1 : d < k ∨ (k : Int) < c) : rg a b (upd f i.toNatClampNeg v k) := by
  obtain ⟨j, hj, h2, h3⟩ := rg_cl hi h0
  rw [hj, pk_un (by omega)]
  exact h
theorem cl_89 {n k : Int32} (hn : rg 0 9 n) (hk : rg 0 36 k) : ((89 + (37 * n)) + k).toNatClampNeg = 89 + 37 * n.toNatClampNeg + k.toNatClampNeg := by
  have e : (89 : Int32).toInt = 89 := by decide
  have e2 : (37 : Int32).toInt = 37 := by decide
  unfold rg at hn hk
  have e3 : (37 * n).toInt = 37 * n.toInt := by rw [mul32 37 n (by rw [e2]; omega) (by rw [e2]; omega), e2]
  have e4 : (89 + (37 * n)).toInt = 89 + 37 * n.toInt := by rw [add32 _ _ (by rw [e, e3]; omega) (by rw [e, e3]; omega), e, e3]
  unfold Int32.toNatClampNeg
  rw [add32 _ _ (by rw [e4]; omega) (by rw [e4]; omega), e4]
  omega
theorem kb_u {h : Int} {n k : Nat} {v : Int32} (hn : n ≤ 9) (hk : k < 37) : kb h (89 + 37 * n + k) v ↔ kb h (8 + k) v := by
  have e : (89 + 37 * n + k - 89) % 37 = k := by
    rw [show 89 + 37 * n + k - 89 = 37 * n + k by omega, Nat.mul_add_mod, Nat.mod_eq_of_lt hk]
  unfold kb
  rw [if_neg (by omega : ¬ 89 + 37 * n + k < 8), if_neg (by omega : ¬ 89 + 37 * n + k < 16), if_neg (by omega : ¬ 89 + 37 * n + k < 40), if_neg (by omega : ¬ 89 + 37 * n + k < 41), if_neg (by omega : ¬ 89 + 37 * n + k < 45), if_neg (by omega : ¬ 89 + 37 * n + k < 53), if_neg (by omega : ¬ 89 + 37 * n + k < 57), if_neg (by omega : ¬ 89 + 37 * n + k < 89), if_pos (by omega : 89 + 37 * n + k < 459), e, if_neg (by omega : ¬ 8 + k < 8)]
  by_cases h1 : k < 8
  · rw [if_pos h1, if_pos (by omega : 8 + k < 16)]
  · rw [if_neg h1, if_neg (by omega : ¬ 8 + k < 16)]
    by_cases h2 : k = 32
    · subst h2; rfl
    · rw [if_neg h2]
      by_cases h3 : k < 32
      · rw [if_pos (by omega : 8 + k < 40)]
      · rw [if_neg (by omega : ¬ 8 + k < 40), if_neg (by omega : ¬ 8 + k < 41), if_pos (by omega : 8 + k < 45)]
theorem cl_n {a b : Int} {x : Int32} (h : rg a b x) (h0 : 0 ≤ a) : a ≤ (x.toNatClampNeg : Int) ∧ (x.toNatClampNeg : Int) ≤ b := by
  obtain ⟨j, hj, h1, h2⟩ := rg_cl h h0
  rw [hj]
  exact ⟨h1, h2⟩
theorem KB_su0 {h : Int} {f : Nat → Int32} {n k v : Int32} (hk : KB h f) (hn : rg 0 9 n) (hr : rg 0 36 k) (hv : kb h (8 + k).toNatClampNeg v) : KB h (upd f ((89 + (37 * n)) + k).toNatClampNeg v) := by
  rw [cl_89 hn hr]
  have h1 := cl_n hn (by decide)
  have h2 := cl_n hr (by decide)
  exact KB_st hk ((kb_u (by omega) (by omega)).mpr (by rw [← cl_8 hr]; exact hv))
theorem KB_sb0 {h : Int} {f : Nat → Int32} {n k v : Int32} (hk : KB h f) (hn : rg 0 9 n) (hr : rg 0 36 k) (hv : kb h ((89 + (37 * n)) + k).toNatClampNeg v) : KB h (upd f (8 + k).toNatClampNeg v) := by
  have h1 := cl_n hn (by decide)
  have h2 := cl_n hr (by decide)
  rw [cl_89 hn hr] at hv
  rw [cl_8 hr]
  exact KB_st hk ((kb_u (by omega) (by omega)).mp hv)
theorem KB_ss0 {h : Int} {f : Nat → Int32} {k v : Int32} (hk : KB h f) (hr : rg 89 421 k) (hv : kb h (k + 37).toNatClampNeg v) : KB h (upd f k.toNatClampNeg v) := by
  have h1 := cl_n hr (by decide)
  have e : (k + 37).toNatClampNeg = k.toNatClampNeg + 37 := by
    have e2 : (37 : Int32).toInt = 37 := by decide
    unfold rg at hr
    unfold Int32.toNatClampNeg
    rw [add32 _ _ (by rw [e2]; omega) (by rw [e2]; omega), e2]
    omega
  rw [e] at hv
  have hd := Nat.div_add_mod (k.toNatClampNeg - 89) 37
  have hm := Nat.mod_lt (k.toNatClampNeg - 89) (show 0 < 37 by decide)
  generalize (k.toNatClampNeg - 89) / 37 = n at hd
  generalize (k.toNatClampNeg - 89) % 37 = r at hd hm
  have e3 : k.toNatClampNeg = 89 + 37 * n + r := by omega
  rw [e3] at hv ⊢
  rw [show 89 + 37 * n + r + 37 = 89 + 37 * (n + 1) + r by omega] at hv
  exact KB_st hk ((kb_u (by omega) hm).mpr ((kb_u (by omega) hm).mp hv))
theorem KX_su {h : Int} {f : Nat → Int32} {n k v : Int32} (hk : KX h f) (hn : rg 0 9 n) (hr : rg 0 36 k) (hv : kb h (8 + k).toNatClampNeg v) : KX h (upd f ((89 + (37 * n)) + k).toNatClampNeg v) := ⟨KB_su0 hk.1 hn hr hv, SP_up hk.2 (by
  rw [cl_89 hn hr]
  have h1 := cl_n hn (by decide)
  have h2 := cl_n hr (by decide)
  unfold Dy
  omega)⟩
theorem KX_sb {h : Int} {f : Nat → Int32} {n k v : Int32} (hk : KX h f) (hn : rg 0 9 n) (hr : rg 0 36 k) (hv : kb h ((89 + (37 * n)) + k).toNatClampNeg v) : KX h (upd f (8 + k).toNatClampNeg v) := ⟨KB_sb0 hk.1 hn hr hv, SP_up hk.2 (by
  rw [cl_8 hr]
  have h2 := cl_n hr (by decide)
  unfold Dy
  omega)⟩
theorem KX_ss {h : Int} {f : Nat → Int32} {k v : Int32} (hk : KX h f) (hr : rg 89 421 k) (hv : kb h (k + 37).toNatClampNeg v) : KX h (upd f k.toNatClampNeg v) := ⟨KB_ss0 hk.1 hr hv, SP_up hk.2 (Dy_rg hr (Or.inr (by decide)))⟩
