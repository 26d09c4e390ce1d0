/-! seasons: how many of the draws are hours; the reference's row of numbers as far as a season reads it -/
abbrev sy (x : Int32) : Int32 := 1103515245 * x + 12345
abbrev st16 (x : Int32) : Int32 := ((sy x).toUInt32 >>> ((16 : Int32).toUInt32 &&& Int32.toUInt32 31)).toInt32
abbrev sr (x : Int32) : Int32 := st16 x - st16 x / 4 * 4
def sn : Nat → Int32 → Int32
  | 0, _ => 0
  | k + 1, x => (if 2 ≤ sr x then 0 else 1) + sn k (sy x)
theorem sn_0 (n x : Int32) : (0 : Int32) + sn (n.toInt - (0 : Int32).toInt).toNat x = sn n.toInt.toNat x := by
  rw [Int32.zero_add, show (0 : Int32).toInt = 0 from by decide, Int.sub_zero]
theorem sn_end {i n d x T : Int32} (h : n.toInt ≤ i.toInt) (hI : d + sn (n.toInt - i.toInt).toNat x = T) : d = T := by
  rw [show (n.toInt - i.toInt).toNat = 0 from by omega] at hI
  have h0 : sn 0 x = 0 := rfl
  rw [h0, Int32.add_zero] at hI
  exact hI
theorem sn_k {i n x : Int32} (h0 : 0 ≤ i.toInt) (hlt : i.toInt < n.toInt) : sn (n.toInt - i.toInt).toNat x = (if 2 ≤ sr x then 0 else 1) + sn (n.toInt - (i + 1).toInt).toNat (sy x) := by
  have hn := rng32 n
  rw [inc32 i (by omega), show (n.toInt - i.toInt).toNat = (n.toInt - (i.toInt + 1)).toNat + 1 from by omega]
  rfl
theorem sn_s1 {i n d x T : Int32} (h0 : 0 ≤ i.toInt) (hlt : i.toInt < n.toInt) (hc : ¬ 2 ≤ sr x) (h : d + sn (n.toInt - i.toInt).toNat x = T) : (d + 1) + sn (n.toInt - (i + 1).toInt).toNat (sy x) = T := by
  rw [sn_k h0 hlt, if_neg hc, ← Int32.add_assoc] at h
  exact h
theorem sn_s0 {i n d x T : Int32} (h0 : 0 ≤ i.toInt) (hlt : i.toInt < n.toInt) (hc : 2 ≤ sr x) (h : d + sn (n.toInt - i.toInt).toNat x = T) : d + sn (n.toInt - (i + 1).toInt).toNat (sy x) = T := by
  rw [sn_k h0 hlt, if_pos hc, Int32.zero_add] at h
  exact h
theorem le1_n {x : Int32} (h : x ≤ 1) : ¬ 2 ≤ x := by
  rw [fa_le] at h ⊢
  have h1 : (1 : Int32).toInt = 1 := by decide
  have h2 : (2 : Int32).toInt = 2 := by decide
  omega
theorem nle1_p {x : Int32} (h : ¬ x ≤ 1) : 2 ≤ x := by
  rw [fa_le] at h ⊢
  have h1 : (1 : Int32).toInt = 1 := by decide
  have h2 : (2 : Int32).toInt = 2 := by decide
  omega
theorem rem10 (x : Int32) (h0 : 0 ≤ x.toInt) : 0 ≤ (x - x / 10 * 10).toInt ∧ (x - x / 10 * 10).toInt ≤ 9 := by
  have e10 : (10 : Int32).toInt = 10 := by decide
  have hr := rng32 x
  have e1 : (x / 10).toInt = x.toInt / 10 := by
    rw [Int32.toInt_div_of_ne_right _ _ (by decide), e10, Int.tdiv_eq_ediv_of_nonneg h0]
  have e2 : (x / 10 * 10).toInt = x.toInt / 10 * 10 := by
    rw [Int32.toInt_mul, e1, e10]
    have e : (2 : Int) ^ 32 = 4294967296 := by decide
    first | (rw [Int.bmod_eq_of_le (by omega) (by omega)]) | (unfold Int.bmod; omega)
  rw [sub32 _ _ (by rw [e2]; omega) (by rw [e2]; omega), e2]
  omega
theorem ix_10 (x : Int32) (h : vp_in x 10) : x = 0 ∨ x = 1 ∨ x = 2 ∨ x = 3 ∨ x = 4 ∨ x = 5 ∨ x = 6 ∨ x = 7 ∨ x = 8 ∨ x = 9 := by
  obtain ⟨j, hj, rfl⟩ := vp_in_of h (by decide)
  rcases (show j = 0 ∨ j = 1 ∨ j = 2 ∨ j = 3 ∨ j = 4 ∨ j = 5 ∨ j = 6 ∨ j = 7 ∨ j = 8 ∨ j = 9 by omega) with rfl | rfl | rfl | rfl | rfl | rfl | rfl | rfl | rfl | rfl <;> decide
def kc (n h : Int32) (g : Nat → Int32) : Nat → Int32 := fun j => if j = 1 then 1 else if j = 2 then 1 else if j = 3 then 0 else if j = 4 then 0 else if j = 7 then n else if j = 40 then h else g j
theorem kc_0 : upd (upd (fun _ => 0) (1 : Int32).toNatClampNeg 1) (2 : Int32).toNatClampNeg 1 = kc 0 0 (fun _ => 0) := by
  have e1 : (1 : Int32).toNatClampNeg = 1 := by decide
  have e2 : (2 : Int32).toNatClampNeg = 2 := by decide
  funext j
  rw [e1, e2]
  by_cases h2 : j = 2
  · subst h2; rw [pk_us]; rfl
  · rw [pk_un h2]
    by_cases h1 : j = 1
    · subst h1; rw [pk_us]; rfl
    · rw [pk_un h1]
      unfold kc
      rw [if_neg h1, if_neg h2]
      repeat' split
      all_goals rfl
theorem kc_1 {n h : Int32} {g : Nat → Int32} : kc n h g (1 : Int32).toNatClampNeg = 1 := by rw [show (1 : Int32).toNatClampNeg = 1 from by decide]; rfl
theorem kc_2 {n h : Int32} {g : Nat → Int32} : kc n h g (2 : Int32).toNatClampNeg = 1 := by rw [show (2 : Int32).toNatClampNeg = 2 from by decide]; rfl
theorem kc_3 {n h : Int32} {g : Nat → Int32} : kc n h g (3 : Int32).toNatClampNeg = 0 := by rw [show (3 : Int32).toNatClampNeg = 3 from by decide]; rfl
theorem kc_4 {n h : Int32} {g : Nat → Int32} : kc n h g (4 : Int32).toNatClampNeg = 0 := by rw [show (4 : Int32).toNatClampNeg = 4 from by decide]; rfl
theorem kc_7 {n h : Int32} {g : Nat → Int32} : kc n h g (7 : Int32).toNatClampNeg = n := by rw [show (7 : Int32).toNatClampNeg = 7 from by decide]; rfl
theorem kc_40 {n h : Int32} {g : Nat → Int32} : kc n h g (40 : Int32).toNatClampNeg = h := by rw [show (40 : Int32).toNatClampNeg = 40 from by decide]; rfl
theorem kc_w7 {n h v : Int32} {g : Nat → Int32} : upd (kc n h g) (7 : Int32).toNatClampNeg v = kc v h g := by
  rw [show (7 : Int32).toNatClampNeg = 7 from by decide]
  funext j
  by_cases e : j = 7
  · subst e; rw [pk_us]; rfl
  · rw [pk_un e]; unfold kc; simp only [if_neg e]
theorem kc_w40 {n h v : Int32} {g : Nat → Int32} : upd (kc n h g) (40 : Int32).toNatClampNeg v = kc n v g := by
  rw [show (40 : Int32).toNatClampNeg = 40 from by decide]
  funext j
  by_cases e : j = 40
  · subst e; rw [pk_us]; rfl
  · rw [pk_un e]; unfold kc; simp only [if_neg e]
theorem kc_up {n h v i : Int32} {g : Nat → Int32} (hi : 89 ≤ i.toInt) : upd (kc n h g) i.toNatClampNeg v = kc n h (upd g i.toNatClampNeg v) := by
  have hk : 89 ≤ i.toNatClampNeg := by
    have e : i.toNatClampNeg = i.toInt.toNat := rfl
    omega
  generalize i.toNatClampNeg = k at hk
  funext j
  by_cases e : j = k
  · subst e
    rw [pk_us]
    unfold kc
    rw [if_neg (by omega), if_neg (by omega), if_neg (by omega), if_neg (by omega), if_neg (by omega), if_neg (by omega), pk_us]
  · rw [pk_un e]
    unfold kc
    rw [pk_un e]
theorem kx_s (k : Int32) (h0 : 89 ≤ k.toInt) (h1 : k.toInt < 422) : vp_in (k + 37) 2260 := by
  have e : (37 : Int32).toInt = 37 := by decide
  rw [vp_in_iff, add32 k 37 (by rw [e]; omega) (by rw [e]; omega), e]
  constructor <;> omega
theorem kx_8 (k : Int32) (h0 : 0 ≤ k.toInt) (h1 : k.toInt < 37) : vp_in (8 + k) 2260 := by
  have e : (8 : Int32).toInt = 8 := by decide
  rw [vp_in_iff, add32 8 k (by rw [e]; omega) (by rw [e]; omega), e]
  constructor <;> omega
theorem kx_n (n : Int32) (h0 : 0 ≤ n.toInt) (h1 : n.toInt ≤ 9) : 89 ≤ (89 + 37 * n).toInt ∧ (89 + 37 * n).toInt ≤ 422 := by
  have e8 : (89 : Int32).toInt = 89 := by decide
  have e3 : (37 : Int32).toInt = 37 := by decide
  have em : (37 * n).toInt = 37 * n.toInt := by
    rw [Int32.toInt_mul, e3]
    have e : (2 : Int) ^ 32 = 4294967296 := by decide
    first | (rw [Int.bmod_eq_of_le (by omega) (by omega)]) | (unfold Int.bmod; omega)
  rw [add32 _ _ (by rw [e8, em]; omega) (by rw [e8, em]; omega), e8, em]
  constructor <;> omega
theorem kx_c (c k : Int32) (hc : 89 ≤ c.toInt ∧ c.toInt ≤ 422) (h0 : 0 ≤ k.toInt) (h1 : k.toInt < 37) : vp_in (c + k) 2260 ∧ 89 ≤ (c + k).toInt := by
  rw [vp_in_iff, add32 c k (by omega) (by omega)]
  refine ⟨⟨?_, ?_⟩, ?_⟩ <;> omega
