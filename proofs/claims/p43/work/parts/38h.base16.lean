/-! the reference's row of numbers: bounds by place -/
def kb (h : Int) (j : Nat) (x : Int32) : Prop :=
  if j < 8 then (if j = 1 then rg 1 6 x else if j = 2 then rg 1 9 x else if j = 3 then rg 0 8 x else if j = 4 then rg 0 4 x else if j = 5 then rg 0 900 x else if j = 6 then rg 0 900 x else if j = 7 then rg 0 10 x else True)
  else if j < 16 then rg 0 2 x
  else if j < 40 then True
  else if j < 41 then rg 0 h x
  else if j < 45 then True
  else if j < 53 then rg 0 99 x
  else if j < 57 then rg 0 8 x
  else if j < 89 then True
  else if j < 459 then (if (j - 89) % 37 < 8 then rg 0 2 x else if (j - 89) % 37 = 32 then rg 0 h x else True)
  else True
def KB (h : Int) (f : Nat → Int32) : Prop := ∀ j : Nat, j < 2260 → kb h j (f j)
theorem KB_st {h : Int} {f : Nat → Int32} {i : Nat} {v : Int32} (hk : KB h f) (hv : kb h i v) : KB h (upd f i v) := fun j hj => by
  by_cases e : j = i
  · subst e; rw [pk_us]; exact hv
  · rw [pk_un e]; exact hk j hj
theorem rg_cl {a b : Int} {x : Int32} (h : rg a b x) (h0 : 0 ≤ a) : ∃ j : Nat, x.toNatClampNeg = j ∧ a ≤ (j : Int) ∧ (j : Int) ≤ b := by
  unfold rg at h
  refine ⟨x.toNatClampNeg, rfl, ?_, ?_⟩ <;> (unfold Int32.toNatClampNeg; omega)
theorem KB_ld {h a b lo hi : Int} {f : Nat → Int32} {i : Int32} (hk : KB h f) (hi_ : rg a b i) (h0 : 0 ≤ a ∧ b < 2260) (hs : ∀ (j : Nat) (x : Int32), a ≤ (j : Int) → (j : Int) ≤ b → kb h j x → rg lo hi x) : rg lo hi (f i.toNatClampNeg) := by
  obtain ⟨j, hj, h1, h2⟩ := rg_cl hi_ h0.1
  rw [hj]
  exact hs j _ h1 h2 (hk j (by omega))
theorem KB_sx {h a b lo hi : Int} {f : Nat → Int32} {i v : Int32} (hk : KB h f) (hi_ : rg a b i) (hv : rg lo hi v) (h0 : 0 ≤ a) (hs : ∀ (j : Nat) (x : Int32), a ≤ (j : Int) → (j : Int) ≤ b → rg lo hi x → kb h j x) : KB h (upd f i.toNatClampNeg v) := by
  obtain ⟨j, hj, h1, h2⟩ := rg_cl hi_ h0
  rw [hj]
  exact KB_st hk (hs j v h1 h2 hv)
theorem kb_1 {h : Int} {j : Nat} {x : Int32} (a : 1 ≤ (j : Int)) (b : (j : Int) ≤ 1) : kb h j x ↔ rg 1 6 x := by
  obtain rfl : j = 1 := by omega
  rfl
theorem kb_2 {h : Int} {j : Nat} {x : Int32} (a : 2 ≤ (j : Int)) (b : (j : Int) ≤ 2) : kb h j x ↔ rg 1 9 x := by
  obtain rfl : j = 2 := by omega
  rfl
theorem kb_3 {h : Int} {j : Nat} {x : Int32} (a : 3 ≤ (j : Int)) (b : (j : Int) ≤ 3) : kb h j x ↔ rg 0 8 x := by
  obtain rfl : j = 3 := by omega
  rfl
theorem kb_4 {h : Int} {j : Nat} {x : Int32} (a : 4 ≤ (j : Int)) (b : (j : Int) ≤ 4) : kb h j x ↔ rg 0 4 x := by
  obtain rfl : j = 4 := by omega
  rfl
theorem kb_5 {h : Int} {j : Nat} {x : Int32} (a : 5 ≤ (j : Int)) (b : (j : Int) ≤ 5) : kb h j x ↔ rg 0 900 x := by
  obtain rfl : j = 5 := by omega
  rfl
theorem kb_6 {h : Int} {j : Nat} {x : Int32} (a : 6 ≤ (j : Int)) (b : (j : Int) ≤ 6) : kb h j x ↔ rg 0 900 x := by
  obtain rfl : j = 6 := by omega
  rfl
theorem kb_7 {h : Int} {j : Nat} {x : Int32} (a : 7 ≤ (j : Int)) (b : (j : Int) ≤ 7) : kb h j x ↔ rg 0 10 x := by
  obtain rfl : j = 7 := by omega
  rfl
theorem kb_40 {h : Int} {j : Nat} {x : Int32} (a : 40 ≤ (j : Int)) (b : (j : Int) ≤ 40) : kb h j x ↔ rg 0 h x := by
  obtain rfl : j = 40 := by omega
  rfl
theorem kb_8 {h : Int} {j : Nat} {x : Int32} (a : 8 ≤ (j : Int)) (b : (j : Int) ≤ 15) : kb h j x ↔ rg 0 2 x := by
  unfold kb
  rw [if_neg (by omega), if_pos (by omega)]
theorem kb_16 {h : Int} {j : Nat} {x : Int32} (a : 16 ≤ (j : Int)) (b : (j : Int) ≤ 39) : kb h j x ↔ True := by
  unfold kb
  rw [if_neg (by omega), if_neg (by omega), if_pos (by omega)]
theorem kb_41 {h : Int} {j : Nat} {x : Int32} (a : 41 ≤ (j : Int)) (b : (j : Int) ≤ 44) : kb h j x ↔ True := by
  unfold kb
  rw [if_neg (by omega), if_neg (by omega), if_neg (by omega), if_neg (by omega), if_pos (by omega)]
theorem kb_45 {h : Int} {j : Nat} {x : Int32} (a : 45 ≤ (j : Int)) (b : (j : Int) ≤ 52) : kb h j x ↔ rg 0 99 x := by
  unfold kb
  rw [if_neg (by omega), if_neg (by omega), if_neg (by omega), if_neg (by omega), if_neg (by omega), if_pos (by omega)]
theorem kb_53 {h : Int} {j : Nat} {x : Int32} (a : 53 ≤ (j : Int)) (b : (j : Int) ≤ 56) : kb h j x ↔ rg 0 8 x := by
  unfold kb
  rw [if_neg (by omega), if_neg (by omega), if_neg (by omega), if_neg (by omega), if_neg (by omega), if_neg (by omega), if_pos (by omega)]
theorem KB_l {h a b a' b' lo hi : Int} {f : Nat → Int32} {i : Int32} (hq : ∀ {h : Int} {j : Nat} {x : Int32}, a' ≤ (j : Int) → (j : Int) ≤ b' → (kb h j x ↔ rg lo hi x)) (hk : KB h f) (hi_ : rg a b i) (h1 : a' ≤ a ∧ 0 ≤ a) (h2 : b ≤ b' ∧ b < 2260) : rg lo hi (f i.toNatClampNeg) :=
  KB_ld hk hi_ ⟨h1.2, h2.2⟩ (fun j x q1 q2 q3 => (hq (Int.le_trans h1.1 q1) (Int.le_trans q2 h2.1)).mp q3)
theorem KB_s {h a b a' b' lo hi : Int} {f : Nat → Int32} {i v : Int32} (hq : ∀ {h : Int} {j : Nat} {x : Int32}, a' ≤ (j : Int) → (j : Int) ≤ b' → (kb h j x ↔ rg lo hi x)) (hk : KB h f) (hi_ : rg a b i) (hv : rg lo hi v) (h1 : a' ≤ a ∧ 0 ≤ a) (h2 : b ≤ b') : KB h (upd f i.toNatClampNeg v) :=
  KB_sx hk hi_ hv h1.2 (fun j x q1 q2 q3 => (hq (Int.le_trans h1.1 q1) (Int.le_trans q2 h2)).mpr q3)
theorem KB_sT {h a b a' b' : Int} {f : Nat → Int32} {i v : Int32} (hq : ∀ {h : Int} {j : Nat} {x : Int32}, a' ≤ (j : Int) → (j : Int) ≤ b' → (kb h j x ↔ True)) (hk : KB h f) (hi_ : rg a b i) (h1 : a' ≤ a ∧ 0 ≤ a) (h2 : b ≤ b') : KB h (upd f i.toNatClampNeg v) :=
  KB_sx hk hi_ (rg_any v) h1.2 (fun j x q1 q2 _ => (hq (Int.le_trans h1.1 q1) (Int.le_trans q2 h2)).mpr trivial)
theorem KB_h {h a b : Int} {f : Nat → Int32} {i : Int32} (hk : KB h f) (hi_ : rg a b i) (h1 : 40 ≤ a) (h2 : b ≤ 40) : rg 0 h (f i.toNatClampNeg) :=
  KB_ld hk hi_ ⟨by omega, by omega⟩ (fun j x q1 q2 q3 => (kb_40 (by omega) (by omega)).mp q3)
theorem rl_b {a b : Int} {x : Int32} (h : rl a b x.toInt64) : rg a b x := by
  unfold rl at h
  unfold rg
  rw [Int32.toInt_toInt64] at h
  exact h
theorem rl_cut {a b c d : Int} {x : Int64} (h1 : rl a b x) (h2 : rl c d x) : rl (max a c) (min b d) x := by
  unfold rl at *
  omega
theorem rg_ai {a b c d n e : Int} {x k : Int32} (h : rg a b (x + k)) (hx : rg c d x) (hk : k.toInt = n) (h1 : -2147483648 ≤ c + n) (h2 : d + n ≤ 2147483647) (h3 : b - n ≤ e) : rg c e x := by
  unfold rg at *
  rw [add32 x k (by omega) (by omega)] at h
  omega
theorem sz_dec {x : Int32} (h : ¬ x = 0) : (x &&& (x - 1)).toBitVec.toNat < x.toBitVec.toNat := by
  have h0 : x.toBitVec.toNat ≠ 0 := fun q => h (by
    apply Int32.toBitVec_inj.mp
    apply BitVec.eq_of_toNat_eq
    rw [q]
    rfl)
  have e1 : (x &&& (x - 1)).toBitVec = x.toBitVec &&& (x.toBitVec - 1#32) := rfl
  have h1 := x.toBitVec.isLt
  rw [e1, BitVec.toNat_and]
  have h2 : (x.toBitVec - 1#32).toNat = x.toBitVec.toNat - 1 := by
    rw [BitVec.toNat_sub]
    have h3 : (1#32).toNat = 1 := rfl
    rw [h3]
    omega
  have h4 : x.toBitVec.toNat &&& (x.toBitVec - 1#32).toNat ≤ (x.toBitVec - 1#32).toNat := Nat.and_le_right
  omega
