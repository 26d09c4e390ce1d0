/-! the reference's row of numbers: bounds by place -/
def kb (h : Int) (j : Nat) (x : Int32) : Prop :=
  if j < 8 then (if j = 1 then rg 1 6 x else if j = 2 then rg 1 9 x else if j = 3 then rg 0 8 x else if j = 4 then rg 0 4 x else if j = 5 then rg 0 900 x else if j = 6 then rg 0 900 x else if j = 7 then rg 0 10 x else True)
  else if j < 16 then rg 0 2 x
  else if j < 40 then True
  else if j < 41 then rg 0 h x
  else if j < 45 then True
  else if j < 53 then rg 0 99 x
  else if j < 57 then rg 0 8 x
  else if j < 89 then True
  else if j < 459 then (if (j - 89) % 37 < 8 then rg 0 2 x else if (j - 89) % 37 = 32 then rg 0 h x else True)
  else True
def KB (h : Int) (f : Nat → Int32) : Prop := ∀ j : Nat, j < 2260 → kb h j (f j)
theorem KB_st {h : Int} {f : Nat → Int32} {i : Nat} {v : Int32} (hk : KB h f) (hv : kb h i v) : KB h (upd f i v) := fun j hj => by
  by_cases e : j = i
  · subst e; rw [pk_us]; exact hv
  · rw [pk_un e]; exact hk j hj
theorem rg_cl {a b : Int} {x : Int32} (h : rg a b x) (h0 : 0 ≤ a) : ∃ j : Nat, x.toNatClampNeg = j ∧ a ≤ (j : Int) ∧ (j : Int) ≤ b := by
  unfold rg at h
  refine ⟨x.toNatClampNeg, rfl, ?_, ?_⟩ <;> (unfold Int32.toNatClampNeg; omega)
theorem KB_ld {h a b lo hi : Int} {f : Nat → Int32} {i : Int32} (hk : KB h f) (hi_ : rg a b i) (h0 : 0 ≤ a ∧ b < 2260) (hs : ∀ (j : Nat) (x : Int32), a ≤ (j : Int) → (j : Int) ≤ b → kb h j x → rg lo hi x) : rg lo hi (f i.toNatClampNeg) := by
  obtain ⟨j, hj, h1, h2⟩ := rg_cl hi_ h0.1
  rw [hj]
  exact hs j _ h1 h2 (hk j (by omega))
theorem KB_sx {h a b lo hi : Int} {f : Nat → Int32} {i v : Int32} (hk : KB h f) (hi_ : rg a b i) (hv : rg lo hi v) (h0 : 0 ≤ a) (hs : ∀ (j : Nat) (x : Int32), a ≤ (j : Int) → (j : Int) ≤ b → rg lo hi x → kb h j x) : KB h (upd f i.toNatClampNeg v) := by
  obtain ⟨j, hj, h1, h2⟩ := rg_cl hi_ h0
  rw [hj]
  exact KB_st hk (hs j v h1 h2 hv)
theorem kb_1 {h : Int} {j : Nat} {x : Int32} (a : 1 ≤ (j : Int)) (b : (j : Int) ≤ 1) : kb h j x ↔ rg 1 6 x := by
  obtain rfl : j = 1 := by omega
  rfl
theorem kb_2 {h : Int} {j : Nat} {x : Int32} (a : 2 ≤ (j : Int)) (b : (j : Int) ≤ 2) : kb h j x ↔ rg 1 9 x := by
  obtain rfl : j = 2 := by omega
  rfl
theorem kb_3 {h : Int} {j : Nat} {x : Int32} (a : 3 ≤ (j : Int)) (b : (j : Int) ≤ 3) : kb h j x ↔ rg 0 8 x := by
  obtain rfl : j = 3 := by omega
  rfl
theorem kb_4 {h : Int} {j : Nat} {x : Int32} (a : 4 ≤ (j : Int)) (b : (j : Int) ≤ 4) : kb h j x ↔ rg 0 4 x := by
  obtain rfl : j = 4 := by omega
  rfl
theorem kb_5 {h : Int} {j : Nat} {x : Int32} (a : 5 ≤ (j : Int)) (b : (j : Int) ≤ 5) : kb h j x ↔ rg 0 900 x := by
  obtain rfl : j = 5 := by omega
  rfl
theorem kb_6 {h : Int} {j : Nat} {x : Int32} (a : 6 ≤ (j : Int)) (b : (j : Int) ≤ 6) : kb h j x ↔ rg 0 900 x := by
  obtain rfl : j = 6 := by omega
  rfl
theorem kb_7 {h : Int} {j : Nat} {x : Int32} (a : 7 ≤ (j : Int)) (b : (j : Int) ≤ 7) : kb h j x ↔ rg 0 10 x := by
  obtain rfl : j = 7 := by omega
  rfl
theorem kb_40 {h : Int} {j : Nat} {x : Int32} (a : 40 ≤ (j : Int)) (b : (j : Int) ≤ 40) : kb h j x ↔ rg 0 h x := by
  obtain rfl : j = 40 := by omega
  rfl
theorem kb_8 {h : Int} {j : Nat} {x : Int32} (a : 8 ≤ (j : Int)) (b : (j : Int) ≤ 15) : kb h j x ↔ rg 0 2 x := by
  unfold kb
  rw [if_neg (by omega), if_pos (by omega)]
theorem kb_16 {h : Int} {j : Nat} {x : Int32} (a : 16 ≤ (j : Int)) (b : (j : Int) ≤ 39) : kb h j x ↔ True := by
  unfold kb
  rw [if_neg (by omega), if_neg (by omega), if_pos (by omega)]
theorem kb_41 {h : Int} {j : Nat} {x : Int32} (a : 41 ≤ (j : Int)) (b : (j : Int) ≤ 44) : kb h j x ↔ True := by
  unfold kb
  rw [if_neg (by omega), if_neg (by omega), if_neg (by omega), if_neg (by omega), if_pos (by omega)]
theorem kb_45 {h : Int} {j : Nat} {x : Int32} (a : 45 ≤ (j : Int)) (b : (j : Int) ≤ 52) : kb h j x ↔ rg 0 99 x := by
  unfold kb
  rw [if_neg (by omega), if_neg (by omega), if_neg (by omega), if_neg (by omega), if_neg (by omega), if_pos (by omega)]
theorem kb_53 {h : Int} {j : Nat} {x : Int32} (a : 53 ≤ (j : Int)) (b : (j : Int) ≤ 56) : kb h j x ↔ rg 0 8 x := by
  unfold kb
  rw [if_neg (by omega), if_neg (by omega), if_neg (by omega), if_neg (by omega), if_neg (by omega), if_neg (by omega), if_pos (by omega)]
theorem KB_l {h a b a' b' lo hi : Int} {f : Nat → Int32} {i : Int32} (hq : ∀ {h : Int} {j : Nat} {x : Int32}, a' ≤ (j : Int) → (j : Int) ≤ b' → (kb h j x ↔ rg lo hi x)) (hk : KB h f) (hi_ : rg a b i) (h1 : a' ≤ a ∧ 0 ≤ a) (h2 : b ≤ b' ∧ b < 2260) : rg lo hi (f i.toNatClampNeg) :=
  KB_ld hk hi_ ⟨h1.2, h2.2⟩ (fun j x q1 q2 q3 => (hq (Int.le_trans h1.1 q1) (Int.le_trans q2 h2.1)).mp q3)
theorem KB_s {h a b a' b' lo hi : Int} {f : Nat → Int32} {i v : Int32} (hq : ∀ {h : Int} {j : Nat} {x : Int32}, a' ≤ (j : Int) → (j : Int) ≤ b' → (kb h j x ↔ rg lo hi x)) (hk : KB h f) (hi_ : rg a b i) (hv : rg lo hi v) (h1 : a' ≤ a ∧ 0 ≤ a) (h2 : b ≤ b') : KB h (upd f i.toNatClampNeg v) :=
  KB_sx hk hi_ hv h1.2 (fun j x q1 q2 q3 => (hq (Int.le_trans h1.1 q1) (Int.le_trans q2 h2)).mpr q3)
theorem KB_sT {h a b a' b' : Int} {f : Nat → Int32} {i v : Int32} (hq : ∀ {h : Int} {j : Nat} {x : Int32}, a' ≤ (j : Int) → (j : Int) ≤ b' → (kb h j x ↔ True)) (hk : KB h f) (hi_ : rg a b i) (h1 : a' ≤ a ∧ 0 ≤ a) (h2 : b ≤ b') : KB h (upd f i.toNatClampNeg v) :=
  KB_sx hk hi_ (rg_any v) h1.2 (fun j x q1 q2 _ => (hq (Int.le_trans h1.1 q1) (Int.le_trans q2 h2)).mpr trivial)
theorem KB_h {h a b : Int} {f : Nat → Int32} {i : Int32} (hk : KB h f) (hi_ : rg a b i) (h1 : 40 ≤ a) (h2 : b ≤ 40) : rg 0 h (f i.toNatClampNeg) :=
  KB_ld hk hi_ ⟨by omega, by omega⟩ (fun j x q1 q2 q3 => (kb_40 (by omega) (by omega)).mp q3)
theorem rl_b {a b : Int} {x : Int32} (h : rl a b x.toInt64) : rg a b x := by
  unfold rl at h
  unfold rg
  rw [Int32.toInt_toInt64] at h
  exact h
theorem rl_cut {a b c d : Int} {x : Int64} (h1 : rl a b x) (h2 : rl c d x) : rl (max a c) (min b d) x := by
  unfold rl at *
  omega
theorem rg_ai {a b c d n e : Int} {x k : Int32} (h : rg a b (x + k)) (hx : rg c d x) (hk : k.toInt = n) (h1 : -2147483648 ≤ c + n) (h2 : d + n ≤ 2147483647) (h3 : b - n ≤ e) : rg c e x := by
  unfold rg at *
  rw [add32 x k (by omega) (by omega)] at h
  omega
theorem sz_dec {x : Int32} (h : ¬ x = 0) : (x &&& (x - 1)).toBitVec.toNat < x.toBitVec.toNat := by
  have h0 : x.toBitVec.toNat ≠ 0 := fun q => h (by
    apply Int32.toBitVec_inj.mp
    apply BitVec.eq_of_toNat_eq
    rw [q]
    rfl)
  have e1 : (x &&& (x - 1)).toBitVec = x.toBitVec &&& (x.toBitVec - 1#32) := rfl
  have h1 := x.toBitVec.isLt
  rw [e1, BitVec.toNat_and]
  have h2 : (x.toBitVec - 1#32).toNat = x.toBitVec.toNat - 1 := by
    rw [BitVec.toNat_sub]
    have h3 : (1#32).toNat = 1 := rfl
    rw [h3]
    omega
  have h4 : x.toBitVec.toNat &&& (x.toBitVec - 1#32).toNat ≤ (x.toBitVec - 1#32).toNat := Nat.and_le_right
  omega
/-! what no deed changes: walkers' rounds, laws -/
def Dy (j : Nat) : Prop := (7 ≤ j ∧ j ≤ 44) ∨ (89 ≤ j ∧ j ≤ 458)
def dpt (f : Nat → Int32) (at_ : Nat) : Nat → Int
  | 0 => 0
  | k + 1 => dpt f at_ k + (if 100 ≤ (f (at_ + k)).toInt then 1 else if (f (at_ + k)).toInt = 18 then 0 else -1)
def LW1 (f : Nat → Int32) (at_ : Nat) (n : Int) : Prop := ∀ k : Nat, (k : Int) < n → (100 ≤ (f (at_ + k)).toInt → 0 ≤ dpt f at_ k ∧ dpt f at_ k ≤ 63 ∧ ((f (at_ + k)).toInt < 1000 → (f (at_ + k)).toInt ≤ 105)) ∧ ((f (at_ + k)).toInt = 18 → 1 ≤ dpt f at_ k ∧ dpt f at_ k ≤ 64) ∧ ((f (at_ + k)).toInt < 100 → (f (at_ + k)).toInt ≠ 18 → 2 ≤ dpt f at_ k ∧ dpt f at_ k ≤ 64)
def KW (f : Nat → Int32) : Prop := ∀ w : Nat, w < 4 → (w : Int) < (f 4).toInt → 1 ≤ (f (53 + w)).toInt
def SP (f : Nat → Int32) : Prop := KW f ∧ LW1 f 459 (f 5).toInt ∧ LW1 f 1359 (f 6).toInt
theorem dpt_cg {f g : Nat → Int32} {at_ : Nat} (h : ∀ j : Nat, at_ ≤ j → g j = f j) (k : Nat) : dpt g at_ k = dpt f at_ k := by
  induction k with
  | zero => rfl
  | succ k ih => rw [dpt, dpt, ih, h _ (by omega)]
theorem LW1_cg {f g : Nat → Int32} {at_ : Nat} {n : Int} (h : ∀ j : Nat, at_ ≤ j → g j = f j) (hl : LW1 f at_ n) : LW1 g at_ n := fun k hk => by
  rw [dpt_cg h, h _ (by omega)]
  exact hl k hk
theorem SP_cg {f g : Nat → Int32} (h : ∀ j : Nat, ¬ Dy j → g j = f j) (hs : SP f) : SP g := by
  have h4 : g 4 = f 4 := h 4 (by unfold Dy; omega)
  have h5 : g 5 = f 5 := h 5 (by unfold Dy; omega)
  have h6 : g 6 = f 6 := h 6 (by unfold Dy; omega)
  refine ⟨fun w hw hlt => ?_, ?_, ?_⟩
  · rw [h4] at hlt
    rw [h (53 + w) (by unfold Dy; omega)]
    exact hs.1 w hw hlt
  · rw [h5]
    exact LW1_cg (fun j hj => h j (by unfold Dy; omega)) hs.2.1
  · rw [h6]
    exact LW1_cg (fun j hj => h j (by unfold Dy; omega)) hs.2.2
theorem SP_up {f : Nat → Int32} {i : Nat} {v : Int32} (hs : SP f) (hd : Dy i) : SP (upd f i v) := SP_cg (fun j hj => pk_un (fun e => hj (e ▸ hd))) hs
theorem Dy_rg {a b : Int} {x : Int32} (h : rg a b x) (h1 : (7 ≤ a ∧ b ≤ 44) ∨ (89 ≤ a ∧ b ≤ 458)) : Dy x.toNatClampNeg := by
  obtain ⟨j, hj, h2, h3⟩ := rg_cl h (by omega)
  rw [hj]
  unfold Dy
  omega
def KX (h : Int) (f : Nat → Int32) : Prop := KB h f ∧ SP f
theorem KX_l {h a b a' b' lo hi : Int} {f : Nat → Int32} {i : Int32} (hq : ∀ {h : Int} {j : Nat} {x : Int32}, a' ≤ (j : Int) → (j : Int) ≤ b' → (kb h j x ↔ rg lo hi x)) (hk : KX h f) (hi_ : rg a b i) (h1 : a' ≤ a ∧ 0 ≤ a) (h2 : b ≤ b' ∧ b < 2260) : rg lo hi (f i.toNatClampNeg) := KB_l hq hk.1 hi_ h1 h2
theorem KX_s {h a b a' b' lo hi : Int} {f : Nat → Int32} {i v : Int32} (hq : ∀ {h : Int} {j : Nat} {x : Int32}, a' ≤ (j : Int) → (j : Int) ≤ b' → (kb h j x ↔ rg lo hi x)) (hk : KX h f) (hi_ : rg a b i) (hv : rg lo hi v) (h1 : a' ≤ a ∧ 0 ≤ a) (h2 : b ≤ b') (h3 : (7 ≤ a ∧ b ≤ 44) ∨ (89 ≤ a ∧ b ≤ 458)) : KX h (upd f i.toNatClampNeg v) := ⟨KB_s hq hk.1 hi_ hv h1 h2, SP_up hk.2 (Dy_rg hi_ h3)⟩
theorem KX_sT {h a b a' b' : Int} {f : Nat → Int32} {i v : Int32} (hq : ∀ {h : Int} {j : Nat} {x : Int32}, a' ≤ (j : Int) → (j : Int) ≤ b' → (kb h j x ↔ True)) (hk : KX h f) (hi_ : rg a b i) (h1 : a' ≤ a ∧ 0 ≤ a) (h2 : b ≤ b') (h3 : (7 ≤ a ∧ b ≤ 44) ∨ (89 ≤ a ∧ b ≤ 458)) : KX h (upd f i.toNatClampNeg v) := ⟨KB_sT hq hk.1 hi_ h1 h2, SP_up hk.2 (Dy_rg hi_ h3)⟩
theorem KX_h {h a b : Int} {f : Nat → Int32} {i : Int32} (hk : KX h f) (hi_ : rg a b i) (h1 : 40 ≤ a) (h2 : b ≤ 40) : rg 0 h (f i.toNatClampNeg) := KB_h hk.1 hi_ h1 h2
theorem cl_53 {w : Int32} (hw : rg 0 3 w) : (53 + w).toNatClampNeg = 53 + w.toNatClampNeg := by
  have e : (53 : Int32).toInt = 53 := by decide
  unfold rg at hw
  unfold Int32.toNatClampNeg
  rw [add32 53 w (by rw [e]; omega) (by rw [e]; omega), e]
  omega
/-- one of the walkers -/
def wk (f : Nat → Int32) (w : Int32) : Prop := rg 0 3 w ∧ w.toInt < (f 4).toInt
theorem KX_w {h : Int} {f : Nat → Int32} {w : Int32} (hk : KX h f) (hw : wk f w) : rg 1 8 (f (53 + w).toNatClampNeg) := by
  have h1 : rg 0 8 (f (53 + w).toNatClampNeg) := KB_l kb_53 hk.1 (i := 53 + w) (rg_add (e := 53) (f := 56) (rg_lit (by decide) : rg 53 53 (53 : Int32)) hw.1 (by decide) (by decide) (by decide) (by decide)) (by decide) (by decide)
  have h2 := hk.2.1 w.toNatClampNeg (by have := hw.1; unfold rg at this; unfold Int32.toNatClampNeg; omega) (by have := hw.1; have := hw.2; unfold rg at *; unfold Int32.toNatClampNeg; omega)
  rw [cl_53 hw.1] at h1 ⊢
  unfold rg at *
  omega
