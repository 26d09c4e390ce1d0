/-! the reference: words, the state put aside and back -/
theorem wd_in {x y k : Int32} {N : Nat} (h1 : x - y = Int32.ofNat N) (h2 : k < Int32.ofNat N) (hx : rg 0 900 x) (hy : rg 0 900 y) (hk : rg 0 2147483647 k) (hN : N ≤ 900) : vp_in (y + k) 900 := by
  have e1 : (x - y).toInt = x.toInt - y.toInt := sub32 x y (by unfold rg at hx hy; omega) (by unfold rg at hx hy; omega)
  rw [h1, Int32.toInt_ofNat_of_lt (by omega)] at e1
  rw [fa_lt, Int32.toInt_ofNat_of_lt (by omega)] at h2
  unfold rg at *
  rw [vp_in_iff, add32 y k (by omega) (by omega)]
  constructor <;> omega
/-- what is put aside: the state's places -/
def AB (h : Int) (f : Nat → Int32) : Prop := ∀ j : Nat, j < 37 → kb h (8 + j) (f j)
theorem KX_at {h : Int} {f : Nat → Int32} {i n : Int32} (hk : KX h f) (hi : vp_in i 2260) (e : n = f i.toNatClampNeg) : kb h i.toNatClampNeg n := by
  rw [e]
  exact hk.1 _ (Nat.not_le.mp fun q => hi (Or.inr q))
theorem KB_at {h : Int} {f : Nat → Int32} {i n : Int32} (hk : KB h f) (hi : vp_in i 2260) (e : n = f i.toNatClampNeg) : kb h i.toNatClampNeg n := by
  rw [e]
  exact hk _ (Nat.not_le.mp fun q => hi (Or.inr q))
theorem AB_at {h : Int} {f : Nat → Int32} {i n : Int32} (hk : AB h f) (hi : vp_in i 37) (e : n = f i.toNatClampNeg) : kb h (8 + i.toNatClampNeg) n := by
  rw [e]
  exact hk _ (Nat.not_le.mp fun q => hi (Or.inr q))
theorem cl_8 {k : Int32} (hk : rg 0 36 k) : (8 + k).toNatClampNeg = 8 + k.toNatClampNeg := by
  have e : (8 : Int32).toInt = 8 := by decide
  unfold rg at hk
  unfold Int32.toNatClampNeg
  rw [add32 8 k (by rw [e]; omega) (by rw [e]; omega), e]
  omega
theorem AB_sk {h : Int} {f : Nat → Int32} {k v : Int32} (hk : AB h f) (hr : rg 0 36 k) (hv : kb h (8 + k).toNatClampNeg v) : AB h (upd f k.toNatClampNeg v) := fun j hj => by
  by_cases e : j = k.toNatClampNeg
  · subst e; rw [pk_us, ← cl_8 hr]; exact hv
  · rw [pk_un e]; exact hk j hj
theorem KB_sa0 {h : Int} {f : Nat → Int32} {k v : Int32} (hk : KB h f) (hr : rg 0 36 k) (hv : kb h (8 + k.toNatClampNeg) v) : KB h (upd f (8 + k).toNatClampNeg v) := by
  rw [cl_8 hr]
  exact KB_st hk hv
theorem KX_sa {h : Int} {f : Nat → Int32} {k v : Int32} (hk : KX h f) (hr : rg 0 36 k) (hv : kb h (8 + k.toNatClampNeg) v) : KX h (upd f (8 + k).toNatClampNeg v) := ⟨KB_sa0 hk.1 hr hv, SP_up hk.2 (by
  rw [cl_8 hr]
  have h1 := rg_cl hr (by decide)
  obtain ⟨j, hj, h2, h3⟩ := h1
  rw [hj]
  unfold Dy
  omega)⟩
