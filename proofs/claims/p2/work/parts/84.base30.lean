/-! images of all that is known -/
theorem dpt_cg2 {f g : Nat → Int32} {at_ : Nat} (k : Nat) (h : ∀ j : Nat, j < k → g (at_ + j) = f (at_ + j)) : dpt g at_ k = dpt f at_ k := by
  induction k with
  | zero => rfl
  | succ k ih => rw [dpt, dpt, ih (fun j hj => h j (by omega)), h k (by omega)]
theorem LW1_cg2 {f g : Nat → Int32} {at_ : Nat} {n : Int} (h : ∀ j : Nat, (j : Int) < n → g (at_ + j) = f (at_ + j)) (hl : LW1 f at_ n) : LW1 g at_ n := fun k hk => by
  rw [dpt_cg2 k (fun j hj => h j (by omega)), h k hk]
  exact hl k hk
theorem KX_cg {C L A B h : Int} {f g : Nat → Int32} (e : ∀ j : Nat, j < 2260 → g j = f j) (hk : KX C L A B h f) : KX C L A B h g := by
  have h5 := (kb_5 (by decide) (by decide)).mp (hk.1 5 (by decide))
  have h6 := (kb_6 (by decide) (by decide)).mp (hk.1 6 (by decide))
  unfold rg at h5 h6
  refine ⟨fun j hj => by rw [e j hj]; exact hk.1 j hj, ⟨fun w hw hlt => ?_, ?_, ?_⟩, KH_cg (fun j hj => e j (by omega)) hk.2.2.1, by rw [e 1 (by decide)]; exact hk.2.2.2.1, by rw [e 2 (by decide)]; exact hk.2.2.2.2⟩
  · rw [e 4 (by decide)] at hlt
    rw [e (53 + w) (by omega)]
    exact hk.2.1.1 w hw hlt
  · rw [e 5 (by decide)]
    exact LW1_cg2 (fun j hj => e _ (by omega)) hk.2.1.2.1
  · rw [e 6 (by decide)]
    exact LW1_cg2 (fun j hj => e _ (by omega)) hk.2.1.2.2
def MI (h : Int) (f : Nat → Int32) : Prop := ∃ C L : Int, KX C L 0 h h f
theorem MI_cg {h : Int} {f g : Nat → Int32} (e : ∀ j : Nat, j < 2260 → g j = f j) (hm : MI h f) : MI h g := by
  obtain ⟨C, L, hk⟩ := hm
  exact ⟨C, L, KX_cg e hk⟩
theorem MI_mono {h h' : Int} {f : Nat → Int32} (hm : MI h f) (hh : h ≤ h') : MI h' f := by
  obtain ⟨C, L, hk⟩ := hm
  exact ⟨C, L, KX_mono hk (Int.le_refl _) hh hh⟩
def IM (h : Int) (g s : Nat → Int32) : Prop := ∀ i : Nat, i < 3 → s i ≠ 0 → MI h (fun j => g (2260 * i + j))
theorem IM_mono {h h' : Int} {g s : Nat → Int32} (hm : IM h g s) (hh : h ≤ h') : IM h' g s := fun i hi hs => MI_mono (hm i hi hs) hh
theorem i2 {i : Int32} (hi : rg 0 2 i) : i.toNatClampNeg < 3 := by
  unfold rg at hi
  unfold Int32.toNatClampNeg
  omega
theorem k2259 {k : Int32} (hk : rg 0 2259 k) : k.toNatClampNeg < 2260 := by
  unfold rg at hk
  unfold Int32.toNatClampNeg
  omega
theorem ix_cl {i k : Int32} (hi : rg 0 2 i) (hk : rg 0 2259 k) : ((2260 * i) + k).toNatClampNeg = 2260 * i.toNatClampNeg + k.toNatClampNeg := by
  have e2 : (2260 : Int32).toInt = 2260 := by decide
  unfold rg at hi hk
  have e3 : (2260 * i).toInt = 2260 * i.toInt := by rw [mul32 2260 i (by rw [e2]; omega) (by rw [e2]; omega), e2]
  unfold Int32.toNatClampNeg
  rw [add32 _ _ (by rw [e3]; omega) (by rw [e3]; omega), e3]
  omega
section Ims
variable {f a x s : Nat → Int32} {i k w : Int32}
theorem im_0 {n : Nat} : a = cp f a 0 n (0 : Int32).toNatClampNeg := by rw [k0]; exact cp_0
theorem im_s (hi : rg 0 2 i) (hx : x = cp f a 0 (2260 * i.toNatClampNeg) k.toNatClampNeg) (hk : rg 0 2259 k) (ew : w = f k.toNatClampNeg) : upd x ((2260 * i) + k).toNatClampNeg w = cp f a 0 (2260 * i.toNatClampNeg) (k + 1).toNatClampNeg := by
  rw [kn hk (by decide), hx, ix_cl hi hk]
  exact cp_s (by rw [show 0 + k.toNatClampNeg = k.toNatClampNeg by omega]; exact ew)
theorem k2260 {lo hi : Int} (hk : rg lo hi k) (h1 : 2260 ≤ lo) (h2 : hi ≤ 2260) : k.toNatClampNeg = 2260 := by
  unfold rg at hk
  unfold Int32.toNatClampNeg
  omega
theorem im_e {h lo hi : Int} {v : Int32} (hi_ : rg 0 2 i) (hx : x = cp f a 0 (2260 * i.toNatClampNeg) k.toNatClampNeg) (hk : rg lo hi k) (h1 : 2260 ≤ lo) (h2 : hi ≤ 2260) (hf : MI h f) (hm : IM h a s) : IM h x (upd s i.toNatClampNeg v) := fun j hj hs => by
  rw [k2260 hk h1 h2] at hx
  have h3 := i2 hi_
  by_cases e : j = i.toNatClampNeg
  · subst e
    refine MI_cg (fun q hq => ?_) hf
    rw [hx, cp_in hq, show 0 + q = q by omega]
  · rw [pk_un e] at hs
    refine MI_cg (fun q hq => ?_) (hm j hj hs)
    show x (2260 * j + q) = a (2260 * j + q)
    rw [hx, cp_out (by omega)]
theorem re_0 {n : Nat} : f = cp a f n 0 (0 : Int32).toNatClampNeg := by rw [k0]; exact cp_0
theorem re_s (hi : rg 0 2 i) (hx : x = cp a f (2260 * i.toNatClampNeg) 0 k.toNatClampNeg) (hk : rg 0 2259 k) (ew : w = a ((2260 * i) + k).toNatClampNeg) : upd x k.toNatClampNeg w = cp a f (2260 * i.toNatClampNeg) 0 (k + 1).toNatClampNeg := by
  rw [ix_cl hi hk] at ew
  rw [kn hk (by decide), hx]
  have := cp_s (f := a) (g := f) (s := 2260 * i.toNatClampNeg) (d := 0) (k := k.toNatClampNeg) ew
  rw [show 0 + k.toNatClampNeg = k.toNatClampNeg by omega] at this
  exact this
theorem re_e {h lo hi : Int} {v : Int32} (hi_ : rg 0 2 i) (hx : x = cp a f (2260 * i.toNatClampNeg) 0 k.toNatClampNeg) (hk : rg lo hi k) (h1 : 2260 ≤ lo) (h2 : hi ≤ 2260) (hm : IM h a s) (ev : v = s i.toNatClampNeg) (hv : ¬ v = 0) : MI h x := by
  rw [k2260 hk h1 h2] at hx
  refine MI_cg (fun q hq => ?_) (hm _ (i2 hi_) (by rw [← ev]; exact hv))
  rw [hx]
  have := cp_in (f := a) (g := f) (s := 2260 * i.toNatClampNeg) (d := 0) (k := 2260) (j := q) hq
  rw [show 0 + q = q by omega] at this
  exact this
end Ims
