/-! the reference's row of numbers: bounds by place -/
def kb (A B h : Int) (j : Nat) (x : Int32) : Prop :=
  if j < 8 then (if j = 1 then rg 1 6 x else if j = 2 then rg 1 9 x else if j = 3 then rg 0 8 x else if j = 4 then rg 0 4 x else if j = 5 then rg 0 900 x else if j = 6 then rg 0 900 x else if j = 7 then rg 0 10 x else True)
  else if j < 16 then rg 0 2 x
  else if j < 40 then True
  else if j < 41 then rg A B x
  else if j < 45 then True
  else if j < 53 then rg 0 99 x
  else if j < 57 then rg 0 8 x
  else if j < 89 then True
  else if j < 459 then (if (j - 89) % 37 < 8 then rg 0 2 x else if (j - 89) % 37 = 32 then rg 0 h x else True)
  else True
def KB (A B h : Int) (f : Nat → Int32) : Prop := ∀ j : Nat, j < 2260 → kb A B h j (f j)
theorem KB_st {A B h : Int} {f : Nat → Int32} {i : Nat} {v : Int32} (hk : KB A B h f) (hv : kb A B h i v) : KB A B h (upd f i v) := fun j hj => by
  by_cases e : j = i
  · subst e; rw [pk_us]; exact hv
  · rw [pk_un e]; exact hk j hj
theorem rg_cl {a b : Int} {x : Int32} (h : rg a b x) (h0 : 0 ≤ a) : ∃ j : Nat, x.toNatClampNeg = j ∧ a ≤ (j : Int) ∧ (j : Int) ≤ b := by
  unfold rg at h
  refine ⟨x.toNatClampNeg, rfl, ?_, ?_⟩ <;> (unfold Int32.toNatClampNeg; omega)
theorem KB_ld {A B h a b lo hi : Int} {f : Nat → Int32} {i : Int32} (hk : KB A B h f) (hi_ : rg a b i) (h0 : 0 ≤ a ∧ b < 2260) (hs : ∀ (j : Nat) (x : Int32), a ≤ (j : Int) → (j : Int) ≤ b → kb A B h j x → rg lo hi x) : rg lo hi (f i.toNatClampNeg) := by
  obtain ⟨j, hj, h1, h2⟩ := rg_cl hi_ h0.1
  rw [hj]
  exact hs j _ h1 h2 (hk j (by omega))
theorem KB_sx {A B h a b lo hi : Int} {f : Nat → Int32} {i v : Int32} (hk : KB A B h f) (hi_ : rg a b i) (hv : rg lo hi v) (h0 : 0 ≤ a) (hs : ∀ (j : Nat) (x : Int32), a ≤ (j : Int) → (j : Int) ≤ b → rg lo hi x → kb A B h j x) : KB A B h (upd f i.toNatClampNeg v) := by
  obtain ⟨j, hj, h1, h2⟩ := rg_cl hi_ h0
  rw [hj]
  exact KB_st hk (hs j v h1 h2 hv)
theorem kb_1 {A B h : Int} {j : Nat} {x : Int32} (a : 1 ≤ (j : Int)) (b : (j : Int) ≤ 1) : kb A B h j x ↔ rg 1 6 x := by
  obtain rfl : j = 1 := by omega
  rfl
theorem kb_2 {A B h : Int} {j : Nat} {x : Int32} (a : 2 ≤ (j : Int)) (b : (j : Int) ≤ 2) : kb A B h j x ↔ rg 1 9 x := by
  obtain rfl : j = 2 := by omega
  rfl
theorem kb_3 {A B h : Int} {j : Nat} {x : Int32} (a : 3 ≤ (j : Int)) (b : (j : Int) ≤ 3) : kb A B h j x ↔ rg 0 8 x := by
  obtain rfl : j = 3 := by omega
  rfl
theorem kb_4 {A B h : Int} {j : Nat} {x : Int32} (a : 4 ≤ (j : Int)) (b : (j : Int) ≤ 4) : kb A B h j x ↔ rg 0 4 x := by
  obtain rfl : j = 4 := by omega
  rfl
theorem kb_5 {A B h : Int} {j : Nat} {x : Int32} (a : 5 ≤ (j : Int)) (b : (j : Int) ≤ 5) : kb A B h j x ↔ rg 0 900 x := by
  obtain rfl : j = 5 := by omega
  rfl
theorem kb_6 {A B h : Int} {j : Nat} {x : Int32} (a : 6 ≤ (j : Int)) (b : (j : Int) ≤ 6) : kb A B h j x ↔ rg 0 900 x := by
  obtain rfl : j = 6 := by omega
  rfl
theorem kb_7 {A B h : Int} {j : Nat} {x : Int32} (a : 7 ≤ (j : Int)) (b : (j : Int) ≤ 7) : kb A B h j x ↔ rg 0 10 x := by
  obtain rfl : j = 7 := by omega
  rfl
theorem kb_40 {A B h : Int} {j : Nat} {x : Int32} (a : 40 ≤ (j : Int)) (b : (j : Int) ≤ 40) : kb A B h j x ↔ rg A B x := by
  obtain rfl : j = 40 := by omega
  rfl
theorem kb_8 {A B h : Int} {j : Nat} {x : Int32} (a : 8 ≤ (j : Int)) (b : (j : Int) ≤ 15) : kb A B h j x ↔ rg 0 2 x := by
  unfold kb
  rw [if_neg (by omega), if_pos (by omega)]
theorem kb_16 {A B h : Int} {j : Nat} {x : Int32} (a : 16 ≤ (j : Int)) (b : (j : Int) ≤ 39) : kb A B h j x ↔ True := by
  unfold kb
  rw [if_neg (by omega), if_neg (by omega), if_pos (by omega)]
theorem kb_41 {A B h : Int} {j : Nat} {x : Int32} (a : 41 ≤ (j : Int)) (b : (j : Int) ≤ 44) : kb A B h j x ↔ True := by
  unfold kb
  rw [if_neg (by omega), if_neg (by omega), if_neg (by omega), if_neg (by omega), if_pos (by omega)]
theorem kb_45 {A B h : Int} {j : Nat} {x : Int32} (a : 45 ≤ (j : Int)) (b : (j : Int) ≤ 52) : kb A B h j x ↔ rg 0 99 x := by
  unfold kb
  rw [if_neg (by omega), if_neg (by omega), if_neg (by omega), if_neg (by omega), if_neg (by omega), if_pos (by omega)]
theorem kb_53 {A B h : Int} {j : Nat} {x : Int32} (a : 53 ≤ (j : Int)) (b : (j : Int) ≤ 56) : kb A B h j x ↔ rg 0 8 x := by
  unfold kb
  rw [if_neg (by omega), if_neg (by omega), if_neg (by omega), if_neg (by omega), if_neg (by omega), if_neg (by omega), if_pos (by omega)]
theorem KB_l {A B h a b a' b' lo hi : Int} {f : Nat → Int32} {i : Int32} (hq : ∀ {A B h : Int} {j : Nat} {x : Int32}, a' ≤ (j : Int) → (j : Int) ≤ b' → (kb A B h j x ↔ rg lo hi x)) (hk : KB A B h f) (hi_ : rg a b i) (h1 : a' ≤ a ∧ 0 ≤ a) (h2 : b ≤ b' ∧ b < 2260) : rg lo hi (f i.toNatClampNeg) :=
  KB_ld hk hi_ ⟨h1.2, h2.2⟩ (fun j x q1 q2 q3 => (hq (Int.le_trans h1.1 q1) (Int.le_trans q2 h2.1)).mp q3)
theorem KB_s {A B h a b a' b' lo hi : Int} {f : Nat → Int32} {i v : Int32} (hq : ∀ {A B h : Int} {j : Nat} {x : Int32}, a' ≤ (j : Int) → (j : Int) ≤ b' → (kb A B h j x ↔ rg lo hi x)) (hk : KB A B h f) (hi_ : rg a b i) (hv : rg lo hi v) (h1 : a' ≤ a ∧ 0 ≤ a) (h2 : b ≤ b') : KB A B h (upd f i.toNatClampNeg v) :=
  KB_sx hk hi_ hv h1.2 (fun j x q1 q2 q3 => (hq (Int.le_trans h1.1 q1) (Int.le_trans q2 h2)).mpr q3)
theorem KB_sT {A B h a b a' b' : Int} {f : Nat → Int32} {i v : Int32} (hq : ∀ {A B h : Int} {j : Nat} {x : Int32}, a' ≤ (j : Int) → (j : Int) ≤ b' → (kb A B h j x ↔ True)) (hk : KB A B h f) (hi_ : rg a b i) (h1 : a' ≤ a ∧ 0 ≤ a) (h2 : b ≤ b') : KB A B h (upd f i.toNatClampNeg v) :=
  KB_sx hk hi_ (rg_any v) h1.2 (fun j x q1 q2 _ => (hq (Int.le_trans h1.1 q1) (Int.le_trans q2 h2)).mpr trivial)
theorem KB_h {A B h a b : Int} {f : Nat → Int32} {i : Int32} (hk : KB A B h f) (hi_ : rg a b i) (h1 : 40 ≤ a) (h2 : b ≤ 40) : rg A B (f i.toNatClampNeg) :=
  KB_ld hk hi_ ⟨by omega, by omega⟩ (fun j x q1 q2 q3 => (kb_40 (by omega) (by omega)).mp q3)
theorem rl_b {a b : Int} {x : Int32} (h : rl a b x.toInt64) : rg a b x := by
  unfold rl at h
  unfold rg
  rw [Int32.toInt_toInt64] at h
  exact h
theorem rl_cut {a b c d : Int} {x : Int64} (h1 : rl a b x) (h2 : rl c d x) : rl (max a c) (min b d) x := by
  unfold rl at *
  omega
theorem rg_ai {a b c d n e : Int} {x k : Int32} (h : rg a b (x + k)) (hx : rg c d x) (hk : k.toInt = n) (h1 : -2147483648 ≤ c + n) (h2 : d + n ≤ 2147483647) (h3 : b - n ≤ e) : rg c e x := by
  unfold rg at *
  rw [add32 x k (by omega) (by omega)] at h
  omega
theorem sz_dec {x : Int32} (h : ¬ x = 0) : (x &&& (x - 1)).toBitVec.toNat < x.toBitVec.toNat := by
  have h0 : x.toBitVec.toNat ≠ 0 := fun q => h (by
    apply Int32.toBitVec_inj.mp
    apply BitVec.eq_of_toNat_eq
    rw [q]
    rfl)
  have e1 : (x &&& (x - 1)).toBitVec = x.toBitVec &&& (x.toBitVec - 1#32) := rfl
  have h1 := x.toBitVec.isLt
  rw [e1, BitVec.toNat_and]
  have h2 : (x.toBitVec - 1#32).toNat = x.toBitVec.toNat - 1 := by
    rw [BitVec.toNat_sub]
    have h3 : (1#32).toNat = 1 := rfl
    rw [h3]
    omega
  have h4 : x.toBitVec.toNat &&& (x.toBitVec - 1#32).toNat ≤ (x.toBitVec - 1#32).toNat := Nat.and_le_right
  omega
/-! what no deed changes: walkers' rounds, laws -/
def Dy (j : Nat) : Prop := (7 ≤ j ∧ j ≤ 44) ∨ (89 ≤ j ∧ j ≤ 458)
def dpt (f : Nat → Int32) (at_ : Nat) : Nat → Int
  | 0 => 0
  | k + 1 => dpt f at_ k + (if 100 ≤ (f (at_ + k)).toInt then 1 else if (f (at_ + k)).toInt = 18 then 0 else -1)
def LW1 (f : Nat → Int32) (at_ : Nat) (n : Int) : Prop := ∀ k : Nat, (k : Int) < n → (100 ≤ (f (at_ + k)).toInt → 0 ≤ dpt f at_ k ∧ dpt f at_ k ≤ 63 ∧ ((f (at_ + k)).toInt < 1000 → (f (at_ + k)).toInt ≤ 105)) ∧ ((f (at_ + k)).toInt = 18 → 1 ≤ dpt f at_ k ∧ dpt f at_ k ≤ 64) ∧ ((f (at_ + k)).toInt < 100 → (f (at_ + k)).toInt ≠ 18 → 2 ≤ dpt f at_ k ∧ dpt f at_ k ≤ 64)
def KW (f : Nat → Int32) : Prop := ∀ w : Nat, w < 4 → (w : Int) < (f 4).toInt → 1 ≤ (f (53 + w)).toInt
def SP (f : Nat → Int32) : Prop := KW f ∧ LW1 f 459 (f 5).toInt ∧ LW1 f 1359 (f 6).toInt
theorem dpt_cg {f g : Nat → Int32} {at_ : Nat} (h : ∀ j : Nat, at_ ≤ j → g j = f j) (k : Nat) : dpt g at_ k = dpt f at_ k := by
  induction k with
  | zero => rfl
  | succ k ih => rw [dpt, dpt, ih, h _ (by omega)]
theorem LW1_cg {f g : Nat → Int32} {at_ : Nat} {n : Int} (h : ∀ j : Nat, at_ ≤ j → g j = f j) (hl : LW1 f at_ n) : LW1 g at_ n := fun k hk => by
  rw [dpt_cg h, h _ (by omega)]
  exact hl k hk
theorem SP_cg {f g : Nat → Int32} (h : ∀ j : Nat, ¬ Dy j → g j = f j) (hs : SP f) : SP g := by
  have h4 : g 4 = f 4 := h 4 (by unfold Dy; omega)
  have h5 : g 5 = f 5 := h 5 (by unfold Dy; omega)
  have h6 : g 6 = f 6 := h 6 (by unfold Dy; omega)
  refine ⟨fun w hw hlt => ?_, ?_, ?_⟩
  · rw [h4] at hlt
    rw [h (53 + w) (by unfold Dy; omega)]
    exact hs.1 w hw hlt
  · rw [h5]
    exact LW1_cg (fun j hj => h j (by unfold Dy; omega)) hs.2.1
  · rw [h6]
    exact LW1_cg (fun j hj => h j (by unfold Dy; omega)) hs.2.2
theorem SP_up {f : Nat → Int32} {i : Nat} {v : Int32} (hs : SP f) (hd : Dy i) : SP (upd f i v) := SP_cg (fun j hj => pk_un (fun e => hj (e ▸ hd))) hs
theorem Dy_rg {a b : Int} {x : Int32} (h : rg a b x) (h1 : (7 ≤ a ∧ b ≤ 44) ∨ (89 ≤ a ∧ b ≤ 458)) : Dy x.toNatClampNeg := by
  obtain ⟨j, hj, h2, h3⟩ := rg_cl h (by omega)
  rw [hj]
  unfold Dy
  omega
/-! what hangs has a place and an hour, what is held an hour -/
def RS (C L : Int) (g : Nat → Int32) : Prop := ∀ t : Nat, t < 8 → (g t = 1 → rg 0 (C - 1) (g (8 + t)) ∧ rg 0 (L - 1) (g (16 + t)) ∧ rg (-2000000) 4000000 (g (24 + t))) ∧ (g t = 0 → rg (-1200000) 1200000 (g (24 + t)))
def KH (C L : Int) (f : Nat → Int32) : Prop := RS C L (fun j => f (8 + j)) ∧ ∀ n : Nat, n < 10 → RS C L (fun j => f (89 + 37 * n + j))
def KX (C L A B h : Int) (f : Nat → Int32) : Prop := KB A B h f ∧ SP f ∧ KH C L f ∧ (f 1).toInt = C ∧ (f 2).toInt = L
theorem RS_cg {C L : Int} {g g' : Nat → Int32} (h : ∀ j : Nat, j < 32 → g' j = g j) (hr : RS C L g) : RS C L g' := fun t ht => by
  rw [h t (by omega), h (8 + t) (by omega), h (16 + t) (by omega), h (24 + t) (by omega)]
  exact hr t ht
theorem KH_cg {C L : Int} {f f' : Nat → Int32} (h : ∀ j : Nat, (8 ≤ j ∧ j < 40) ∨ (89 ≤ j ∧ j < 459) → f' j = f j) (hk : KH C L f) : KH C L f' :=
  ⟨RS_cg (fun j hj => h (8 + j) (by omega)) hk.1, fun n hn => RS_cg (fun j hj => h (89 + 37 * n + j) (by omega)) (hk.2 n hn)⟩
theorem KX_l {C L A B h a b a' b' lo hi : Int} {f : Nat → Int32} {i : Int32} (hq : ∀ {A B h : Int} {j : Nat} {x : Int32}, a' ≤ (j : Int) → (j : Int) ≤ b' → (kb A B h j x ↔ rg lo hi x)) (hk : KX C L A B h f) (hi_ : rg a b i) (h1 : a' ≤ a ∧ 0 ≤ a) (h2 : b ≤ b' ∧ b < 2260) : rg lo hi (f i.toNatClampNeg) := KB_l hq hk.1 hi_ h1 h2
theorem KX_n {C L A B h A' B' h' : Int} {f : Nat → Int32} {i v : Int32} {a b : Int} (hk : KX C L A B h f) (hi_ : rg a b i) (h3 : (7 ≤ a ∧ b ≤ 7) ∨ (40 ≤ a ∧ b ≤ 44)) (hn : KB A' B' h' (upd f i.toNatClampNeg v)) : KX C L A' B' h' (upd f i.toNatClampNeg v) := by
  obtain ⟨j, hj, h4, h5⟩ := rg_cl hi_ (by omega)
  refine ⟨hn, SP_up hk.2.1 (Dy_rg hi_ (by omega)), KH_cg (fun k hk' => by rw [hj]; exact pk_un (by omega)) hk.2.2.1, ?_, ?_⟩
  · rw [hj, pk_un (by omega)]; exact hk.2.2.2.1
  · rw [hj, pk_un (by omega)]; exact hk.2.2.2.2
theorem KX_s {C L A B h a b a' b' lo hi : Int} {f : Nat → Int32} {i v : Int32} (hq : ∀ {A B h : Int} {j : Nat} {x : Int32}, a' ≤ (j : Int) → (j : Int) ≤ b' → (kb A B h j x ↔ rg lo hi x)) (hk : KX C L A B h f) (hi_ : rg a b i) (hv : rg lo hi v) (h1 : a' ≤ a ∧ 0 ≤ a) (h2 : b ≤ b') (h3 : (7 ≤ a ∧ b ≤ 7) ∨ (40 ≤ a ∧ b ≤ 44)) : KX C L A B h (upd f i.toNatClampNeg v) := KX_n hk hi_ h3 (KB_s hq hk.1 hi_ hv h1 h2)
theorem KX_sT {C L A B h a b a' b' : Int} {f : Nat → Int32} {i v : Int32} (hq : ∀ {A B h : Int} {j : Nat} {x : Int32}, a' ≤ (j : Int) → (j : Int) ≤ b' → (kb A B h j x ↔ True)) (hk : KX C L A B h f) (hi_ : rg a b i) (h1 : a' ≤ a ∧ 0 ≤ a) (h2 : b ≤ b') (h3 : (7 ≤ a ∧ b ≤ 7) ∨ (40 ≤ a ∧ b ≤ 44)) : KX C L A B h (upd f i.toNatClampNeg v) := KX_n hk hi_ h3 (KB_sT hq hk.1 hi_ h1 h2)
theorem KX_h {C L A B h a b : Int} {f : Nat → Int32} {i : Int32} (hk : KX C L A B h f) (hi_ : rg a b i) (h1 : 40 ≤ a) (h2 : b ≤ 40) : rg A B (f i.toNatClampNeg) := KB_h hk.1 hi_ h1 h2
theorem KX_at {C L A B h : Int} {f : Nat → Int32} {i n : Int32} (hk : KX C L A B h f) (hi : vp_in i 2260) (e : n = f i.toNatClampNeg) : kb A B h i.toNatClampNeg n := by
  rw [e]
  exact hk.1 _ (Nat.not_le.mp fun q => hi (Or.inr q))
theorem cl_53 {w : Int32} (hw : rg 0 3 w) : (53 + w).toNatClampNeg = 53 + w.toNatClampNeg := by
  have e : (53 : Int32).toInt = 53 := by decide
  unfold rg at hw
  unfold Int32.toNatClampNeg
  rw [add32 53 w (by rw [e]; omega) (by rw [e]; omega), e]
  omega
/-- a place of the row, the constant ahead -/
theorem cl_p {c t : Int32} {n : Nat} {a b : Int} (hc : c.toInt = (n : Int)) (hn : n ≤ 2000) (ht : rg a b t) (h0 : 0 ≤ a ∧ b ≤ 2000) : (c + t).toNatClampNeg = n + t.toNatClampNeg := by
  unfold rg at ht
  unfold Int32.toNatClampNeg
  rw [add32 c t (by omega) (by omega), hc]
  omega
/-- one of the walkers -/
def wk (f : Nat → Int32) (w : Int32) : Prop := rg 0 3 w ∧ w.toInt < (f 4).toInt
theorem KX_w {C L A B h : Int} {f : Nat → Int32} {w : Int32} (hk : KX C L A B h f) (hw : wk f w) : rg 1 8 (f (53 + w).toNatClampNeg) := by
  have h1 : rg 0 8 (f (53 + w).toNatClampNeg) := KB_l kb_53 hk.1 (i := 53 + w) (rg_add (e := 53) (f := 56) (rg_lit (by decide) : rg 53 53 (53 : Int32)) hw.1 (by decide) (by decide) (by decide) (by decide)) (by decide) (by decide)
  have h2 := hk.2.1.1 w.toNatClampNeg (by have := hw.1; unfold rg at this; unfold Int32.toNatClampNeg; omega) (by have := hw.1; have := hw.2; unfold rg at *; unfold Int32.toNatClampNeg; omega)
  rw [cl_53 hw.1] at h1 ⊢
  unfold rg at *
  omega
/-- a row that things are read from -/
def RB (f : Nat → Int32) : Prop := rg 0 8 (f 3)
theorem KX_rb {C L A B h : Int} {f : Nat → Int32} (hk : KX C L A B h f) : RB f := (kb_3 (by decide) (by decide)).mp (hk.1 3 (by decide))
theorem RB_l {f : Nat → Int32} {i : Int32} (hk : RB f) (hi : rg 3 3 i) : rg 0 8 (f i.toNatClampNeg) := by
  obtain ⟨j, hj, h1, h2⟩ := rg_cl hi (by decide)
  obtain rfl : j = 3 := by omega
  rw [hj]
  exact hk
theorem wd_in {x y k : Int32} {N : Nat} (h1 : x - y = Int32.ofNat N) (h2 : k < Int32.ofNat N) (hx : rg 0 900 x) (hy : rg 0 900 y) (hk : rg 0 2147483647 k) (hN : N ≤ 900) : vp_in (y + k) 900 := by
  have e1 : (x - y).toInt = x.toInt - y.toInt := sub32 x y (by unfold rg at hx hy; omega) (by unfold rg at hx hy; omega)
  rw [h1, Int32.toInt_ofNat_of_lt (by omega)] at e1
  rw [fa_lt, Int32.toInt_ofNat_of_lt (by omega)] at h2
  unfold rg at *
  rw [vp_in_iff, add32 y k (by omega) (by omega)]
  constructor <;> omega
theorem kb_ab {A B A' B' h : Int} {j : Nat} {x : Int32} (hj : j ≠ 40) (hx : kb A B h j x) : kb A' B' h j x := by
  unfold kb at hx ⊢
  by_cases h1 : j < 8
  · rw [if_pos h1] at hx ⊢; exact hx
  · rw [if_neg h1] at hx ⊢
    by_cases h2 : j < 16
    · rw [if_pos h2] at hx ⊢; exact hx
    · rw [if_neg h2] at hx ⊢
      by_cases h3 : j < 40
      · rw [if_pos h3] at hx ⊢; exact hx
      · rw [if_neg h3, if_neg (by omega : ¬ j < 41)] at hx ⊢; exact hx
theorem kb_hm {A B h h' : Int} {j : Nat} {x : Int32} (hh : h ≤ h') (hx : kb A B h j x) : kb A B h' j x := by
  by_cases h1 : j < 89
  · have e : kb A B h j x = kb A B h' j x := by
      unfold kb
      rw [if_pos h1, if_pos h1]
    rw [← e]
    exact hx
  · unfold kb at hx ⊢
    rw [if_neg (by omega : ¬ j < 8), if_neg (by omega : ¬ j < 16), if_neg (by omega : ¬ j < 40), if_neg (by omega : ¬ j < 41), if_neg (by omega : ¬ j < 45), if_neg (by omega : ¬ j < 53), if_neg (by omega : ¬ j < 57), if_neg h1] at hx ⊢
    by_cases h2 : j < 459
    · rw [if_pos h2] at hx ⊢
      by_cases h3 : (j - 89) % 37 < 8
      · rw [if_pos h3] at hx ⊢; exact hx
      · rw [if_neg h3] at hx ⊢
        by_cases h4 : (j - 89) % 37 = 32
        · rw [if_pos h4] at hx ⊢; exact rg_w hx (Int.le_refl _) hh
        · rw [if_neg h4]; trivial
    · rw [if_neg h2]; trivial
theorem kb_mono {A B h A' B' h' : Int} {j : Nat} {x : Int32} (h1 : A' ≤ A) (h2 : B ≤ B') (h3 : h ≤ h') (hx : kb A B h j x) : kb A' B' h' j x := by
  by_cases e : j = 40
  · subst e
    exact (kb_40 (by decide) (by decide)).mpr (rg_w ((kb_40 (by decide) (by decide)).mp hx) h1 h2)
  · exact kb_hm h3 (kb_ab e hx)
theorem KX_mono {C L A B h A' B' h' : Int} {f : Nat → Int32} (hk : KX C L A B h f) (h1 : A' ≤ A) (h2 : B ≤ B') (h3 : h ≤ h') : KX C L A' B' h' f := ⟨fun j hj => kb_mono h1 h2 h3 (hk.1 j hj), hk.2⟩
theorem KX_40 {C L A B h A' B' : Int} {f : Nat → Int32} {i v : Int32} (hk : KX C L A B h f) (hv : rg A' B' v) (hi : rg 40 40 i) : KX C L A' B' h (upd f i.toNatClampNeg v) :=
  KX_n hk hi (Or.inr (by decide)) (by
    obtain ⟨j, hj, h1, h2⟩ := rg_cl hi (by decide)
    obtain rfl : j = 40 := by omega
    rw [hj]
    intro k hk'
    by_cases e : k = 40
    · subst e; rw [pk_us]; exact (kb_40 (by decide) (by decide)).mpr hv
    · rw [pk_un e]; exact kb_ab e (hk.1 k hk'))
theorem hs_1 {A B : Int} {n : Int32} (h : rg A B n) (hA : -3000000 ≤ A) (hP : B ≤ 5000000) : rg A (B + 1) (n + 1) := by
  unfold rg at *
  rw [inc32 n (by omega)]
  omega
/-- one thing's four places told anew -/
theorem KX_4 {C L A B h : Int} {f f' : Nat → Int32} {u : Nat} (hk : KX C L A B h f) (hu : u < 8) (he : ∀ j : Nat, j ≠ 8 + u → j ≠ 16 + u → j ≠ 24 + u → j ≠ 32 + u → f' j = f j) (h0 : rg 0 2 (f' (8 + u)))
    (h1 : f' (8 + u) = 1 → rg 0 (C - 1) (f' (16 + u)) ∧ rg 0 (L - 1) (f' (24 + u)) ∧ rg (-2000000) 4000000 (f' (32 + u))) (h2 : f' (8 + u) = 0 → rg (-1200000) 1200000 (f' (32 + u))) : KX C L A B h f' := by
  refine ⟨fun j hj => ?_, SP_cg (fun j hj => he j (fun e => hj (by unfold Dy; omega)) (fun e => hj (by unfold Dy; omega)) (fun e => hj (by unfold Dy; omega)) (fun e => hj (by unfold Dy; omega))) hk.2.1, ⟨fun t ht => ?_, fun n hn => RS_cg (fun j hj => he _ (by omega) (by omega) (by omega) (by omega)) (hk.2.2.1.2 n hn)⟩, ?_, ?_⟩
  · by_cases e1 : j = 8 + u
    · subst e1; exact (kb_8 (by omega) (by omega)).mpr h0
    · by_cases e2 : 16 ≤ j ∧ j ≤ 39
      · exact (kb_16 (by omega) (by omega)).mpr trivial
      · rw [he j e1 (by omega) (by omega) (by omega)]; exact hk.1 j hj
  · show (f' (8 + t) = 1 → rg 0 (C - 1) (f' (8 + (8 + t))) ∧ rg 0 (L - 1) (f' (8 + (16 + t))) ∧ rg (-2000000) 4000000 (f' (8 + (24 + t)))) ∧ (f' (8 + t) = 0 → rg (-1200000) 1200000 (f' (8 + (24 + t))))
    rw [show 8 + (8 + t) = 16 + t by omega, show 8 + (16 + t) = 24 + t by omega, show 8 + (24 + t) = 32 + t by omega]
    by_cases e : t = u
    · subst e; exact ⟨h1, h2⟩
    · have hr := hk.2.2.1.1 t ht
      rw [he (8 + t) (by omega) (by omega) (by omega) (by omega), he (16 + t) (by omega) (by omega) (by omega) (by omega), he (24 + t) (by omega) (by omega) (by omega) (by omega), he (32 + t) (by omega) (by omega) (by omega) (by omega)]
      have hr' : (f (8 + t) = 1 → rg 0 (C - 1) (f (8 + (8 + t))) ∧ rg 0 (L - 1) (f (8 + (16 + t))) ∧ rg (-2000000) 4000000 (f (8 + (24 + t)))) ∧ (f (8 + t) = 0 → rg (-1200000) 1200000 (f (8 + (24 + t)))) := hr
      rw [show 8 + (8 + t) = 16 + t by omega, show 8 + (16 + t) = 24 + t by omega, show 8 + (24 + t) = 32 + t by omega] at hr'
      exact hr'
  · rw [he 1 (by omega) (by omega) (by omega) (by omega)]; exact hk.2.2.2.1
  · rw [he 2 (by omega) (by omega) (by omega) (by omega)]; exact hk.2.2.2.2
/-- the clauses of one thing -/
theorem KX_rs {C L A B h : Int} {f : Nat → Int32} {t : Nat} (hk : KX C L A B h f) (ht : t < 8) : (f (8 + t) = 1 → rg 0 (C - 1) (f (16 + t)) ∧ rg 0 (L - 1) (f (24 + t)) ∧ rg (-2000000) 4000000 (f (32 + t))) ∧ (f (8 + t) = 0 → rg (-1200000) 1200000 (f (32 + t))) := by
  have hr' : (f (8 + t) = 1 → rg 0 (C - 1) (f (8 + (8 + t))) ∧ rg 0 (L - 1) (f (8 + (16 + t))) ∧ rg (-2000000) 4000000 (f (8 + (24 + t)))) ∧ (f (8 + t) = 0 → rg (-1200000) 1200000 (f (8 + (24 + t)))) := hk.2.2.1.1 t ht
  rw [show 8 + (8 + t) = 16 + t by omega, show 8 + (16 + t) = 24 + t by omega, show 8 + (24 + t) = 32 + t by omega] at hr'
  exact hr'
theorem lt7 {t : Int32} (ht : rg 0 7 t) : t.toNatClampNeg < 8 := by
  unfold rg at ht
  unfold Int32.toNatClampNeg
  omega
theorem p8 {t : Int32} (ht : rg 0 7 t) : (8 + t).toNatClampNeg = 8 + t.toNatClampNeg := cl_p (n := 8) (by decide) (by decide) ht (by decide)
theorem p16 {t : Int32} (ht : rg 0 7 t) : (16 + t).toNatClampNeg = 16 + t.toNatClampNeg := cl_p (n := 16) (by decide) (by decide) ht (by decide)
theorem p24 {t : Int32} (ht : rg 0 7 t) : (24 + t).toNatClampNeg = 24 + t.toNatClampNeg := cl_p (n := 24) (by decide) (by decide) ht (by decide)
theorem p32 {t : Int32} (ht : rg 0 7 t) : (32 + t).toNatClampNeg = 32 + t.toNatClampNeg := cl_p (n := 32) (by decide) (by decide) ht (by decide)
theorem p40 : (40 : Int32).toNatClampNeg = 40 := by decide
theorem p3 : (3 : Int32).toNatClampNeg = 3 := by decide
theorem KX_tk {C L A B h : Int} {f : Nat → Int32} {t n : Int32} (hk : KX C L A B h f) (hA : 0 ≤ A) (hB : B ≤ 1200000) (ht : rg 0 7 t) (e : n = upd (upd (upd f (8 + t).toNatClampNeg 0) (16 + t).toNatClampNeg (-1)) (24 + t).toNatClampNeg (-1) (40 : Int32).toNatClampNeg) : KX C L A B h (upd (upd (upd (upd f (8 + t).toNatClampNeg 0) (16 + t).toNatClampNeg (-1)) (24 + t).toNatClampNeg (-1)) (32 + t).toNatClampNeg n) := by
  have hu := lt7 ht
  rw [p8 ht, p16 ht, p24 ht, p40] at e
  rw [p8 ht, p16 ht, p24 ht, p32 ht]
  rw [pk_un (by omega), pk_un (by omega), pk_un (by omega)] at e
  have h4 : rg A B n := by
    rw [e]
    exact (kb_40 (by decide) (by decide)).mp (hk.1 40 (by decide))
  refine KX_4 hk hu (fun j a b c d => by rw [pk_un d, pk_un c, pk_un b, pk_un a]) ?_ ?_ ?_
  · rw [pk_un (by omega), pk_un (by omega), pk_un (by omega), pk_us]; exact rg_lit (by decide)
  · intro q
    rw [pk_un (by omega), pk_un (by omega), pk_un (by omega), pk_us] at q
    exact absurd q (by decide)
  · intro _
    rw [pk_us]
    exact rg_w h4 (by omega) hB
theorem KX_dr {C L A B h : Int} {f : Nat → Int32} {t v : Int32} (hk : KX C L A B h f) (ht : rg 0 7 t) : KX C L A B h (upd (upd (upd f (8 + t).toNatClampNeg 2) (24 + t).toNatClampNeg v) (32 + t).toNatClampNeg 0) := by
  have hu := lt7 ht
  rw [p8 ht, p24 ht, p32 ht]
  refine KX_4 hk hu (fun j a b c d => by rw [pk_un d, pk_un c, pk_un a]) ?_ ?_ ?_
  · rw [pk_un (by omega), pk_un (by omega), pk_us]; exact rg_lit (by decide)
  · intro q
    rw [pk_un (by omega), pk_un (by omega), pk_us] at q
    exact absurd q (by decide)
  · intro q
    rw [pk_un (by omega), pk_un (by omega), pk_us] at q
    exact absurd q (by decide)
/-- how long it hangs: as long as it was held, or as the law tells -/
def hf (a r : Int32) : Prop := r = a ∨ rg 0 999 r
theorem KX_lt {C L A B h : Int} {f : Nat → Int32} {t c l n m w r : Int32} (hk : KX C L A B h f) (hA : 0 ≤ A) (hB : B ≤ 1100000) (ht : rg 0 7 t) (hh : f (8 + t).toNatClampNeg = 0) (hc : rg 0 (C - 1) c) (hl : rg 0 (L - 1) l)
    (em : m = f (40 : Int32).toNatClampNeg) (ew : w = f (32 + t).toNatClampNeg) (hr : hf (m - w) r) (e : n = upd (upd (upd f (8 + t).toNatClampNeg 1) (16 + t).toNatClampNeg c) (24 + t).toNatClampNeg l (40 : Int32).toNatClampNeg) : KX C L A B h (upd (upd (upd (upd f (8 + t).toNatClampNeg 1) (16 + t).toNatClampNeg c) (24 + t).toNatClampNeg l) (32 + t).toNatClampNeg (n + r)) := by
  have hu := lt7 ht
  rw [p8 ht, p16 ht, p24 ht, p40] at e
  rw [p8 ht] at hh
  rw [p32 ht] at ew
  rw [p40] at em
  rw [p8 ht, p16 ht, p24 ht, p32 ht]
  rw [pk_un (by omega), pk_un (by omega), pk_un (by omega), ← em] at e
  subst e
  have h4 : rg A B n := by
    rw [em]
    exact (kb_40 (by decide) (by decide)).mp (hk.1 40 (by decide))
  have h5 : rg (-1200000) 1200000 w := by
    rw [ew]
    exact (KX_rs hk hu).2 hh
  have h6 : rg (-2000000) 4000000 (n + r) := by
    unfold hf at hr
    unfold rg at *
    rcases hr with q | q
    · have e1 : (n - w).toInt = n.toInt - w.toInt := sub32 n w (by omega) (by omega)
      rw [q, add32 n (n - w) (by omega) (by omega)]
      omega
    · rw [add32 n r (by omega) (by omega)]
      omega
  refine KX_4 hk hu (fun j a b c d => by rw [pk_un d, pk_un c, pk_un b, pk_un a]) ?_ ?_ ?_
  · rw [pk_un (by omega), pk_un (by omega), pk_un (by omega), pk_us]; exact rg_lit (by decide)
  · intro _
    rw [pk_un (by omega : 16 + t.toNatClampNeg ≠ 32 + t.toNatClampNeg), pk_un (by omega : 16 + t.toNatClampNeg ≠ 24 + t.toNatClampNeg), pk_us, pk_un (by omega : 24 + t.toNatClampNeg ≠ 32 + t.toNatClampNeg), pk_us, pk_us]
    exact ⟨hc, hl, h6⟩
  · intro q
    rw [pk_un (by omega), pk_un (by omega), pk_un (by omega), pk_us] at q
    exact absurd q (by decide)
/-! the reference: the states of deeds -/
theorem el_of {a b : Int} {n x : Int32} (e : n = x) (h : rg a b n) : rg a b x := e ▸ h
theorem el_st {a b : Int} {f : Nat → Int32} {i : Nat} {v : Int32} (h : rg a b v) : rg a b (upd f i v i) := by rw [pk_us]; exact h
theorem el_up {a b c d : Int} {f : Nat → Int32} {i v : Int32} {k : Nat} (h : rg a b (f k)) (hi : rg c d i) (h0 : 0 ≤ c) (h1 : d < k ∨ (k : Int) < c) : rg a b (upd f i.toNatClampNeg v k) := by
  obtain ⟨j, hj, h2, h3⟩ := rg_cl hi h0
  rw [hj, pk_un (by omega)]
  exact h
/-! walkers -/
theorem wk_of {f : Nat → Int32} {w n : Int32} (hw : rg 0 3 w) (h : w < n) (e : n = f (4 : Int32).toNatClampNeg) : wk f w := by
  refine ⟨hw, ?_⟩
  rw [fa_lt, e, show (4 : Int32).toNatClampNeg = 4 from by decide] at h
  exact h
theorem wk_of2 {f : Nat → Int32} {w n : Int32} (hw : rg 0 3 w) (h : w.toInt64 ≤ (n - 1).toInt64) (hn : rg 0 4 n) (e : n = f (4 : Int32).toNatClampNeg) : wk f w := by
  refine ⟨hw, ?_⟩
  have e1 : (1 : Int32).toInt = 1 := by decide
  rw [fa_le64, Int32.toInt_toInt64, Int32.toInt_toInt64, sub32 n 1 (by unfold rg at hn; rw [e1]; omega) (by unfold rg at hn; rw [e1]; omega), e1] at h
  rw [e, show (4 : Int32).toNatClampNeg = 4 from by decide] at h
  omega
/-! a law's steps and how many numbers wait -/
theorem lw_ix {a : Nat} {A k : Int32} (hA : A.toInt = a) (ha : a ≤ 1359) (hk : rg 0 899 k) : (A + k).toNatClampNeg = a + k.toNatClampNeg := by
  unfold rg at hk
  unfold Int32.toNatClampNeg
  rw [add32 A k (by omega) (by omega), hA]
  omega
theorem lw_k {k : Int32} (hk : rg 0 899 k) : (k + 1).toNatClampNeg = k.toNatClampNeg + 1 := by
  unfold rg at hk
  unfold Int32.toNatClampNeg
  rw [inc32 k (by omega)]
  omega
theorem lw_lt {N k : Int32} (h : k < N) (hk : rg 0 899 k) : (k.toNatClampNeg : Int) < N.toInt := by
  rw [fa_lt] at h
  unfold rg at hk
  unfold Int32.toNatClampNeg
  omega
section Lws
variable {f : Nat → Int32} {a : Nat} {A N k st n : Int32} {lo hi : Int}
theorem lw_1 (hl : LW1 f a N.toInt) (hA : A.toInt = a) (ha : a ≤ 1359) (hlt : k < N) (hk : rg 0 899 k) (e : st = f (A + k).toNatClampNeg) (hn : n.toInt = dpt f a k.toNatClampNeg) (hs : rg lo hi st) (h0 : 100 ≤ lo) : rg 0 63 n ∧ (st < 1000 → rg 100 105 st) := by
  have h1 := (hl k.toNatClampNeg (lw_lt hlt hk)).1
  rw [← lw_ix hA ha hk, ← e] at h1
  unfold rg at *
  obtain ⟨h2, h3, h4⟩ := h1 (by omega)
  refine ⟨⟨by omega, by omega⟩, fun q => ?_⟩
  rw [fa_lt, show (1000 : Int32).toInt = 1000 from by decide] at q
  have := h4 q
  constructor <;> omega
theorem lw_2 (hl : LW1 f a N.toInt) (hA : A.toInt = a) (ha : a ≤ 1359) (hlt : k < N) (hk : rg 0 899 k) (e : st = f (A + k).toNatClampNeg) (hn : n.toInt = dpt f a k.toNatClampNeg) (hs : rg 18 18 st) : rg 1 64 n := by
  have h1 := (hl k.toNatClampNeg (lw_lt hlt hk)).2.1
  rw [← lw_ix hA ha hk, ← e] at h1
  unfold rg at *
  have := h1 (by omega)
  omega
theorem lw_3 (hl : LW1 f a N.toInt) (hA : A.toInt = a) (ha : a ≤ 1359) (hlt : k < N) (hk : rg 0 899 k) (e : st = f (A + k).toNatClampNeg) (hn : n.toInt = dpt f a k.toNatClampNeg) (hs : rg lo hi st) (h0 : hi ≤ 99) (h1 : ¬ st = 18) : rg 2 64 n := by
  have h2 := (hl k.toNatClampNeg (lw_lt hlt hk)).2.2
  rw [← lw_ix hA ha hk, ← e] at h2
  rw [fa_eq, show (18 : Int32).toInt = 18 from by decide] at h1
  unfold rg at *
  have := h2 (by omega) h1
  omega
theorem lw_s1 (hA : A.toInt = a) (ha : a ≤ 1359) (hk : rg 0 899 k) (e : st = f (A + k).toNatClampNeg) (hn : n.toInt = dpt f a k.toNatClampNeg) (hs : rg lo hi st) (h0 : 100 ≤ lo) (hr : rg 0 63 n) : (n + 1).toInt = dpt f a (k + 1).toNatClampNeg := by
  rw [lw_k hk, dpt, ← lw_ix hA ha hk, ← e, ← hn]
  unfold rg at *
  rw [if_pos (by omega), inc32 n (by omega)]
theorem lw_s2 (hA : A.toInt = a) (ha : a ≤ 1359) (hk : rg 0 899 k) (e : st = f (A + k).toNatClampNeg) (hn : n.toInt = dpt f a k.toNatClampNeg) (hs : rg 18 18 st) : n.toInt = dpt f a (k + 1).toNatClampNeg := by
  rw [lw_k hk, dpt, ← lw_ix hA ha hk, ← e, ← hn]
  unfold rg at *
  rw [if_neg (by omega), if_pos (by omega)]
  omega
theorem lw_s3 (hA : A.toInt = a) (ha : a ≤ 1359) (hk : rg 0 899 k) (e : st = f (A + k).toNatClampNeg) (hn : n.toInt = dpt f a k.toNatClampNeg) (hs : rg lo hi st) (h0 : hi ≤ 99) (h1 : ¬ st = 18) (hr : rg 2 64 n) : (n + (-1)).toInt = dpt f a (k + 1).toNatClampNeg := by
  rw [fa_eq, show (18 : Int32).toInt = 18 from by decide] at h1
  rw [lw_k hk, dpt, ← lw_ix hA ha hk, ← e, ← hn]
  unfold rg at *
  rw [if_neg (by omega), if_neg (by omega), dec32 n (by omega)]
  omega
theorem lw_0 : (0 : Int32).toInt = dpt f a (0 : Int32).toNatClampNeg := by
  rw [show (0 : Int32).toNatClampNeg = 0 from by decide]
  rfl
end Lws
theorem lw_N5 {C L A B h : Int} {f : Nat → Int32} {n : Int32} (hk : KX C L A B h f) (e : n = f (5 : Int32).toNatClampNeg) : LW1 f 459 n.toInt := by
  rw [e, show (5 : Int32).toNatClampNeg = 5 from by decide]
  exact hk.2.1.2.1
theorem lw_N6 {C L A B h : Int} {f : Nat → Int32} {n : Int32} (hk : KX C L A B h f) (e : n = f (6 : Int32).toNatClampNeg) : LW1 f 1359 n.toInt := by
  rw [e, show (6 : Int32).toNatClampNeg = 6 from by decide]
  exact hk.2.1.2.2
/-! sets that grow -/
theorem or_ge (x y : Int32) : x.toBitVec.toNat ≤ (x ||| y).toBitVec.toNat := by
  have e : (x ||| y).toBitVec = x.toBitVec ||| y.toBitVec := rfl
  rw [e, BitVec.toNat_or]
  exact Nat.left_le_or
theorem fw_dec {t s u : Int32} (h : ¬ t = s) (h2 : s.toBitVec.toNat ≤ u.toBitVec.toNat) : (2 * (4294967296 - u.toBitVec.toNat) + (if s = u then 0 else 1)) < (2 * (4294967296 - s.toBitVec.toNat) + (if t = s then 0 else 1)) := by
  rw [if_neg h]
  have h3 := u.toBitVec.isLt
  by_cases e : s = u
  · subst e; rw [if_pos rfl]; omega
  · rw [if_neg e]
    have h4 : s.toBitVec.toNat ≠ u.toBitVec.toNat := fun q => e (Int32.toBitVec_inj.mp (BitVec.eq_of_toNat_eq q))
    omega
theorem sub64 (x y : Int64) (h1 : -9223372036854775808 ≤ x.toInt - y.toInt) (h2 : x.toInt - y.toInt < 9223372036854775808) : (x - y).toInt = x.toInt - y.toInt := by
  rw [Int64.toInt_sub]
  first | (rw [Int.bmod_eq_of_le (by omega) (by omega)]) | (unfold Int.bmod; omega)
theorem rl_sb {a b c d n e g : Int} {x k : Int64} (h : rl a b (x - k)) (hx : rl c d x) (hk : k.toInt = n) (h1 : -9223372036854775808 ≤ c - n) (h2 : d - n < 9223372036854775808) (h3 : e ≤ a + n) (h4 : b + n ≤ g) : rl e g x := by
  unfold rl at *
  rw [sub64 x k (by omega) (by omega)] at h
  omega
