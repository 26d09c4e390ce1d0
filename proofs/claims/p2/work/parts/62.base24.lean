/-! copies of states -/
theorem kb_u {A B h : Int} {n k : Nat} {v : Int32} (hn : n ≤ 9) (hk : k < 37) : kb A B h (89 + 37 * n + k) v ↔ kb 0 h h (8 + k) v := by
  have e : (89 + 37 * n + k - 89) % 37 = k := by
    rw [show 89 + 37 * n + k - 89 = 37 * n + k by omega, Nat.mul_add_mod, Nat.mod_eq_of_lt hk]
  unfold kb
  rw [if_neg (by omega : ¬ 89 + 37 * n + k < 8), if_neg (by omega : ¬ 89 + 37 * n + k < 16), if_neg (by omega : ¬ 89 + 37 * n + k < 40), if_neg (by omega : ¬ 89 + 37 * n + k < 41), if_neg (by omega : ¬ 89 + 37 * n + k < 45), if_neg (by omega : ¬ 89 + 37 * n + k < 53), if_neg (by omega : ¬ 89 + 37 * n + k < 57), if_neg (by omega : ¬ 89 + 37 * n + k < 89), if_pos (by omega : 89 + 37 * n + k < 459), e, if_neg (by omega : ¬ 8 + k < 8)]
  by_cases h1 : k < 8
  · rw [if_pos h1, if_pos (by omega : 8 + k < 16)]
  · rw [if_neg h1, if_neg (by omega : ¬ 8 + k < 16)]
    by_cases h2 : k = 32
    · subst h2; rfl
    · rw [if_neg h2]
      by_cases h3 : k < 32
      · rw [if_pos (by omega : 8 + k < 40)]
      · rw [if_neg (by omega : ¬ 8 + k < 40), if_neg (by omega : ¬ 8 + k < 41), if_pos (by omega : 8 + k < 45)]
theorem cp_SP {f : Nat → Int32} {s d k : Nat} (hs : SP f) (hd : (8 ≤ d ∧ d + k ≤ 45) ∨ (89 ≤ d ∧ d + k ≤ 459)) : SP (cp f f s d k) := SP_cg (fun j hj => cp_out (by unfold Dy at hj; omega)) hs
theorem KX_sh {C L A B h : Int} {f : Nat → Int32} (hk : KX C L A B h f) : KX C L A B h (cp f f 126 89 333) := by
  refine ⟨fun j hj => ?_, cp_SP hk.2.1 (by omega), ⟨RS_cg (fun j hj => cp_out (by omega)) hk.2.2.1.1, fun n hn => ?_⟩, by rw [cp_out (by omega)]; exact hk.2.2.2.1, by rw [cp_out (by omega)]; exact hk.2.2.2.2⟩
  · by_cases q : 89 ≤ j ∧ j < 422
    · have hd := Nat.div_add_mod (j - 89) 37
      have hm := Nat.mod_lt (j - 89) (show 0 < 37 by decide)
      generalize (j - 89) / 37 = n at hd
      generalize (j - 89) % 37 = r at hd hm
      obtain rfl : j = 89 + 37 * n + r := by omega
      rw [show 89 + 37 * n + r = 89 + (37 * n + r) by omega, cp_in (by omega), show 126 + (37 * n + r) = 89 + 37 * (n + 1) + r by omega, show 89 + (37 * n + r) = 89 + 37 * n + r by omega]
      exact (kb_u (by omega) hm).mpr ((kb_u (by omega) hm).mp (hk.1 (89 + 37 * (n + 1) + r) (by omega)))
    · rw [cp_out (by omega)]; exact hk.1 j hj
  · by_cases q : n < 9
    · refine RS_cg (g := fun j => f (89 + 37 * (n + 1) + j)) (fun j hj => ?_) (hk.2.2.1.2 (n + 1) (by omega))
      show cp f f 126 89 333 (89 + 37 * n + j) = f (89 + 37 * (n + 1) + j)
      rw [show 89 + 37 * n + j = 89 + (37 * n + j) by omega, cp_in (by omega), show 126 + (37 * n + j) = 89 + 37 * (n + 1) + j by omega]
    · exact RS_cg (fun j hj => cp_out (by omega)) (hk.2.2.1.2 n hn)
theorem KX_cu {C L A B h : Int} {f : Nat → Int32} {N : Nat} (hk : KX C L A B h f) (hN : N ≤ 9) (hA : 0 ≤ A) (hB : B ≤ h) : KX C L A B h (cp f f 8 (89 + 37 * N) 37) := by
  refine ⟨fun j hj => ?_, cp_SP hk.2.1 (by omega), ⟨RS_cg (fun j hj => cp_out (by omega)) hk.2.2.1.1, fun n hn => ?_⟩, by rw [cp_out (by omega)]; exact hk.2.2.2.1, by rw [cp_out (by omega)]; exact hk.2.2.2.2⟩
  · by_cases q : 89 + 37 * N ≤ j ∧ j < 89 + 37 * N + 37
    · obtain ⟨k, rfl⟩ : ∃ k, j = 89 + 37 * N + k := ⟨j - (89 + 37 * N), by omega⟩
      rw [cp_in (by omega)]
      exact (kb_u hN (by omega)).mpr (kb_mono hA hB (Int.le_refl _) (hk.1 (8 + k) (by omega)))
    · rw [cp_out (by omega)]; exact hk.1 j hj
  · by_cases q : n = N
    · subst q
      exact RS_cg (g := fun j => f (8 + j)) (fun j hj => cp_in (by omega)) hk.2.2.1.1
    · refine RS_cg (fun j hj => cp_out ?_) (hk.2.2.1.2 n hn)
      omega
theorem KX_cb {C L A B h : Int} {f : Nat → Int32} {N : Nat} (hk : KX C L A B h f) (hN : N ≤ 9) : KX C L 0 h h (cp f f (89 + 37 * N) 8 37) := by
  refine ⟨fun j hj => ?_, cp_SP hk.2.1 (by omega), ⟨RS_cg (g := fun j => f (89 + 37 * N + j)) (fun j hj => cp_in (by omega)) (hk.2.2.1.2 N (by omega)), fun n hn => RS_cg (fun j hj => cp_out (by omega)) (hk.2.2.1.2 n hn)⟩, by rw [cp_out (by omega)]; exact hk.2.2.2.1, by rw [cp_out (by omega)]; exact hk.2.2.2.2⟩
  by_cases q : 8 ≤ j ∧ j < 45
  · obtain ⟨k, rfl⟩ : ∃ k, j = 8 + k := ⟨j - 8, by omega⟩
    rw [cp_in (by omega)]
    exact (kb_u hN (by omega)).mp (hk.1 (89 + 37 * N + k) (by omega))
  · rw [cp_out (by omega)]; exact kb_ab (by omega) (hk.1 j hj)
theorem cp_pb {f g a : Nat → Int32} (h1 : CP8 a g) (h2 : SU g f) : cp a f 0 8 37 = g := by
  funext j
  by_cases q : 8 ≤ j ∧ j < 45
  · obtain ⟨k, rfl⟩ : ∃ k, j = 8 + k := ⟨j - 8, by omega⟩
    rw [cp_in (by omega), show 0 + k = k by omega]
    exact h1 k (by omega)
  · rw [cp_out (by omega)]
    exact h2 j (by omega)
theorem cp_pa {f a : Nat → Int32} : CP8 (cp f a 8 0 37) f := fun j hj => by
  have := cp_in (f := f) (g := a) (s := 8) (d := 0) (k := 37) (j := j) hj
  rw [show 0 + j = j by omega] at this
  exact this
theorem kn {k : Int32} {a b : Int} (hk : rg a b k) (h0 : 0 ≤ a ∧ b ≤ 5000) : (k + 1).toNatClampNeg = k.toNatClampNeg + 1 := by
  unfold rg at hk
  unfold Int32.toNatClampNeg
  rw [inc32 k (by omega)]
  omega
theorem k0 : (0 : Int32).toNatClampNeg = 0 := by decide
section Cps
variable {f g a x : Nat → Int32} {k v w : Int32} {N : Nat}
theorem cl_8 (hk : rg 0 36 k) : (8 + k).toNatClampNeg = 8 + k.toNatClampNeg := cl_p (n := 8) (by decide) (by decide) hk (by decide)
theorem pa_0 : a = cp f a 8 0 (0 : Int32).toNatClampNeg := by rw [k0]; exact cp_0
theorem pa_s (hx : x = cp f a 8 0 k.toNatClampNeg) (hk : rg 0 36 k) (ew : w = f (8 + k).toNatClampNeg) : upd x k.toNatClampNeg w = cp f a 8 0 (k + 1).toNatClampNeg := by
  rw [cl_8 hk] at ew
  rw [kn hk (by decide), hx]
  have := cp_s (f := f) (g := a) (s := 8) (d := 0) (k := k.toNatClampNeg) ew
  rw [show 0 + k.toNatClampNeg = k.toNatClampNeg by omega] at this
  exact this
theorem k37 {lo hi : Int} (hk : rg lo hi k) (h1 : 37 ≤ lo) (h2 : hi ≤ 37) : k.toNatClampNeg = 37 := by
  unfold rg at hk
  unfold Int32.toNatClampNeg
  omega
theorem pa_e {lo hi : Int} (hx : x = cp f a 8 0 k.toNatClampNeg) (hk : rg lo hi k) (h1 : 37 ≤ lo) (h2 : hi ≤ 37) : CP8 x f := by
  rw [hx, k37 hk h1 h2]
  exact cp_pa
theorem pb_0 : f = cp a f 0 8 (0 : Int32).toNatClampNeg := by rw [k0]; exact cp_0
theorem pb_s (hx : x = cp a f 0 8 k.toNatClampNeg) (hk : rg 0 36 k) (ew : w = a k.toNatClampNeg) : upd x (8 + k).toNatClampNeg w = cp a f 0 8 (k + 1).toNatClampNeg := by
  rw [kn hk (by decide), hx, cl_8 hk]
  exact cp_s (by rw [show 0 + k.toNatClampNeg = k.toNatClampNeg by omega]; exact ew)
theorem pb_e {lo hi : Int} (hx : x = cp a f 0 8 k.toNatClampNeg) (hk : rg lo hi k) (h1 : 37 ≤ lo) (h2 : hi ≤ 37) (hc : CP8 a g) (hs : SU g f) : x = g := by
  rw [hx, k37 hk h1 h2]
  exact cp_pb hc hs
theorem cl_89 {n : Int32} (hn : rg 0 9 n) (hk : rg 0 36 k) : ((89 + (37 * n)) + k).toNatClampNeg = 89 + 37 * n.toNatClampNeg + k.toNatClampNeg := by
  have e : (89 : Int32).toInt = 89 := by decide
  have e2 : (37 : Int32).toInt = 37 := by decide
  unfold rg at hn hk
  have e3 : (37 * n).toInt = 37 * n.toInt := by rw [mul32 37 n (by rw [e2]; omega) (by rw [e2]; omega), e2]
  have e4 : (89 + (37 * n)).toInt = 89 + 37 * n.toInt := by rw [add32 _ _ (by rw [e, e3]; omega) (by rw [e, e3]; omega), e, e3]
  unfold Int32.toNatClampNeg
  rw [add32 _ _ (by rw [e4]; omega) (by rw [e4]; omega), e4]
  omega
theorem n9 {n : Int32} (hn : rg 0 9 n) : n.toNatClampNeg ≤ 9 := by
  unfold rg at hn
  unfold Int32.toNatClampNeg
  omega
theorem k36 (hk : rg 0 36 k) : k.toNatClampNeg ≤ 36 := by
  unfold rg at hk
  unfold Int32.toNatClampNeg
  omega
theorem p7 : (7 : Int32).toNatClampNeg = 7 := by decide
theorem ku_0 {n : Nat} : f = cp f f 8 n (0 : Int32).toNatClampNeg := by rw [k0]; exact cp_0
theorem ku_v (hx : x = cp f f 8 (89 + 37 * (f 7).toNatClampNeg) k.toNatClampNeg) (ev : v = x (7 : Int32).toNatClampNeg) : v = f 7 := by
  rw [ev, hx, p7, cp_out (by omega)]
theorem ku_s (hx : x = cp f f 8 (89 + 37 * (f 7).toNatClampNeg) k.toNatClampNeg) (hk : rg 0 36 k) (h7 : rg 0 9 (f 7)) (ev : v = x (7 : Int32).toNatClampNeg) (ew : w = x (8 + k).toNatClampNeg) : upd x ((89 + (37 * v)) + k).toNatClampNeg w = cp f f 8 (89 + 37 * (f 7).toNatClampNeg) (k + 1).toNatClampNeg := by
  have e1 := ku_v hx ev
  have h9 := n9 h7
  have h8 := k36 hk
  rw [cl_8 hk, hx, cp_out (by omega)] at ew
  rw [e1, cl_89 h7 hk, kn hk (by decide), hx]
  exact cp_s ew
theorem kv_0 {n : Nat} : f = cp f f n 8 (0 : Int32).toNatClampNeg := by rw [k0]; exact cp_0
theorem kv_v (hx : x = cp f f (89 + 37 * (f 7).toNatClampNeg) 8 k.toNatClampNeg) (ev : v = x (7 : Int32).toNatClampNeg) : v = f 7 := by
  rw [ev, hx, p7, cp_out (by omega)]
theorem kv_s (hx : x = cp f f (89 + 37 * (f 7).toNatClampNeg) 8 k.toNatClampNeg) (hk : rg 0 36 k) (h7 : rg 0 9 (f 7)) (ev : v = x (7 : Int32).toNatClampNeg) (ew : w = x ((89 + (37 * v)) + k).toNatClampNeg) : upd x (8 + k).toNatClampNeg w = cp f f (89 + 37 * (f 7).toNatClampNeg) 8 (k + 1).toNatClampNeg := by
  have e1 := kv_v hx ev
  have h9 := n9 h7
  have h8 := k36 hk
  rw [e1, cl_89 h7 hk, hx, cp_out (by omega)] at ew
  rw [cl_8 hk, kn hk (by decide), hx]
  exact cp_s ew
theorem ks_0 : f = cp f f 126 89 ((89 : Int32).toNatClampNeg - 89) := by
  rw [show (89 : Int32).toNatClampNeg - 89 = 0 from by decide]
  exact cp_0
theorem ks_s (hx : x = cp f f 126 89 (k.toNatClampNeg - 89)) (hk : rg 89 421 k) (ew : w = x (k + 37).toNatClampNeg) : upd x k.toNatClampNeg w = cp f f 126 89 ((k + 1).toNatClampNeg - 89) := by
  have h1 : 89 ≤ k.toNatClampNeg ∧ k.toNatClampNeg ≤ 421 := by
    unfold rg at hk
    unfold Int32.toNatClampNeg
    omega
  have e : (k + 37).toNatClampNeg = k.toNatClampNeg + 37 := by
    have e2 : (37 : Int32).toInt = 37 := by decide
    unfold rg at hk
    unfold Int32.toNatClampNeg
    rw [add32 _ _ (by rw [e2]; omega) (by rw [e2]; omega), e2]
    omega
  rw [e, hx, cp_out (by omega), show k.toNatClampNeg + 37 = 126 + (k.toNatClampNeg - 89) by omega] at ew
  rw [kn hk (by decide), hx]
  have := cp_s (f := f) (g := f) (s := 126) (d := 89) (k := k.toNatClampNeg - 89) ew
  rw [show 89 + (k.toNatClampNeg - 89) = k.toNatClampNeg by omega, show k.toNatClampNeg - 89 + 1 = k.toNatClampNeg + 1 - 89 by omega] at this
  exact this
theorem ks_e {C L A B h lo hi : Int} (hx : x = cp f f 126 89 (k.toNatClampNeg - 89)) (hk : rg lo hi k) (h1 : 422 ≤ lo) (h2 : hi ≤ 422) (hf : KX C L A B h f) : KX C L A B h x := by
  have e : k.toNatClampNeg - 89 = 333 := by
    unfold rg at hk
    unfold Int32.toNatClampNeg
    omega
  rw [hx, e]
  exact KX_sh hf
theorem ku_e {C L A B h lo hi : Int} (hx : x = cp f f 8 (89 + 37 * (f 7).toNatClampNeg) k.toNatClampNeg) (hk : rg lo hi k) (h1 : 37 ≤ lo) (h2 : hi ≤ 37) (h7 : rg 0 9 (f 7)) (hf : KX C L A B h f) (hA : 0 ≤ A) (hB : B ≤ h) : KX C L A B h x ∧ x 7 = f 7 := by
  rw [hx, k37 hk h1 h2]
  exact ⟨KX_cu hf (n9 h7) hA hB, cp_out (by omega)⟩
theorem kv_e {C L A B h lo hi : Int} (hx : x = cp f f (89 + 37 * (f 7).toNatClampNeg) 8 k.toNatClampNeg) (hk : rg lo hi k) (h1 : 37 ≤ lo) (h2 : hi ≤ 37) (h7 : rg 0 9 (f 7)) (hf : KX C L A B h f) : KX C L 0 h h x ∧ x 7 = f 7 := by
  rw [hx, k37 hk h1 h2]
  exact ⟨KX_cb hf (n9 h7), cp_out (by omega)⟩
end Cps
/-- what a deed kept leaves as it was -/
def KK (f g : Nat → Int32) : Prop := ∀ j : Nat, j < 7 ∨ (7 < j ∧ j < 89) → g j = f j
