/-! sets of columns, ways -/
def adj (u v : Nat) : Prop := u = v ∨ u + 1 = v ∨ v + 1 = u
theorem bN_and {x y : Int32} {k : Nat} : bN (x &&& y) k ↔ bN x k ∧ bN y k := by
  unfold bN
  rw [show (x &&& y).toBitVec = x.toBitVec &&& y.toBitVec from rfl, BitVec.getLsbD_and, Bool.and_eq_true]
theorem bN_sl {s : Int32} {k : Nat} (hk : k < 32) : bN (s <<< ((1 : Int32) &&& 31)) k ↔ 1 ≤ k ∧ bN s (k - 1) := by
  unfold bN
  rw [Int32.toBitVec_shiftLeft, BitVec.shiftLeft_eq', show (((1 : Int32) &&& 31).toBitVec.smod 32).toNat = 1 from by decide, BitVec.getLsbD_shiftLeft, decide_eq_true hk]
  by_cases q : k < 1
  · rw [decide_eq_true q]
    simp
    omega
  · rw [decide_eq_false q]
    simp
    omega
theorem bN_sr {s : Int32} {k : Nat} (hk : k < 31) : bN (s >>> ((1 : Int32) &&& 31)) k ↔ bN s (k + 1) := by
  unfold bN
  rw [Int32.toBitVec_shiftRight, BitVec.sshiftRight_eq', show (((1 : Int32) &&& 31).toBitVec.smod 32).toNat = 1 from by decide, BitVec.getLsbD_sshiftRight, if_pos (by omega), decide_eq_false (by omega : ¬ 32 ≤ k), Nat.add_comm 1 k]
  simp
def AC (C : Int) (r : Int32) : Prop := ∀ k : Nat, k < 8 → (bN r k ↔ (k : Int) < C)
theorem ix_6 {x : Int32} (h : rg 1 6 x) : x = 1 ∨ x = 2 ∨ x = 3 ∨ x = 4 ∨ x = 5 ∨ x = 6 := by
  rcases ix_8 (rg_w h (by decide) (by decide)) with rfl | rfl | rfl | rfl | rfl | rfl | rfl | rfl
  · exact absurd h.1 (by decide)
  · exact Or.inl rfl
  · exact Or.inr (Or.inl rfl)
  · exact Or.inr (Or.inr (Or.inl rfl))
  · exact Or.inr (Or.inr (Or.inr (Or.inl rfl)))
  · exact Or.inr (Or.inr (Or.inr (Or.inr (Or.inl rfl))))
  · exact Or.inr (Or.inr (Or.inr (Or.inr (Or.inr rfl))))
  · exact absurd h.2 (by decide)
theorem AC_of {C L A B h : Int} {f : Nat → Int32} {n : Int32} (hk : KX C L A B h f) (hn : rg 1 6 n) (e : n = f (1 : Int32).toNatClampNeg) : AC C ((1 <<< (n &&& 31)) - 1) := by
  have h3 := hk.2.2.2.1
  rw [show (1 : Int32).toNatClampNeg = 1 from by decide] at e
  rw [← e] at h3
  clear e hk
  intro k hk
  rw [← h3]
  unfold bN
  rcases ix_6 hn with rfl | rfl | rfl | rfl | rfl | rfl <;> (rcases (show k = 0 ∨ k = 1 ∨ k = 2 ∨ k = 3 ∨ k = 4 ∨ k = 5 ∨ k = 6 ∨ k = 7 by omega) with rfl | rfl | rfl | rfl | rfl | rfl | rfl | rfl <;> decide +kernel)
theorem KX_C {C L A B h : Int} {f : Nat → Int32} (hk : KX C L A B h f) : 1 ≤ C ∧ C ≤ 6 := by
  have h1 := (kb_1 (by decide) (by decide)).mp (hk.1 1 (by decide))
  have h2 := hk.2.2.2.1
  unfold rg at h1
  omega
def BS (C : Int) (s r : Int32) : Prop := ∀ k : Nat, k < 8 → (bN r k ↔ (k : Int) < C ∧ ∃ v : Nat, v < 8 ∧ adj k v ∧ bN s v)
theorem BS_of {C L A B h : Int} {f : Nat → Int32} {s a : Int32} (hk : KX C L A B h f) (ha : AC C a) : BS C s (((s ||| (s <<< ((1 : Int32) &&& 31))) ||| (s >>> ((1 : Int32) &&& 31))) &&& a) := fun k hk8 => by
  have hC := KX_C hk
  rw [bN_and, bN_or, bN_or, bN_sl (by omega), bN_sr (by omega), ha k hk8]
  constructor
  · rintro ⟨(h1 | h1) | h1, h2⟩
    · exact ⟨h2, k, hk8, Or.inl rfl, h1⟩
    · exact ⟨h2, k - 1, by omega, Or.inr (Or.inr (by omega)), h1.2⟩
    · exact ⟨h2, k + 1, by omega, Or.inr (Or.inl rfl), h1⟩
  · rintro ⟨h2, v, hv, h1 | h1 | h1, h3⟩
    · subst h1; exact ⟨Or.inl (Or.inl h3), h2⟩
    · subst h1; exact ⟨Or.inr h3, h2⟩
    · subst h1; exact ⟨Or.inl (Or.inr ⟨by omega, by rw [show v + 1 - 1 = v by omega]; exact h3⟩), h2⟩
def CM (C : Int) (a : Nat) (g : Nat → Int32) (n : Int) : Prop := (∀ u : Nat, u < 8 → (bN (g 0) u ↔ u = a)) ∧ ∀ k : Nat, 1 ≤ k → (k : Int) < n → ∀ u : Nat, u < 8 → bN (g k) u → (u : Int) < C ∧ ∃ v : Nat, v < 8 ∧ adj u v ∧ bN (g (k - 1)) v
theorem CM_0 {C : Int} {g : Nat → Int32} {a : Int32} (ha : rg 0 7 a) : CM C a.toNatClampNeg (upd g (0 : Int32).toNatClampNeg (1 <<< (a &&& 31))) (1 : Int32).toInt := by
  refine ⟨fun u hu => ?_, fun k h1 h2 => ?_⟩
  · rw [k0, pk_us]; exact bN_1 ha hu
  · rw [show (1 : Int32).toInt = 1 from by decide] at h2
    omega
theorem CM_s {C : Int} {a : Nat} {g : Nat → Int32} {k w r y : Int32} (h : CM C a g k.toInt) (hk : rg 1 60 k) (ew : w = g (k - 1).toNatClampNeg) (hb : BS C w r) : CM C a (upd g k.toNatClampNeg (r &&& y)) (k + 1).toInt := by
  have h1 : 1 ≤ k.toNatClampNeg ∧ k.toNatClampNeg ≤ 60 ∧ (k.toNatClampNeg : Int) = k.toInt := by
    unfold rg at hk
    unfold Int32.toNatClampNeg
    omega
  have e1 : (k - 1).toNatClampNeg = k.toNatClampNeg - 1 := by
    have e : (1 : Int32).toInt = 1 := by decide
    unfold rg at hk
    unfold Int32.toNatClampNeg
    rw [sub32 k 1 (by rw [e]; omega) (by rw [e]; omega), e]
    omega
  rw [e1] at ew
  refine ⟨fun u hu => by rw [pk_un (by omega)]; exact h.1 u hu, fun j h2 h3 u hu h4 => ?_⟩
  rw [inc32 k (by unfold rg at hk; omega)] at h3
  by_cases e : j = k.toNatClampNeg
  · subst e
    rw [pk_us] at h4
    rw [pk_un (by omega), ← ew]
    exact (hb u hu).mp (bN_and.mp h4).1
  · rw [pk_un e] at h4
    rw [pk_un (by omega)]
    exact h.2 j h2 (by omega) u hu h4
theorem CM_e {C : Int} {a : Nat} {g : Nat → Int32} {k : Int32} {lo hi : Int} (h : CM C a g k.toInt) (hk : rg lo hi k) (h1 : 61 ≤ lo) : CM C a g 61 := ⟨h.1, fun j h2 h3 => h.2 j h2 (by unfold rg at hk; omega)⟩
def GO (C : Int) (g h : Nat → Int32) (k n : Int) : Prop := ∀ j : Nat, k < (j : Int) → (j : Int) ≤ n → (∃ u : Nat, u < 8 ∧ bN (h j) u) ∧ (∀ u : Nat, u < 8 → bN (h j) u → bN (g j) u) ∧ ((j : Int) < n → ∀ u : Nat, u < 8 → bN (h j) u → ∃ v : Nat, v < 8 ∧ adj u v ∧ bN (h (j + 1)) v)
theorem nn60 {n : Int32} (hn : rg 0 60 n) : (n.toNatClampNeg : Int) = n.toInt ∧ n.toNatClampNeg ≤ 60 := by
  unfold rg at hn
  unfold Int32.toNatClampNeg
  omega
theorem GO_0 {C : Int} {g h : Nat → Int32} {n b : Int32} (hn : rg 0 60 n) (hb : rg 0 7 b) (hg : bN (g n.toNatClampNeg) b.toNatClampNeg) : GO C g (upd h n.toNatClampNeg (1 <<< (b &&& 31))) (n - 1).toInt n.toInt := fun j h1 h2 => by
  have e1 := nn60 hn
  have e : (1 : Int32).toInt = 1 := by decide
  rw [sub32 n 1 (by unfold rg at hn; rw [e]; omega) (by unfold rg at hn; rw [e]; omega), e] at h1
  obtain rfl : j = n.toNatClampNeg := by omega
  rw [pk_us]
  refine ⟨⟨b.toNatClampNeg, lt7 hb, (bN_1 hb (lt7 hb)).mpr rfl⟩, fun u hu q => ?_, fun q => ?_⟩
  · rw [(bN_1 hb hu).mp q]; exact hg
  · omega
theorem GO_s {C : Int} {a : Nat} {g h : Nat → Int32} {k n w c r : Int32} (hC : CM C a g 61) (ha : (a : Int) < C) (hC6 : C ≤ 6) (hg : GO C g h k.toInt n.toInt) (hk : rg 0 59 k) (hn : rg 0 60 n) (hkn : k.toInt < n.toInt) (ew : w = h (k + 1).toNatClampNeg) (ec : c = g k.toNatClampNeg) (hb : BS C w r) : GO C g (upd h k.toNatClampNeg (r &&& c)) (k + (-1)).toInt n.toInt := fun j h1 h2 => by
  have e1 := nn60 (rg_w hk (by decide) (by decide))
  have e2 := nn60 hn
  rw [kn hk (by decide)] at ew
  rw [dec32 k (by unfold rg at hk; omega)] at h1
  by_cases e : j = k.toNatClampNeg
  · subst e
    rw [pk_us, pk_un (by omega), ← ew]
    have hj := hg (k.toNatClampNeg + 1) (by omega) (by omega)
    rw [← ew] at hj
    refine ⟨?_, fun u hu q => by rw [← ec]; exact (bN_and.mp q).2, fun _ u hu q => ((hb u hu).mp (bN_and.mp q).1).2⟩
    obtain ⟨v, hv, q1⟩ := hj.1
    have q2 := hj.2.1 v hv q1
    obtain ⟨q3, u, hu, q4, q5⟩ := hC.2 (k.toNatClampNeg + 1) (by omega) (by omega) v hv q2
    rw [show k.toNatClampNeg + 1 - 1 = k.toNatClampNeg by omega] at q5
    have hu2 : (u : Int) < C := by
      by_cases z : k.toNatClampNeg = 0
      · rw [z] at q5
        rw [(hC.1 u hu).mp q5]
        exact ha
      · exact (hC.2 k.toNatClampNeg (by omega) (by omega) u hu q5).1
    refine ⟨u, hu, bN_and.mpr ⟨(hb u hu).mpr ⟨hu2, v, hv, ?_, q1⟩, by rw [ec]; exact q5⟩⟩
    unfold adj at q4 ⊢
    omega
  · have hj := hg j (by omega) h2
    rw [pk_un e, pk_un (by omega)]
    exact hj
/-- one may go on there -/
def ME (m : Int32) (k : Int32) : Prop := ∃ v : Nat, v < 8 ∧ bN m v ∧ k.toInt ≤ (v : Int)
theorem ME_r {m k : Int32} {lo hi : Int} (h : ME m k) (hk : rg lo hi k) (h0 : 0 ≤ lo) : rg 0 7 k := by
  obtain ⟨v, h1, h2, h3⟩ := h
  unfold rg at *
  omega
theorem ME_s {m k : Int32} (h : ME m k) (hk : rg 0 7 k) (hb : ¬ bN m k.toNatClampNeg) : ME m (k + 1) := by
  obtain ⟨v, h1, h2, h3⟩ := h
  have e := tn hk
  have d : v ≠ k.toNatClampNeg := fun q => hb (q ▸ h2)
  refine ⟨v, h1, h2, ?_⟩
  rw [inc32 k (by unfold rg at hk; omega)]
  omega
theorem ME_0 {a : Int32} (ha : rg 0 7 a) : ME (1 <<< (a &&& 31)) 0 := ⟨a.toNatClampNeg, lt7 ha, (bN_1 ha (lt7 ha)).mpr rfl, by rw [t0]; omega⟩
/-- where the way stands -/
def AT (h : Nat → Int32) (k a : Int32) : Prop := rg 0 7 a ∧ (1 ≤ k.toInt → bN (h (k.toNatClampNeg - 1)) a.toNatClampNeg)
theorem AT_0 {h : Nat → Int32} {a : Int32} (ha : rg 0 7 a) : AT h 0 a := ⟨ha, fun q => by rw [t0] at q; omega⟩
theorem ME_k {C : Int} {a0 : Nat} {g h : Nat → Int32} {k n a b c r : Int32} (hC : CM C a0 g 61) (ha0 : (a0 : Int) < C) (hg : GO C g h (b).toInt n.toInt) (hb0 : b.toInt < 0) (hk : rg 1 60 k) (hn : rg 0 60 n) (hkn : k.toInt ≤ n.toInt) (hat : AT h k a) (hb : BS C (1 <<< (a &&& 31)) r) (ec : c = h k.toNatClampNeg) : ME (r &&& c) 0 := by
  have e1 := nn60 (rg_w hk (by decide) (by decide))
  have e2 := nn60 hn
  unfold rg at hk
  have q1 := hat.2 (by omega)
  obtain ⟨v, hv, q2, q3⟩ := (hg (k.toNatClampNeg - 1) (by omega) (by omega)).2.2 (by omega) _ (lt7 hat.1) q1
  rw [show k.toNatClampNeg - 1 + 1 = k.toNatClampNeg by omega] at q3
  have q4 := (hg k.toNatClampNeg (by omega) (by omega)).2.1 v hv q3
  have q5 := (hC.2 k.toNatClampNeg (by omega) (by omega) v hv q4).1
  refine ⟨v, hv, bN_and.mpr ⟨(hb v hv).mpr ⟨q5, a.toNatClampNeg, lt7 hat.1, ?_, (bN_1 hat.1 (lt7 hat.1)).mpr rfl⟩, by rw [ec]; exact q3⟩, by rw [t0]; omega⟩
  unfold adj at q2 ⊢
  omega
theorem AT_1 {C : Int} {g h : Nat → Int32} {k n a b f0 : Int32} (hC : CM C f0.toNatClampNeg g 61) (hf : rg 0 7 f0) (hg : GO C g h b.toInt n.toInt) (hb0 : b.toInt < 0) (hn : rg 0 60 n) (hk : rg 0 0 k) (ha : rg 0 7 a) (hb : bN (1 <<< (f0 &&& 31)) a.toNatClampNeg) : AT h (k + 1) a := by
  have e2 := nn60 hn
  have hk2 : k = 0 := by
    unfold rg at hk
    rw [fa_eq, t0]
    omega
  subst hk2
  have q0 := (bN_1 hf (lt7 ha)).mp hb
  obtain ⟨⟨u, hu, q1⟩, q2, _⟩ := hg 0 (by omega) (by unfold rg at hn; omega)
  have q3 := (hC.1 u hu).mp (q2 u hu q1)
  refine ⟨ha, fun _ => ?_⟩
  rw [show ((0 : Int32) + 1).toNatClampNeg - 1 = 0 from by decide, q0, ← q3]
  exact q1
theorem AT_k {h : Nat → Int32} {k a r c : Int32} (hk : rg 1 60 k) (ha : rg 0 7 a) (ec : c = h k.toNatClampNeg) (hb : bN (r &&& c) a.toNatClampNeg) : AT h (k + 1) a := by
  refine ⟨ha, fun _ => ?_⟩
  rw [kn (rg_w hk (by decide) (by decide)) (by decide : (0 : Int) ≤ 0 ∧ (60 : Int) ≤ 5000), show k.toNatClampNeg + 1 - 1 = k.toNatClampNeg by omega, ← ec]
  exact (bN_and.mp hb).2
theorem cN {C : Int} {c : Int32} (h : rg 0 (C - 1) c) : (c.toNatClampNeg : Int) < C := by
  unfold rg at h
  unfold Int32.toNatClampNeg
  omega
theorem sb1 {n : Int32} (hn : rg 0 60 n) : (n - 1).toInt < n.toInt := by
  have e : (1 : Int32).toInt = 1 := by decide
  unfold rg at hn
  rw [sub32 n 1 (by rw [e]; omega) (by rw [e]; omega), e]
  omega
theorem sb2 {k n : Int32} (h : k.toInt < n.toInt) (hk : rg 0 59 k) : (k + (-1)).toInt < n.toInt := by
  unfold rg at hk
  rw [dec32 k (by omega)]
  omega
