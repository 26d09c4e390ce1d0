/-! bits of a set -/
def bN (s : Int32) (k : Nat) : Prop := s.toBitVec.getLsbD k = true
theorem bN_or {x y : Int32} {k : Nat} : bN (x ||| y) k ↔ bN x k ∨ bN y k := by
  unfold bN
  rw [show (x ||| y).toBitVec = x.toBitVec ||| y.toBitVec from rfl, BitVec.getLsbD_or, Bool.or_eq_true]
theorem bN_not {x y : Int32} {k : Nat} (hk : k < 32) : bN (x &&& (y ^^^ (-1))) k ↔ bN x k ∧ ¬ bN y k := by
  unfold bN
  have e : (-1 : Int32).toBitVec = BitVec.allOnes 32 := by decide
  rw [show (x &&& (y ^^^ (-1))).toBitVec = x.toBitVec &&& (y.toBitVec ^^^ (-1 : Int32).toBitVec) from rfl, BitVec.getLsbD_and, BitVec.getLsbD_xor, e, BitVec.getLsbD_allOnes, decide_eq_true hk]
  cases x.toBitVec.getLsbD k <;> cases y.toBitVec.getLsbD k <;> decide
theorem bN_0 {k : Nat} : ¬ bN 0 k := by
  unfold bN
  rw [show (0 : Int32).toBitVec = 0#32 from rfl, BitVec.getLsbD_zero]
  decide
theorem ix_8 {x : Int32} (h : rg 0 7 x) : x = 0 ∨ x = 1 ∨ x = 2 ∨ x = 3 ∨ x = 4 ∨ x = 5 ∨ x = 6 ∨ x = 7 := by
  obtain ⟨j, hj, rfl⟩ := vp_in_of (rg_in (n := 8) h (by decide) (by decide)) (by decide)
  rcases (show j = 0 ∨ j = 1 ∨ j = 2 ∨ j = 3 ∨ j = 4 ∨ j = 5 ∨ j = 6 ∨ j = 7 by omega) with rfl | rfl | rfl | rfl | rfl | rfl | rfl | rfl <;> decide
theorem bN_1 {t : Int32} {k : Nat} (ht : rg 0 7 t) (hk : k < 8) : bN (1 <<< (t &&& 31)) k ↔ k = t.toNatClampNeg := by
  unfold bN
  rcases ix_8 ht with rfl | rfl | rfl | rfl | rfl | rfl | rfl | rfl <;> (rcases (show k = 0 ∨ k = 1 ∨ k = 2 ∨ k = 3 ∨ k = 4 ∨ k = 5 ∨ k = 6 ∨ k = 7 by omega) with rfl | rfl | rfl | rfl | rfl | rfl | rfl | rfl <;> decide +kernel)
theorem and1 {x : Int32} : x &&& 1 = 1 ↔ x.toBitVec.getLsbD 0 = true := by
  rw [← Int32.toBitVec_inj]
  show x.toBitVec &&& 1#32 = 1#32 ↔ _
  rw [BitVec.and_one_eq_setWidth_ofBool_getLsbD]
  cases x.toBitVec.getLsbD 0 <;> decide
theorem sr_0 {s : Int32} {k : Int32} {n : Nat} (e : ((k &&& 31).toBitVec.smod 32).toNat = n) (hn : n < 32) : (s >>> (k &&& 31)).toBitVec.getLsbD 0 = s.toBitVec.getLsbD n := by
  rw [Int32.toBitVec_shiftRight, BitVec.sshiftRight_eq', e, BitVec.getLsbD_sshiftRight]
  simp [hn]
theorem bt_iff {s k : Int32} (hk : rg 0 7 k) : ((s >>> (k &&& 31)) &&& 1 = 1) ↔ bN s k.toNatClampNeg := by
  rw [and1]
  unfold bN
  rcases ix_8 hk with rfl | rfl | rfl | rfl | rfl | rfl | rfl | rfl
  · rw [sr_0 (n := 0) (by decide) (by decide)]; rfl
  · rw [sr_0 (n := 1) (by decide) (by decide)]; rfl
  · rw [sr_0 (n := 2) (by decide) (by decide)]; rfl
  · rw [sr_0 (n := 3) (by decide) (by decide)]; rfl
  · rw [sr_0 (n := 4) (by decide) (by decide)]; rfl
  · rw [sr_0 (n := 5) (by decide) (by decide)]; rfl
  · rw [sr_0 (n := 6) (by decide) (by decide)]; rfl
  · rw [sr_0 (n := 7) (by decide) (by decide)]; rfl
/-! what a fall leaves as it was -/
def SU (f g : Nat → Int32) : Prop := ∀ j : Nat, j < 8 ∨ 44 < j → g j = f j
def DN (f g : Nat → Int32) : Prop := SU f g ∧ ∀ t : Nat, t < 8 → (f (8 + t) ≠ 1 → g (8 + t) = f (8 + t) ∧ g (32 + t) = f (32 + t)) ∧ (g (8 + t) = 1 → f (8 + t) = 1 ∧ g (16 + t) = f (16 + t) ∧ g (24 + t) = f (24 + t) ∧ g (32 + t) = f (32 + t))
theorem SU_rf {f : Nat → Int32} : SU f f := fun _ _ => rfl
theorem SU_tr {f g k : Nat → Int32} (h1 : SU f g) (h2 : SU g k) : SU f k := fun j hj => (h2 j hj).trans (h1 j hj)
theorem DN_rf {f : Nat → Int32} : DN f f := ⟨SU_rf, fun _ _ => ⟨fun _ => ⟨rfl, rfl⟩, fun q => ⟨q, rfl, rfl, rfl⟩⟩⟩
theorem DN_tr {f g k : Nat → Int32} (h1 : DN f g) (h2 : DN g k) : DN f k := ⟨SU_tr h1.1 h2.1, fun t ht => ⟨fun q => by
    obtain ⟨a, b⟩ := (h1.2 t ht).1 q
    obtain ⟨c, d⟩ := (h2.2 t ht).1 (by rw [a]; exact q)
    exact ⟨c.trans a, d.trans b⟩, fun q => by
    obtain ⟨a1, a2, a3, a4⟩ := (h2.2 t ht).2 q
    obtain ⟨b1, b2, b3, b4⟩ := (h1.2 t ht).2 a1
    exact ⟨b1, a2.trans b2, a3.trans b3, a4.trans b4⟩⟩⟩
theorem DN_up {f g : Nat → Int32} {i : Nat} {v : Int32} (h : DN f g) (hi : 40 ≤ i ∧ i ≤ 44) : DN f (upd g i v) := ⟨fun j hj => by
    rw [pk_un (by omega)]
    exact h.1 j hj, fun t ht => by
    rw [pk_un (by omega), pk_un (by omega), pk_un (by omega), pk_un (by omega)]
    exact h.2 t ht⟩
theorem DN_40 {f : Nat → Int32} {v : Int32} : DN f (upd f (40 : Int32).toNatClampNeg v) := DN_up DN_rf (by rw [p40]; decide)
/-! what drops -/
def DI (f0 : Nat → Int32) (s0 : Int32) (f : Nat → Int32) (s l t : Int32) : Prop := DN f0 f ∧ f 40 = f0 40 ∧ ∀ u : Nat, u < 8 → bN s0 u → f (8 + u) = 1 → bN s u ∧ ((u : Int) < (f0 3).toInt → l.toInt ≤ (f0 (24 + u)).toInt ∧ ((f0 (24 + u)).toInt = l.toInt → t.toInt ≤ (u : Int)))
def DR (f0 f : Nat → Int32) (s : Int32) : Prop := DN f0 f ∧ f 40 = f0 40 ∧ ∀ u : Nat, u < 8 → bN s u → (u : Int) < (f0 3).toInt → f (8 + u) ≠ 1
def sub8 (s r : Int32) : Prop := ∀ u : Nat, u < 8 → bN s u → bN r u
theorem sub8_rf {s : Int32} : sub8 s s := fun _ _ q => q
theorem sub8_or {s r y : Int32} (h : sub8 s r) : sub8 s (r ||| y) := fun u hu q => bN_or.mpr (Or.inl (h u hu q))
theorem t0 : (0 : Int32).toInt = 0 := by decide
theorem tn {t : Int32} (ht : rg 0 7 t) : (t.toNatClampNeg : Int) = t.toInt := by
  unfold rg at ht
  unfold Int32.toNatClampNeg
  omega
theorem DI_0 {C L A B h : Int} {f0 : Nat → Int32} {s0 : Int32} (hk : KX C L A B h f0) : DI f0 s0 f0 s0 0 0 := ⟨DN_rf, rfl, fun u hu hb h1 => ⟨hb, fun _ => by
  have h2 := ((KX_rs hk hu).1 h1).2.1
  unfold rg at h2
  rw [t0]
  omega⟩⟩
theorem DI_a {f0 f : Nat → Int32} {s0 s l t : Int32} (h : DI f0 s0 f s l t) (ht : rg 0 7 t) (hb : ¬ bN s t.toNatClampNeg) : DI f0 s0 f s l (t + 1) := ⟨h.1, h.2.1, fun u hu h1 h2 => by
  obtain ⟨a, b⟩ := h.2.2 u hu h1 h2
  refine ⟨a, fun q => ⟨(b q).1, fun q2 => ?_⟩⟩
  have c := (b q).2 q2
  have d : u ≠ t.toNatClampNeg := fun e => hb (e ▸ a)
  have e := tn ht
  rw [inc32 t (by unfold rg at ht; omega)]
  omega⟩
theorem DI_b {f0 f : Nat → Int32} {s0 s l t : Int32} (h : DI f0 s0 f s l t) (ht : rg 0 7 t) (hn : ¬ f (8 + t).toNatClampNeg = 1) : DI f0 s0 f s l (t + 1) := ⟨h.1, h.2.1, fun u hu h1 h2 => by
  obtain ⟨a, b⟩ := h.2.2 u hu h1 h2
  refine ⟨a, fun q => ⟨(b q).1, fun q2 => ?_⟩⟩
  have c := (b q).2 q2
  rw [p8 ht] at hn
  have d : u ≠ t.toNatClampNeg := fun e => hn (e ▸ h2)
  have e := tn ht
  rw [inc32 t (by unfold rg at ht; omega)]
  omega⟩
theorem DI_c {f0 f : Nat → Int32} {s0 s l t n : Int32} (h : DI f0 s0 f s l t) (ht : rg 0 7 t) (e : n = f (24 + t).toNatClampNeg) (hn : ¬ n = l) : DI f0 s0 f s l (t + 1) := ⟨h.1, h.2.1, fun u hu h1 h2 => by
  obtain ⟨a, b⟩ := h.2.2 u hu h1 h2
  refine ⟨a, fun q => ⟨(b q).1, fun q2 => ?_⟩⟩
  have c := (b q).2 q2
  rw [p24 ht] at e
  have d : u ≠ t.toNatClampNeg := fun e9 => hn (by
    subst e9
    rw [fa_eq, e, ((h.1.2 _ hu).2 h2).2.2.1]
    exact q2)
  have e := tn ht
  rw [inc32 t (by unfold rg at ht; omega)]
  omega⟩
theorem DI_d {f0 f : Nat → Int32} {s0 s l t v : Int32} (h : DI f0 s0 f s l t) (ht : rg 0 7 t) (h1 : f (8 + t).toNatClampNeg = 1) : DI f0 s0 (upd (upd (upd f (8 + t).toNatClampNeg 2) (24 + t).toNatClampNeg v) (32 + t).toNatClampNeg 0) (s &&& ((1 <<< (t &&& 31)) ^^^ (-1))) l (t + 1) := by
  have hu := lt7 ht
  rw [p8 ht] at h1
  rw [p8 ht, p24 ht, p32 ht]
  have hs : ∀ j : Nat, j ≠ 8 + t.toNatClampNeg → j ≠ 24 + t.toNatClampNeg → j ≠ 32 + t.toNatClampNeg → (upd (upd (upd f (8 + t.toNatClampNeg) 2) (24 + t.toNatClampNeg) v) (32 + t.toNatClampNeg) 0) j = f j := fun j a b c => by rw [pk_un c, pk_un b, pk_un a]
  have h8 : (upd (upd (upd f (8 + t.toNatClampNeg) 2) (24 + t.toNatClampNeg) v) (32 + t.toNatClampNeg) 0) (8 + t.toNatClampNeg) = 2 := by rw [pk_un (by omega), pk_un (by omega), pk_us]
  refine ⟨⟨fun j hj => by rw [hs j (by omega) (by omega) (by omega)]; exact h.1.1 j hj, fun u hu2 => ?_⟩, by rw [hs 40 (by omega) (by omega) (by omega)]; exact h.2.1, fun u hu2 q1 q2 => ?_⟩
  · by_cases e : u = t.toNatClampNeg
    · subst e
      refine ⟨fun q => absurd ((h.1.2 _ hu).2 h1).1 q, fun q => ?_⟩
      rw [h8] at q
      exact absurd q (by decide)
    · rw [hs (8 + u) (by omega) (by omega) (by omega), hs (16 + u) (by omega) (by omega) (by omega), hs (24 + u) (by omega) (by omega) (by omega), hs (32 + u) (by omega) (by omega) (by omega)]
      exact h.1.2 u hu2
  · by_cases e : u = t.toNatClampNeg
    · subst e
      rw [h8] at q2
      exact absurd q2 (by decide)
    · rw [hs (8 + u) (by omega) (by omega) (by omega)] at q2
      obtain ⟨a, b⟩ := h.2.2 u hu2 q1 q2
      refine ⟨(bN_not (by omega)).mpr ⟨a, fun q => e ((bN_1 ht hu2).mp q)⟩, fun q => ⟨(b q).1, fun q3 => ?_⟩⟩
      have c := (b q).2 q3
      have d := tn ht
      rw [inc32 t (by unfold rg at ht; omega)]
      omega
theorem DI_e {f0 f : Nat → Int32} {s0 s l t n : Int32} {a b : Int} (h : DI f0 s0 f s l t) (hl : rg a b l) (hb : b ≤ 1000) (e : n = f (3 : Int32).toNatClampNeg) (hn : n ≤ t) : DI f0 s0 f s (l + 1) 0 := ⟨h.1, h.2.1, fun u hu h1 h2 => by
  obtain ⟨c, d⟩ := h.2.2 u hu h1 h2
  rw [p3, h.1.1 3 (by omega)] at e
  rw [fa_le, e] at hn
  refine ⟨c, fun q => ?_⟩
  obtain ⟨d1, d2⟩ := d q
  rw [inc32 l (by unfold rg at hl; omega), t0]
  constructor
  · by_cases q2 : (f0 (24 + u)).toInt = l.toInt
    · have := d2 q2
      omega
    · omega
  · intro _
    omega⟩
theorem DI_f {C L A B h : Int} {f0 f : Nat → Int32} {s0 s l t n so : Int32} (hd : DI f0 s0 f s l t) (hk : KX C L A B h f0) (e : n = f (2 : Int32).toNatClampNeg) (hn : n ≤ l) (hs : sub8 so s0) : DR f0 f so := ⟨hd.1, hd.2.1, fun u hu h1 h2 h3 => by
  obtain ⟨c, d⟩ := hd.2.2 u hu (hs u hu h1) h3
  have h4 := ((KX_rs hk hu).1 ((hd.1.2 u hu).2 h3).1).2.1
  rw [show (2 : Int32).toNatClampNeg = 2 from by decide, hd.1.1 2 (by omega)] at e
  rw [fa_le, e, hk.2.2.2.2] at hn
  have h5 := (d h2).1
  unfold rg at h4
  omega⟩
theorem DR_up {f0 f : Nat → Int32} {s i v : Int32} {a b : Int} (h : DR f0 f s) (hi : rg a b i) (h0 : 41 ≤ a ∧ b ≤ 44) : DR f0 (upd f i.toNatClampNeg v) s := by
  obtain ⟨j, hj, h1, h2⟩ := rg_cl hi (by omega)
  rw [hj]
  refine ⟨DN_up h.1 (by omega), by rw [pk_un (by omega)]; exact h.2.1, fun u hu q1 q2 => ?_⟩
  rw [pk_un (by omega)]
  exact h.2.2 u hu q1 q2
theorem DR_0 {f0 : Nat → Int32} {s : Int32} (h : s = 0) : DR f0 f0 s := ⟨DN_rf, rfl, fun u _ q => absurd (h ▸ q) bN_0⟩
/-! what falls of all -/
def FI (f0 f : Nat → Int32) (c : Int32) : Prop := DN f0 f ∧ f 40 = f0 40 ∧ ∀ u : Nat, u < 8 → (u : Int) < (f0 3).toInt → f (8 + u) = 1 → (f0 (32 + u)).toInt ≤ (f0 40).toInt → c.toInt ≤ (f0 (16 + u)).toInt
def FP (f0 f : Nat → Int32) : Prop := DN f0 f ∧ f 40 = f0 40 ∧ ∀ u : Nat, u < 8 → (u : Int) < (f0 3).toInt → (f0 (32 + u)).toInt ≤ (f0 40).toInt → f (8 + u) ≠ 1
def GI (f : Nat → Int32) (c s t : Int32) : Prop := ∀ u : Nat, u < 8 → (u : Int) < t.toInt → f (8 + u) = 1 → f (16 + u) = c → (f (32 + u)).toInt ≤ (f 40).toInt → bN s u
theorem FI_0 {C L A B h : Int} {f0 : Nat → Int32} (hk : KX C L A B h f0) : FI f0 f0 0 := ⟨DN_rf, rfl, fun u hu _ h1 _ => by
  have h2 := ((KX_rs hk hu).1 h1).1
  unfold rg at h2
  rw [t0]
  omega⟩
theorem GI_0 {f : Nat → Int32} {c s : Int32} : GI f c s 0 := fun u _ q => by
  rw [t0] at q
  omega
theorem GI_a {f : Nat → Int32} {c s t : Int32} (h : GI f c s t) (ht : rg 0 7 t) (hn : ¬ (f (8 + t).toNatClampNeg = 1 ∧ f (16 + t).toNatClampNeg = c)) : GI f c (s ||| 0) (t + 1) := fun u hu q h1 h2 h3 => by
  rw [inc32 t (by unfold rg at ht; omega)] at q
  rw [p8 ht, p16 ht] at hn
  have d : u ≠ t.toNatClampNeg := fun e => hn (by subst e; exact ⟨h1, h2⟩)
  have e := tn ht
  exact bN_or.mpr (Or.inl (h u hu (by omega) h1 h2 h3))
theorem GI_b {f : Nat → Int32} {c s t n m : Int32} (h : GI f c s t) (ht : rg 0 7 t) (e1 : n = f (32 + t).toNatClampNeg) (e2 : m = f (40 : Int32).toNatClampNeg) (hn : m < n) : GI f c (s ||| 0) (t + 1) := fun u hu q h1 h2 h3 => by
  rw [inc32 t (by unfold rg at ht; omega)] at q
  rw [p32 ht] at e1
  rw [p40] at e2
  rw [fa_lt, e1, e2] at hn
  have d : u ≠ t.toNatClampNeg := fun e => by
    subst e
    omega
  have e := tn ht
  exact bN_or.mpr (Or.inl (h u hu (by omega) h1 h2 h3))
theorem GI_c {f : Nat → Int32} {c s t : Int32} (h : GI f c s t) (ht : rg 0 7 t) : GI f c (s ||| (1 <<< (t &&& 31))) (t + 1) := fun u hu q h1 h2 h3 => by
  rw [inc32 t (by unfold rg at ht; omega)] at q
  have e := tn ht
  by_cases d : u = t.toNatClampNeg
  · exact bN_or.mpr (Or.inr ((bN_1 ht hu).mpr d))
  · exact bN_or.mpr (Or.inl (h u hu (by omega) h1 h2 h3))
theorem FI_s {f0 f f' : Nat → Int32} {c s t n : Int32} {a b : Int} (h : FI f0 f c) (hg : GI f c s t) (hc : rg a b c) (hb : b ≤ 1000) (e : n = f (3 : Int32).toNatClampNeg) (hn : n ≤ t) (hd : DR f f' s) : FI f0 f' (c + 1) := ⟨DN_tr h.1 hd.1, hd.2.1.trans h.2.1, fun u hu h1 h2 h3 => by
  obtain ⟨a1, a2, a3, a4⟩ := (hd.1.2 u hu).2 h2
  have h4 := h.2.2 u hu h1 a1 h3
  obtain ⟨b1, b2, b3, b4⟩ := (h.1.2 u hu).2 a1
  rw [p3] at e
  rw [fa_le, e] at hn
  have e3 : f 3 = f0 3 := h.1.1 3 (by omega)
  rw [inc32 c (by unfold rg at hc; omega)]
  by_cases q : (f0 (16 + u)).toInt = c.toInt
  · have h5 : bN s u := hg u hu (by rw [e3] at hn; omega) a1 (by rw [fa_eq, b2]; exact q) (by rw [b4, h.2.1]; exact h3)
    exact absurd h2 (hd.2.2 u hu h5 (by rw [e3]; exact h1))
  · omega⟩
theorem FI_e {C L A B h : Int} {f0 f : Nat → Int32} {c n : Int32} (hf : FI f0 f c) (hk : KX C L A B h f0) (e : n = f (1 : Int32).toNatClampNeg) (hn : n ≤ c) : FP f0 f := ⟨hf.1, hf.2.1, fun u hu h1 h2 h3 => by
  have h4 := hf.2.2 u hu h1 h3 h2
  have h5 := ((KX_rs hk hu).1 ((hf.1.2 u hu).2 h3).1).1
  rw [show (1 : Int32).toNatClampNeg = 1 from by decide, hf.1.1 1 (by omega)] at e
  rw [fa_le, e, hk.2.2.2.1] at hn
  unfold rg at h5
  omega⟩
def GP (f0 f : Nat → Int32) (h : Int32) : Prop := DN f0 f ∧ f 40 = h ∧ ∀ u : Nat, u < 8 → (u : Int) < (f0 3).toInt → (f0 (32 + u)).toInt ≤ h.toInt → f (8 + u) ≠ 1
theorem GP_of {f0 f : Nat → Int32} {h : Int32} (hf : FP (upd f0 (40 : Int32).toNatClampNeg h) f) : GP f0 f h := by
  obtain ⟨h1, h2, h3⟩ := hf
  rw [p40] at h1 h2 h3
  rw [pk_us] at h2 h3
  refine ⟨DN_tr (DN_up DN_rf (by decide)) h1, h2, fun u hu a b => h3 u hu ?_ ?_⟩
  · rw [pk_un (by decide)]; exact a
  · rw [pk_un (by omega)]; exact b
/-! the next hour -/
def NI (f : Nat → Int32) (r k : Int32) : Prop := (r = 536870912 ∨ ∃ t : Nat, t < 8 ∧ (t : Int) < (f 3).toInt ∧ f (8 + t) = 1 ∧ r = f (32 + t)) ∧ ∀ t : Nat, t < 8 → (t : Int) < k.toInt → f (8 + t) = 1 → r.toInt ≤ (f (32 + t)).toInt
theorem NI_0 {f : Nat → Int32} : NI f 536870912 0 := ⟨Or.inl rfl, fun t _ q => by
  rw [t0] at q
  omega⟩
theorem NI_a {f : Nat → Int32} {r k : Int32} (h : NI f r k) (hk : rg 0 7 k) (hn : ¬ f (8 + k).toNatClampNeg = 1) : NI f r (k + 1) := ⟨h.1, fun t ht q h1 => by
  rw [inc32 k (by unfold rg at hk; omega)] at q
  rw [p8 hk] at hn
  have d : t ≠ k.toNatClampNeg := fun e => hn (e ▸ h1)
  have e := tn hk
  exact h.2 t ht (by omega) h1⟩
theorem NI_b {f : Nat → Int32} {r k n m : Int32} (h : NI f r k) (hk : rg 0 7 k) (h8 : f (8 + k).toNatClampNeg = 1) (e : n = f (32 + k).toNatClampNeg) (e3 : m = f (3 : Int32).toNatClampNeg) (hm : k < m) : NI f (if n < r then n else r) (k + 1) := by
  rw [p8 hk] at h8
  rw [p32 hk] at e
  rw [p3] at e3
  rw [fa_lt, e3] at hm
  have ek := tn hk
  have hl := lt7 hk
  refine ⟨?_, fun t ht q h1 => ?_⟩
  · by_cases q : n < r
    · rw [if_pos q]; exact Or.inr ⟨_, hl, by omega, h8, e⟩
    · rw [if_neg q]; exact h.1
  · rw [inc32 k (by unfold rg at hk; omega)] at q
    rw [mm_min]
    by_cases d : t = k.toNatClampNeg
    · subst d
      rw [← e]
      omega
    · have := h.2 t ht (by omega) h1
      omega
def NX (f : Nat → Int32) (r : Int32) : Prop := NI f r (f 3)
theorem NX_of {f : Nat → Int32} {r k n : Int32} (h : NI f r k) (e : n = f (3 : Int32).toNatClampNeg) (hn : n ≤ k) : NX f r := ⟨h.1, fun t ht q h1 => h.2 t ht (by
  rw [p3] at e
  rw [fa_le, e] at hn
  omega) h1⟩
theorem NX_rg {C L A B h : Int} {f : Nat → Int32} {r : Int32} (hk : KX C L A B h f) (hx : NX f r) (hr : r.toInt < 536870912) : rg (-2000000) 4000000 r := by
  rcases hx.1 with q | ⟨t, ht, _, h1, h2⟩
  · rw [q, show (536870912 : Int32).toInt = 536870912 from by decide] at hr
    omega
  · rw [h2]
    exact ((KX_rs hk ht).1 h1).2.2
def hcn (f : Nat → Int32) : Nat → Nat
  | 0 => 0
  | k + 1 => hcn f k + (if f (8 + k) = 1 then 1 else 0)
theorem hcn_le {f g : Nat → Int32} (n : Nat) (h : ∀ t : Nat, t < n → g (8 + t) = 1 → f (8 + t) = 1) : hcn g n ≤ hcn f n := by
  induction n with
  | zero => exact Nat.le_refl _
  | succ k ih =>
    rw [hcn, hcn]
    have h1 := ih (fun t ht => h t (by omega))
    by_cases q : g (8 + k) = 1
    · rw [if_pos q, if_pos (h k (by omega) q)]; omega
    · rw [if_neg q]; split <;> omega
theorem hcn_lt {f g : Nat → Int32} (n : Nat) (h : ∀ t : Nat, t < n → g (8 + t) = 1 → f (8 + t) = 1) (u : Nat) (hu : u < n) (h1 : f (8 + u) = 1) (h2 : g (8 + u) ≠ 1) : hcn g n < hcn f n := by
  induction n with
  | zero => omega
  | succ k ih =>
    rw [hcn, hcn]
    by_cases e : u = k
    · subst e
      have h3 := hcn_le u (fun t ht => h t (by omega))
      rw [if_neg h2, if_pos h1]
      omega
    · have h3 := ih (fun t ht => h t (by omega)) (by omega)
      by_cases q : g (8 + k) = 1
      · rw [if_pos q, if_pos (h k (by omega) q)]; omega
      · rw [if_neg q]; split <;> omega
def NF (f g : Nat → Int32) : Prop := DN f g ∧ hcn g 8 < hcn f 8
theorem NF_of {f g : Nat → Int32} {r : Int32} (hx : NX f r) (hr : r.toInt < 536870912) (hg : GP f g r) : NF f g := ⟨hg.1, by
  rcases hx.1 with q | ⟨t, ht, h0, h1, h2⟩
  · rw [q, show (536870912 : Int32).toInt = 536870912 from by decide] at hr
    omega
  · exact hcn_lt 8 (fun u hu q => ((hg.1.2 u hu).2 q).1) t ht h1 (hg.2.2 t ht h0 (by rw [h2]; omega))⟩
/-- one of the things -/
def th (f : Nat → Int32) (t : Int32) : Prop := rg 0 7 t ∧ t.toInt < (f 3).toInt
theorem th_su {f g : Nat → Int32} {t : Int32} (h : th f t) (hs : SU f g) : th g t := ⟨h.1, by rw [hs 3 (by omega)]; exact h.2⟩
theorem NX_th {C L A B h : Int} {f : Nat → Int32} {r t : Int32} (hk : KX C L A B h f) (hx : NX f r) (ht : th f t) (h1 : f (8 + t).toNatClampNeg = 1) : r.toInt < 536870912 := by
  have hl := lt7 ht.1
  rw [p8 ht.1] at h1
  have h2 := hx.2 _ hl (by rw [tn ht.1]; exact ht.2) h1
  have h3 := ((KX_rs hk hl).1 h1).2.2
  unfold rg at h3
  omega
/-! the state copied -/
def CP8 (g f : Nat → Int32) : Prop := ∀ j : Nat, j < 37 → g j = f (8 + j)
def cp (f g : Nat → Int32) (s d k : Nat) : Nat → Int32 := fun j => if d ≤ j ∧ j < d + k then f (s + (j - d)) else g j
theorem cp_0 {f g : Nat → Int32} {s d : Nat} : g = cp f g s d 0 := by
  funext j
  unfold cp
  rw [if_neg (by omega)]
theorem cp_s {f g : Nat → Int32} {s d k : Nat} {v : Int32} (hv : v = f (s + k)) : upd (cp f g s d k) (d + k) v = cp f g s d (k + 1) := by
  funext j
  by_cases e : j = d + k
  · subst e
    rw [pk_us]
    unfold cp
    rw [if_pos (by omega), show s + (d + k - d) = s + k by omega]
    exact hv
  · rw [pk_un e]
    unfold cp
    by_cases q : d ≤ j ∧ j < d + k
    · rw [if_pos q, if_pos (by omega)]
    · rw [if_neg q, if_neg (by omega)]
theorem cp_out {f g : Nat → Int32} {s d k j : Nat} (h : j < d ∨ d + k ≤ j) : cp f g s d k j = g j := by
  unfold cp
  rw [if_neg (by omega)]
theorem cp_in {f g : Nat → Int32} {s d k j : Nat} (h : j < k) : cp f g s d k (d + j) = f (s + j) := by
  unfold cp
  rw [if_pos (by omega), show s + (d + j - d) = s + j by omega]
