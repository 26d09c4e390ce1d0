/-! ranges: more -/
theorem rg_nz {a b : Int} {y : Int32} (h : rg a b y) (h1 : 0 < a) : ¬ y = 0 := fun e => by
  unfold rg at h
  rw [e, show (0 : Int32).toInt = 0 from by decide] at h
  omega
theorem rg_remy {c d e f : Int} {x y : Int32} (hy : rg c d y) (h1 : 0 < c) (h2 : e ≤ -(d - 1)) (h3 : d - 1 ≤ f) : rg e f (x - x / y * y) := by
  unfold rg at *
  have hr := rng32 x
  have hr2 := rng32 y
  have hny : y ≠ -1 := fun h => by
    rw [h, show (-1 : Int32).toInt = -1 from by decide] at hy
    omega
  have e1 : (x / y).toInt = x.toInt.tdiv y.toInt := Int32.toInt_div_of_ne_right _ _ hny
  have h5 : x.toInt.tdiv y.toInt * y.toInt + x.toInt.tmod y.toInt = x.toInt := by rw [Int.mul_comm]; exact Int.mul_tdiv_add_tmod x.toInt y.toInt
  have h6 : x.toInt.tmod y.toInt < y.toInt := Int.tmod_lt_of_pos _ (by omega)
  have h7 : -y.toInt < x.toInt.tmod y.toInt := by
    have h8 := Int.tmod_lt_of_pos (-x.toInt) (show 0 < y.toInt by omega)
    rw [Int.neg_tmod] at h8
    omega
  have h9 : (x.toInt.tdiv y.toInt * y.toInt) = x.toInt - x.toInt.tmod y.toInt := by omega
  have hb : -2147483648 ≤ x.toInt.tdiv y.toInt * y.toInt ∧ x.toInt.tdiv y.toInt * y.toInt < 2147483648 := by
    rcases Int.le_total 0 x.toInt with hx | hx
    · have := Int.tmod_nonneg y.toInt hx
      omega
    · have h10 := Int.tmod_nonneg y.toInt (show 0 ≤ -x.toInt by omega)
      rw [Int.neg_tmod] at h10
      omega
  have e2 : (x / y * y).toInt = x.toInt.tdiv y.toInt * y.toInt := by rw [mul32 _ _ (by rw [e1]; exact hb.1) (by rw [e1]; exact hb.2), e1]
  rw [sub32 _ _ (by rw [e2]; omega) (by rw [e2]; omega), e2]
  omega
theorem rg_and {k : Int} {x y : Int32} (hy : y.toInt = k) (h0 : 0 ≤ k) : rg 0 k (x &&& y) := by
  unfold rg
  have h1 : (x &&& y).toBitVec = x.toBitVec &&& y.toBitVec := rfl
  have h2 : y.toBitVec.toInt = k := hy
  have h3 : y.toBitVec.toNat < 2147483648 := by
    have := BitVec.toInt_eq_toNat_cond y.toBitVec
    have h4 := y.toBitVec.isLt
    rw [h2] at this
    split at this <;> omega
  have h4 : (y.toBitVec.toNat : Int) = k := by
    have := BitVec.toInt_eq_toNat_cond y.toBitVec
    rw [h2] at this
    split at this <;> omega
  have h5 : (x.toBitVec &&& y.toBitVec).toNat ≤ y.toBitVec.toNat := by
    rw [BitVec.toNat_and]
    exact Nat.and_le_right
  have h6 : (x &&& y).toInt = ((x.toBitVec &&& y.toBitVec).toNat : Int) := by
    show (x &&& y).toBitVec.toInt = _
    rw [h1, BitVec.toInt_eq_toNat_cond]
    split <;> omega
  rw [h6]
  omega
theorem rg_xor {a b c d : Int} {m y : Int32} (h : 0 ≤ m ^^^ y) (hm : rg a b m) (hy : rg c d y) (h1 : 0 ≤ c) : rg 0 b m := by
  unfold rg at *
  refine ⟨?_, hm.2⟩
  have h2 : (m ^^^ y).toBitVec = m.toBitVec ^^^ y.toBitVec := rfl
  rw [fa_le, show (0 : Int32).toInt = 0 from by decide] at h
  have h3 : ¬ ((m ^^^ y).toBitVec.msb = true) := fun q => by
    have h4 : (m ^^^ y).toInt < 0 := by
      show (m ^^^ y).toBitVec.toInt < 0
      exact BitVec.toInt_neg_iff.mpr (by have := BitVec.msb_eq_true_iff_two_mul_ge.mp q; omega)
    omega
  have h5 : ¬ (y.toBitVec.msb = true) := fun q => by
    have h4 : y.toInt < 0 := by
      show y.toBitVec.toInt < 0
      exact BitVec.toInt_neg_iff.mpr (by have := BitVec.msb_eq_true_iff_two_mul_ge.mp q; omega)
    omega
  have h6 : ¬ (m.toBitVec.msb = true) := fun q => by
    rw [h2, BitVec.msb_xor, q] at h3
    cases hq : y.toBitVec.msb
    · rw [hq] at h3; exact h3 rfl
    · exact h5 hq
  have h7 : 0 ≤ m.toBitVec.toInt := by
    rw [BitVec.toInt_eq_msb_cond]
    rw [if_neg h6]
    omega
  exact h7
theorem rg_len {n : Nat} {b : Int} (h : n ≤ 900) (h1 : 900 ≤ b) : rg 0 b (Int32.ofNat n) := by
  unfold rg
  rw [Int32.toInt_ofNat_of_lt (by omega)]
  omega
theorem ln_in {a b : Int} {x : Int32} {n : Nat} (h : x < Int32.ofNat n) (hx : rg a b x) (h0 : 0 ≤ a) (hn : n ≤ 900) : vp_in x n := by
  unfold rg at hx
  rw [fa_lt, Int32.toInt_ofNat_of_lt (by omega)] at h
  exact vp_in_iff.mpr ⟨by omega, h⟩
theorem rg_xor2 {a b c d : Int} {m y : Int32} (h : m ^^^ y < 0) (hm : rg a b m) (hy : rg c d y) (h1 : 0 ≤ c) : rg a (-1) m := by
  have hn : ¬ 0 ≤ m := fun q => by
    have h2 : (m ^^^ y).toBitVec = m.toBitVec ^^^ y.toBitVec := rfl
    rw [fa_lt, show (0 : Int32).toInt = 0 from by decide] at h
    rw [fa_le, show (0 : Int32).toInt = 0 from by decide] at q
    unfold rg at hy
    have h5 : ¬ (y.toBitVec.msb = true) := fun q2 => by
      have h4 : y.toInt < 0 := by
        show y.toBitVec.toInt < 0
        exact BitVec.toInt_neg_iff.mpr (by have := BitVec.msb_eq_true_iff_two_mul_ge.mp q2; omega)
      omega
    have h6 : ¬ (m.toBitVec.msb = true) := fun q2 => by
      have h4 : m.toInt < 0 := by
        show m.toBitVec.toInt < 0
        exact BitVec.toInt_neg_iff.mpr (by have := BitVec.msb_eq_true_iff_two_mul_ge.mp q2; omega)
      omega
    have h7 : ¬ ((m ^^^ y).toBitVec.msb = true) := by
      rw [h2, BitVec.msb_xor, Bool.eq_false_iff.mpr h5, Bool.eq_false_iff.mpr h6]
      decide
    have h8 : 0 ≤ (m ^^^ y).toBitVec.toInt := by
      rw [BitVec.toInt_eq_msb_cond]
      rw [if_neg h7]
      omega
    have h9 : (m ^^^ y).toBitVec.toInt < 0 := h
    omega
  rw [fa_le, show (0 : Int32).toInt = 0 from by decide] at hn
  unfold rg at *
  omega
theorem rg_fm {a b c d f : Int} {x y : Int32} (hm : rg a b (x - x / y * y)) (hy : rg c d y) (h0 : b < 0 ∧ 0 < c) (h1 : d - 1 ≤ f) : rg 0 f ((x - x / y * y) + y) := by
  have hr := rng32 y
  have h2 : rg (-(y.toInt - 1)) (y.toInt - 1) (x - x / y * y) := rg_remy (c := y.toInt) (d := y.toInt) ⟨Int.le_refl _, Int.le_refl _⟩ (by unfold rg at hy; omega) (Int.le_refl _) (Int.le_refl _)
  unfold rg at *
  rw [add32 _ _ (by omega) (by omega)]
  omega
theorem rg_mn {a b c d e f : Int} {x y : Int32} (hx : rg a b x) (hy : rg c d y) (h1 : e ≤ a ∧ e ≤ c) (h2 : b ≤ f ∨ d ≤ f) : rg e f (if y < x then y else x) := by
  unfold rg at *
  rw [mm_min]
  omega
theorem rg_mx {a b c d e f : Int} {x y : Int32} (hx : rg a b x) (hy : rg c d y) (h1 : e ≤ a ∨ e ≤ c) (h2 : b ≤ f ∧ d ≤ f) : rg e f (if x < y then y else x) := by
  unfold rg at *
  rw [mm_max]
  omega
theorem rg_remp {a b c d e f : Int} {x y : Int32} (hx : rg a b x) (hy : rg c d y) (h0 : 0 ≤ a ∧ 0 < c) (h1 : e ≤ 0) (h2 : d - 1 ≤ f) : rg e f (x - x / y * y) := by
  have hr := rng32 y
  have h3 : rg 0 (y.toInt - 1) (x - x / y * y) := rg_rem (d := y.toInt) (b := b) ⟨by unfold rg at hx; omega, hx.2⟩ rfl (by unfold rg at hy; omega)
  unfold rg at *
  omega
theorem rg_remn {a b c d e f : Int} {x y : Int32} (hx : rg a b x) (hy : rg c d y) (h0 : b ≤ 0 ∧ 0 < c) (h1 : e ≤ -(d - 1)) (h2 : 0 ≤ f) : rg e f (x - x / y * y) := by
  unfold rg at *
  have hr := rng32 x
  have hr2 := rng32 y
  have hny : y ≠ -1 := fun h => by
    rw [h, show (-1 : Int32).toInt = -1 from by decide] at hy
    omega
  have e1 : (x / y).toInt = x.toInt.tdiv y.toInt := Int32.toInt_div_of_ne_right _ _ hny
  have h5 : x.toInt.tdiv y.toInt * y.toInt + x.toInt.tmod y.toInt = x.toInt := by rw [Int.mul_comm]; exact Int.mul_tdiv_add_tmod x.toInt y.toInt
  have h10 := Int.tmod_nonneg y.toInt (show 0 ≤ -x.toInt by omega)
  have h11 := Int.tmod_lt_of_pos (-x.toInt) (show 0 < y.toInt by omega)
  rw [Int.neg_tmod] at h10 h11
  have e2 : (x / y * y).toInt = x.toInt.tdiv y.toInt * y.toInt := by rw [mul32 _ _ (by rw [e1]; omega) (by rw [e1]; omega), e1]
  rw [sub32 _ _ (by rw [e2]; omega) (by rw [e2]; omega), e2]
  omega
theorem Met_ofWF {l : Launch} {y : MethodName} {ws ws' : List Cond} {rm : Room} {Pc : Array Value → State → Prop} {Qc : Array Value → State → Outcome → State → Prop} {mc ms : Nat} {free : Addr → Prop} {cc : ByteArray} {maxL : Nat} {ret : Option FieldType}
    (hy : plainFor y = true) (hw : ws = Cond.code y cc maxL ret :: ws')
    (body : ∀ p e s m args below meth c s₁, BodyLoose p l y (headSpec ws rm) cc maxL ret e s m args below meth c s₁ → c.maxLocals = maxL → Pc args s →
      W p l e (headSpec ws rm).room s m args below meth c s.heap [] 0 0 (MQ below Qc args s mc ms free) (entryFrame m args maxL)) : Met l y ws rm Pc Qc mc ms free := by
  refine MetFree.of_bodySF (code := cc) (maxLocals := maxL) (ret := ret) hy ?_ ?_
  · intro args s m h hn
    obtain ⟨meth, c, h1, h2, h3, h4, h5, h6, -, -⟩ := Cond.code_spec hn (atoms_spec (ws := ws) h _ (by rw [hw]; exact List.mem_cons_self))
    exact ⟨meth, c, h1, h2, h3, h4, h5, h6⟩
  · intro p e s m args below meth c s₁ B hml hP _
    have hh0 : s₁.heap = s.heap := by rw [B.state]; rfl
    obtain ⟨t, a1, o, b1, b2, b3⟩ := body p e s m args below meth c s₁ B hml hP s₁ hh0 (Stand.of_body B)
    exact ⟨t, o, a1, b1, b2, ⟨b3.1, b3.2⟩⟩
section StartsF
variable {l : Launch} {y : MethodName} {b : ByteArray} {mL : Nat} {rt : Option FieldType} {rm : Room} {D : va_G} {cy : Nat → ClassId} {av : List Value} {WS : va_W} {px : String → va_W → Prop}
theorem Ci.ofF {post : Int32 → va_W → Prop} (hy : plainFor y = true) (hlen : (lg_sl av).length ≤ mL)
    (body : ∀ (p : Program) (e : Env) (s : State) (m : MethodId) (below : List Frame) (meth : Method) (c : Code) (A : Nat → Prop) (ls : Array Slot), Ex p s m av.toArray meth c b rt mL y.cls → Ew D cy A s → va_P D vwCl WS s.heap → va_D A WS → lv_has ls mL (lv_args 0 av) →
      W p l e rm s m av.toArray below meth c s.heap [] 0 0 (MQ below (va_Qi post (cB D cy A) A) av.toArray s rm.cells rm.slots A) (F0 m 0 ls [])) : Ci l y b mL rt rm D cy av WS post := by
  intro sz
  refine Met_ofWF (cc := b) (maxL := mL) (ret := rt) hy rfl ?_
  intro p e s m args below meth c s₁ B hml hv
  obtain ⟨rfl, hsz, hP, hK, hD, hG, hX⟩ := hv
  rw [lg_entry_eq]
  exact body p e s m below meth c (va_A WS sz) _ (st_ex rfl B hml) ⟨hK, fun q h => Or.inr (by rw [← hsz]; exact h), hG, hX⟩ hP hD.self (lv_entry av hlen)
theorem Cl.ofF {post : Int64 → va_W → Prop} (hy : plainFor y = true) (hlen : (lg_sl av).length ≤ mL)
    (body : ∀ (p : Program) (e : Env) (s : State) (m : MethodId) (below : List Frame) (meth : Method) (c : Code) (A : Nat → Prop) (ls : Array Slot), Ex p s m av.toArray meth c b rt mL y.cls → Ew D cy A s → va_P D vwCl WS s.heap → va_D A WS → lv_has ls mL (lv_args 0 av) →
      W p l e rm s m av.toArray below meth c s.heap [] 0 0 (MQ below (va_Ql post (cB D cy A) A) av.toArray s rm.cells rm.slots A) (F0 m 0 ls [])) : Cl l y b mL rt rm D cy av WS post := by
  intro sz
  refine Met_ofWF (cc := b) (maxL := mL) (ret := rt) hy rfl ?_
  intro p e s m args below meth c s₁ B hml hv
  obtain ⟨rfl, hsz, hP, hK, hD, hG, hX⟩ := hv
  rw [lg_entry_eq]
  exact body p e s m below meth c (va_A WS sz) _ (st_ex rfl B hml) ⟨hK, fun q h => Or.inr (by rw [← hsz]; exact h), hG, hX⟩ hP hD.self (lv_entry av hlen)
end StartsF
theorem dec32 (x : Int32) (h : -2147483648 < x.toInt) : (x + (-1)).toInt = x.toInt - 1 := by
  have h1 : (-1 : Int32).toInt = -1 := by decide
  have hr := rng32 x
  rw [add32 x (-1) (by rw [h1]; omega) (by rw [h1]; omega), h1]
  omega
/-- a function, elsewhere at one place -/
def fu {α : Type} (f : Nat → α) (i : Nat) (x : α) : Nat → α := fun j => if j = i then x else f j
theorem ix_10 (x : Int32) (h : vp_in x 10) : x = 0 ∨ x = 1 ∨ x = 2 ∨ x = 3 ∨ x = 4 ∨ x = 5 ∨ x = 6 ∨ x = 7 ∨ x = 8 ∨ x = 9 := by
  obtain ⟨j, hj, rfl⟩ := vp_in_of h (by decide)
  rcases (show j = 0 ∨ j = 1 ∨ j = 2 ∨ j = 3 ∨ j = 4 ∨ j = 5 ∨ j = 6 ∨ j = 7 ∨ j = 8 ∨ j = 9 by omega) with rfl | rfl | rfl | rfl | rfl | rfl | rfl | rfl | rfl | rfl <;> decide
theorem rg_subl {a b c d e f : Int} {x y : Int32} (h : y ≤ x) (hx : rg a b x) (hy : rg c d y) (h1 : (e ≤ 0 ∨ e ≤ a - d) ∧ -2147483648 ≤ a - d) (h2 : b - c ≤ f ∧ f ≤ 2147483647) : rg e f (x - y) := by
  rw [fa_le] at h
  unfold rg at *
  rw [sub32 x y (by omega) (by omega)]
  omega
