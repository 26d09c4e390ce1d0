/-! the deeds' own rows -/
theorem ks_7 {f x : Nat → Int32} {n : Int32} {m : Nat} (hx : x = cp f f 126 89 m) (e : n = f (7 : Int32).toNatClampNeg) (h : n = 10) : rg 10 10 (x 7) := by
  rw [hx, cp_out (by omega)]
  rw [p7] at e
  rw [← e, h]
  exact rg_lit (by decide)
theorem ku_7 {f x : Nat → Int32} {a b : Int} (h : x 7 = f 7) (hf : rg a b (f 7)) : rg a b (x 7) := by rw [h]; exact hf
theorem KK_rf {f : Nat → Int32} : KK f f := fun _ _ => rfl
theorem KK_tr {f g k : Nat → Int32} (h1 : KK f g) (h2 : KK g k) : KK f k := fun j hj => (h2 j hj).trans (h1 j hj)
theorem KK_7 {f g : Nat → Int32} {v : Int32} (h : KK f g) : KK f (upd g (7 : Int32).toNatClampNeg v) := fun j hj => by
  rw [p7, pk_un (by omega)]
  exact h j hj
theorem KK_sh {f x : Nat → Int32} {n : Nat} (hx : x = cp f f 126 89 n) : KK f x := fun j hj => by rw [hx, cp_out (by omega)]
theorem KK_cu {f x : Nat → Int32} {n N : Nat} (hx : x = cp f f 8 (89 + 37 * N) n) : KK f x := fun j hj => by rw [hx, cp_out (by omega)]
theorem SU_4 {f : Nat → Int32} {t a b c d : Int32} (ht : rg 0 7 t) : SU f (upd (upd (upd (upd f (8 + t).toNatClampNeg a) (16 + t).toNatClampNeg b) (24 + t).toNatClampNeg c) (32 + t).toNatClampNeg d) := fun j hj => by
  have hu := lt7 ht
  rw [p8 ht, p16 ht, p24 ht, p32 ht, pk_un (by omega), pk_un (by omega), pk_un (by omega), pk_un (by omega)]
