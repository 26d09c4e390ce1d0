/-! lines -/
theorem pa_b5 {f : Nat → Int32} {bad b : Int32} {lo hi : Int} (hb : rg lo hi b) (h0 : 0 ≤ lo) : PA 5 459 0 0 (upd f (5 : Int32).toNatClampNeg 0) bad b := fun _ => by
  rw [show (5 : Int32).toNatClampNeg = 5 from by decide, pk_us, t0, k0]
  unfold rg at hb
  exact ⟨by omega, rfl⟩
theorem pa_b6 {f : Nat → Int32} {bad b : Int32} {lo hi : Int} (hb : rg lo hi b) (h0 : 0 ≤ lo) : PA 6 1359 0 0 (upd f (6 : Int32).toNatClampNeg 0) bad b := fun _ => by
  rw [show (6 : Int32).toNatClampNeg = 6 from by decide, pk_us, t0, k0]
  unfold rg at hb
  exact ⟨by omega, rfl⟩
theorem up_c {C L : Int} {f : Nat → Int32} {r n : Int32} (hk : TX C L f) (hr : rg 0 8 r) (h : r.toInt ≤ (n - 1).toInt) (hn : rg 1 6 n) (e : n = f (1 : Int32).toNatClampNeg) : rg 0 (C - 1) r := by
  have e1 : (1 : Int32).toInt = 1 := by decide
  have h3 := hk.1.2.2.2.1
  rw [show (1 : Int32).toNatClampNeg = 1 from by decide] at e
  rw [← e] at h3
  unfold rg at *
  rw [sub32 n 1 (by rw [e1]; omega) (by rw [e1]; omega), e1] at h
  omega
theorem up_l {C L : Int} {f : Nat → Int32} {r n : Int32} (hk : TX C L f) (hr : rg 0 8 r) (h : r.toInt ≤ (n - 1).toInt) (hn : rg 1 9 n) (e : n = f (2 : Int32).toNatClampNeg) : rg 0 (L - 1) r := by
  have e1 : (1 : Int32).toInt = 1 := by decide
  have h3 := hk.1.2.2.2.2
  rw [show (2 : Int32).toNatClampNeg = 2 from by decide] at e
  rw [← e] at h3
  unfold rg at *
  rw [sub32 n 1 (by rw [e1]; omega) (by rw [e1]; omega), e1] at h
  omega
theorem ly_h {C L : Int} {c l h : Int32} (hh : rg 0 99 h) : LY C L 0 c l h := ⟨fun q => absurd q (by decide), hh⟩
theorem ly_o {C L : Int} {c l h : Int32} (hh : rg 0 99 h) : LY C L 2 c l h := ⟨fun q => absurd q (by decide), hh⟩
theorem ly_u {C L : Int} {c l h : Int32} (hc : rg 0 (C - 1) c) (hl : rg 0 (L - 1) l) (hh : rg 0 99 h) : LY C L 1 c l h := ⟨fun _ => ⟨hc, hl⟩, hh⟩
theorem th3 {x f : Nat → Int32} {n w t : Int32} (e : n = upd x (45 + t).toNatClampNeg w (3 : Int32).toNatClampNeg) (ht : rg 0 7 t) (h3 : x 3 = f 3) (h7 : rg 0 7 (f 3)) : rg 0 7 n := by
  rw [e, cl_p (n := 45) (by decide) (by decide) ht (by decide), p3, pk_un (by omega), h3]
  exact h7
theorem x4_s {x f : Nat → Int32} {i v : Int32} {a b : Int} (h : x 4 = f 4) (hi : rg a b i) (h0 : 57 ≤ a) : upd x i.toNatClampNeg v 4 = f 4 := by
  obtain ⟨j, hj, h1, h2⟩ := rg_cl hi (by omega)
  rw [hj, pk_un (by omega)]
  exact h
theorem x4_e {x f : Nat → Int32} {w : Int32} (h : x 4 = f 4) (e : w = f (4 : Int32).toNatClampNeg) : w = x 4 := by
  rw [e, p4, h]
theorem ms_d {bad b bad' b' h' t' : Int32} {lo hi : Int} (hc : CO1 bad b bad' b' h' t') (hb : bad.toInt = 0) (hb' : rg lo hi b') (h0 : hi ≤ 900) : (2 * (900 - b'.toInt).toNat + (if bad'.toInt = 0 then 1 else 0)) < (2 * (900 - b.toInt).toNat + (if bad.toInt = 0 then 1 else 0)) := by
  unfold rg at hb'
  have h1 := hc.1.1
  rw [if_pos hb]
  by_cases q : bad'.toInt = 0
  · have h2 := hc.2 q
    rw [if_pos q]
    omega
  · rw [if_neg q]
    omega
/-! the district itself -/
section Dis
variable {f a x : Nat → Int32} {k v w : Int32}
theorem zr_0 : f = cp (fun _ => 0) f 0 0 (0 : Int32).toNatClampNeg := by rw [k0]; exact cp_0
theorem zr_s (hx : x = cp (fun _ => 0) f 0 0 k.toNatClampNeg) (hk : rg 0 2259 k) : upd x k.toNatClampNeg 0 = cp (fun _ => 0) f 0 0 (k + 1).toNatClampNeg := by
  rw [kn hk (by decide), hx]
  have := cp_s (f := fun _ => (0 : Int32)) (g := f) (s := 0) (d := 0) (k := k.toNatClampNeg) (v := 0) rfl
  rw [show 0 + k.toNatClampNeg = k.toNatClampNeg by omega] at this
  exact this
theorem TX_0 {lo hi : Int} (hx : x = cp (fun _ => 0) f 0 0 k.toNatClampNeg) (hk : rg lo hi k) (h1 : 2260 ≤ lo) (h2 : hi ≤ 2260) (hv : rg 1 6 v) (hw : rg 1 9 w) : TX v.toInt w.toInt (upd (upd x (1 : Int32).toNatClampNeg v) (2 : Int32).toNatClampNeg w) := by
  rw [k2260 hk h1 h2] at hx
  have hz : ∀ j : Nat, j < 2260 → x j = 0 := fun j hj => by
    rw [hx]
    have := cp_in (f := fun _ => (0 : Int32)) (g := f) (s := 0) (d := 0) (k := 2260) (j := j) hj
    rw [show 0 + j = j by omega] at this
    exact this
  rw [show (1 : Int32).toNatClampNeg = 1 from by decide, show (2 : Int32).toNatClampNeg = 2 from by decide]
  have h1 : (upd (upd x 1 v) 2 w) 1 = v := by rw [pk_un (by decide), pk_us]
  have h2 : (upd (upd x 1 v) 2 w) 2 = w := pk_us
  have hu : ∀ j : Nat, j < 2260 → j ≠ 1 → j ≠ 2 → (upd (upd x 1 v) 2 w) j = 0 := fun j hj q1 q2 => by rw [pk_un q2, pk_un q1]; exact hz j hj
  have hr : ∀ n : Nat, 8 ≤ n → n + 40 < 2260 → RS v.toInt w.toInt (fun j => (upd (upd x 1 v) 2 w) (n + j)) := fun n hn hn2 t ht => by
    show ((upd (upd x 1 v) 2 w) (n + t) = 1 → rg 0 (v.toInt - 1) ((upd (upd x 1 v) 2 w) (n + (8 + t))) ∧ rg 0 (w.toInt - 1) ((upd (upd x 1 v) 2 w) (n + (16 + t))) ∧ rg (-2000000) 4000000 ((upd (upd x 1 v) 2 w) (n + (24 + t)))) ∧ ((upd (upd x 1 v) 2 w) (n + t) = 0 → rg (-1200000) 1200000 ((upd (upd x 1 v) 2 w) (n + (24 + t))))
    rw [hu (n + t) (by omega) (by omega) (by omega), hu (n + (24 + t)) (by omega) (by omega) (by omega)]
    exact ⟨fun q => absurd q (by decide), fun _ => rg_lit (by decide)⟩
  refine ⟨⟨fun j hj => ?_, ⟨fun j hj hlt => ?_, ?_, ?_⟩, ⟨hr 8 (by decide) (by decide), fun n hn => hr (89 + 37 * n) (by omega) (by omega)⟩, by rw [h1], by rw [h2]⟩, fun t ht => by rw [hu (32 + t) (by omega) (by omega) (by omega)]; exact rg_lit (by decide)⟩
  · by_cases q1 : j = 1
    · subst q1; rw [h1]; exact (kb_1 (by decide) (by decide)).mpr hv
    · by_cases q2 : j = 2
      · subst q2; rw [h2]; exact (kb_2 (by decide) (by decide)).mpr hw
      · rw [hu j hj q1 q2]
        unfold kb
        have r0 : ∀ n : Int, 0 ≤ n → rg 0 n (0 : Int32) := fun n hn => ⟨by rw [t0]; omega, by rw [t0]; exact hn⟩
        by_cases q3 : j < 8
        · rw [if_pos q3, if_neg q1, if_neg q2]
          repeat' split
          all_goals first | trivial | exact r0 _ (by decide)
        · rw [if_neg q3]
          repeat' split
          all_goals first | trivial | exact r0 _ (by decide)
  · rw [hu 4 (by decide) (by decide) (by decide), t0] at hlt
    omega
  · rw [hu 5 (by decide) (by decide) (by decide), t0]; exact LW1_0
  · rw [hu 6 (by decide) (by decide) (by decide), t0]; exact LW1_0
theorem dc_0 : f = cp a f 0 0 (0 : Int32).toNatClampNeg := by rw [k0]; exact cp_0
theorem dc_s (hx : x = cp a f 0 0 k.toNatClampNeg) (hk : rg 0 2259 k) (ew : w = a k.toNatClampNeg) : upd x k.toNatClampNeg w = cp a f 0 0 (k + 1).toNatClampNeg := by
  rw [kn hk (by decide), hx]
  have := cp_s (f := a) (g := f) (s := 0) (d := 0) (k := k.toNatClampNeg) (v := w) (by rw [show 0 + k.toNatClampNeg = k.toNatClampNeg by omega]; exact ew)
  rw [show 0 + k.toNatClampNeg = k.toNatClampNeg by omega] at this
  exact this
/-- hours still told from now -/
def TW (f : Nat → Int32) (k : Int32) : Prop := ∀ u : Nat, u < 8 → k.toInt ≤ (u : Int) → rg 0 99 (f (32 + u))
theorem dc_e {C L lo hi : Int} (hx : x = cp a f 0 0 k.toNatClampNeg) (hk : rg lo hi k) (h1 : 2260 ≤ lo) (h2 : hi ≤ 2260) (ht : TX C L a) : KX C L 0 999 0 x ∧ TW x 0 := by
  rw [k2260 hk h1 h2] at hx
  have hz : ∀ j : Nat, j < 2260 → x j = a j := fun j hj => by
    rw [hx]
    have := cp_in (f := a) (g := f) (s := 0) (d := 0) (k := 2260) (j := j) hj
    rw [show 0 + j = j by omega] at this
    exact this
  exact ⟨KX_cg hz ht.1, fun u hu _ => by rw [hz _ (by omega)]; exact ht.2 u hu⟩
theorem KX_wh {C L A B h lo hi : Int} {t v : Int32} (hk : KX C L A B h f) (ht : rg 0 7 t) (hv : rg lo hi v) (h0 : -1200000 ≤ lo ∧ hi ≤ 1200000) : KX C L A B h (upd f (32 + t).toNatClampNeg v) := by
  have hu := lt7 ht
  rw [p32 ht]
  have hr := KX_rs hk hu
  refine KX_4 hk hu (fun j a b c d => pk_un d) ?_ ?_ ?_
  · rw [pk_un (by omega)]; exact (kb_8 (by omega) (by omega)).mp (hk.1 (8 + t.toNatClampNeg) (by omega))
  · intro q
    rw [pk_un (by omega)] at q
    rw [pk_un (by omega : 16 + t.toNatClampNeg ≠ 32 + t.toNatClampNeg), pk_un (by omega : 24 + t.toNatClampNeg ≠ 32 + t.toNatClampNeg), pk_us]
    exact ⟨(hr.1 q).1, (hr.1 q).2.1, rg_w hv (by omega) (by omega)⟩
  · intro _
    rw [pk_us]
    exact rg_w hv (by omega) (by omega)
theorem TW_n {t n : Int32} (h : TW f t) (ht : rg 0 7 t) (e : n = f (32 + t).toNatClampNeg) : rg 0 99 n := by
  rw [e, p32 ht]
  exact h _ (lt7 ht) (by rw [tn ht]; exact Int.le_refl _)
theorem TW_s {t v : Int32} (h : TW f t) (ht : rg 0 7 t) : TW (upd f (32 + t).toNatClampNeg v) (t + 1) := fun u hu q => by
  have e := tn ht
  rw [inc32 t (by unfold rg at ht; omega)] at q
  rw [p32 ht, pk_un (by omega)]
  exact h u hu (by omega)
end Dis
theorem rg_ng {a b : Int} {x : Int32} (h : rg a b x) (h0 : -1000000 ≤ a ∧ b ≤ 1000000) : rg (-b) (-a) (-x) := by
  have e : (-x).toInt = -x.toInt := by
    rw [Int32.toInt_neg]
    unfold rg at h
    first | (rw [Int.bmod_eq_of_le (by omega) (by omega)]) | (unfold Int.bmod; omega)
  unfold rg at *
  rw [e]
  omega
theorem MI_of {C L h : Int} {f : Nat → Int32} (hk : KX C L 0 999 0 f) (hh : 999 ≤ h) : MI h f := ⟨C, L, KX_mono hk (Int.le_refl _) hh (by omega)⟩
