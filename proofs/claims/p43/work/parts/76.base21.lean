/-! the hour's bound -/
theorem rg_hm {a b : Int} {x : Int32} (h : rg 0 a x) (hab : a ≤ b) : rg 0 b x := rg_w h (Int.le_refl _) hab
theorem kb_mono {a b : Int} {j : Nat} {x : Int32} (hab : a ≤ b) (h : kb a j x) : kb b j x := by
  unfold kb at *
  split at h
  · split <;> first | assumption | (rename_i h1 h2; exact absurd h1 (by omega))
  · rename_i h0
    rw [if_neg h0]
    split at h
    · rename_i h1; rw [if_pos h1]; exact h
    · rename_i h1
      rw [if_neg h1]
      split at h
      · rename_i h2; rw [if_pos h2]; trivial
      · rename_i h2
        rw [if_neg h2]
        split at h
        · rename_i h3; rw [if_pos h3]; exact rg_hm h hab
        · rename_i h3
          rw [if_neg h3]
          split at h
          · rename_i h4; rw [if_pos h4]; trivial
          · rename_i h4
            rw [if_neg h4]
            split at h
            · rename_i h5; rw [if_pos h5]; exact h
            · rename_i h5
              rw [if_neg h5]
              split at h
              · rename_i h6; rw [if_pos h6]; exact h
              · rename_i h6
                rw [if_neg h6]
                split at h
                · rename_i h7; rw [if_pos h7]; trivial
                · rename_i h7
                  rw [if_neg h7]
                  split at h
                  · rename_i h8
                    rw [if_pos h8]
                    split at h
                    · rename_i h9; rw [if_pos h9]; exact h
                    · rename_i h9
                      rw [if_neg h9]
                      split at h
                      · rename_i h10; rw [if_pos h10]; exact rg_hm h hab
                      · rename_i h10; rw [if_neg h10]; trivial
                  · rename_i h8; rw [if_neg h8]; trivial
theorem KX_mono {a b : Int} {f : Nat → Int32} (h : KX a f) (hab : a ≤ b) : KX b f := ⟨fun j hj => kb_mono hab (h.1 j hj), h.2⟩
theorem KX_40 {a b : Int} {f : Nat → Int32} {i v : Int32} (h : KX a f) (hab : a ≤ b) (hv : rg 0 b v) (hi : rg 40 40 i) : KX b (upd f i.toNatClampNeg v) :=
  ⟨KB_sx (KX_mono h hab).1 hi hv (by decide) (fun j x q1 q2 q3 => (kb_40 (by omega) (by omega)).mpr q3), SP_up h.2 (Dy_rg hi (Or.inl (by decide)))⟩
theorem hs_1 {P : Int} {n : Int32} (h : rg 0 P n) (hP : P ≤ 1000000) : rg 0 (P + 1) (n + 1) := by
  unfold rg at *
  rw [inc32 n (by omega)]
  omega
