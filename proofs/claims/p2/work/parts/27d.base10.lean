/-! addresses of a pool -/
def hq (pd : Nat → Prop) (f : Nat → Nat) : Prop := ∀ i : Nat, pd (f i)
theorem hq_fu {pd : Nat → Prop} {f : Nat → Nat} {i a : Nat} (h : hq pd f) (ha : pd a) : hq pd (fu f i a) := fun j => by
  unfold fu
  by_cases e : j = i
  · rw [if_pos e]; exact ha
  · rw [if_neg e]; exact h j
