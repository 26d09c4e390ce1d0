/-! many numbers by one function -/
def pk (l : List Nat) : Nat → Nat := fun i => l.getD i (l.getD 0 0)
def pkI (l : List Int32) : Nat → Int32 := fun i => l.getD i 0
def pkF (l : List (Nat → Int32)) : Nat → Nat → Int32 := fun i => l.getD i (fun _ => 0)
theorem hq_pk {pd : Nat → Prop} {x : Nat} {l : List Nat} (h : ∀ q ∈ x :: l, pd q) (_ : pd x) : hq pd (pk (x :: l)) := fun i => by
  unfold pk
  rw [List.getD_eq_getElem?_getD]
  cases e : (x :: l)[i]? with
  | none => exact h x List.mem_cons_self
  | some q => exact h q (List.mem_of_getElem? e)
