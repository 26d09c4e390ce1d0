/-! THE CLAIM OUT OF ONE WALK OF THE LAW'S BODY. Your part is whole_start (and what it stands on); all else here is the same for every law, but numbers. -/
def R_law : String := "LateFallsLaw"
def lw_P (b : Addr) (xs : List Int32) (args : Array Value) (s : State) : Prop := args = #[.ref b] ∧ s.IntsAt b xs ∧ xs.length ≤ 3584 ∧ (Jvm.Cond.and given_1 narrow_1).before args s = true
def lw_Q (_ : Array Value) (s : State) (o : Outcome) (t : State) : Prop := o = .returned (some (.int 1)) ∧ Framed s o t [] 601024 7293034
def lw_Z (below : List Frame) (a : Array Value) (s : State) : State → Prop := fun t => ∃ o, t.status = .running ∧ Ended t below o ∧ lw_Q a s o t
/-- the law's own end, with 1 on the stack, nothing written that was there before, its room as the claim has it -/
theorem lw_ret {p : Program} {l : Launch} {e : Env} {s : State} {m : MethodId} {below : List Frame} {meth : Method} {c : Code} {b : Nat} (hx : p.tables.exec = Jvm.exec) (hb : c.code = code) (hr : meth.sig.returnType = ret) (hlocks : meth.locks = false) {pc : Nat} {H : Heap} {ls : Array Slot} (hdg : decode code pc = .ok (.ireturn, 1)) : W p l e room_1 s m #[Value.ref b] below meth c H [] 601024 7293034 (lw_Z below #[Value.ref b] s) (F0 m pc ls [.int 1]) := by
  intro T hT X
  obtain ⟨fs, hret, hrun, hended, hW, hframe⟩ := X.leave (v := some (.int 1)) (hlocks := hlocks) (fun h => by rw [hr] at h; cases h)
  have hmeth' : T.vm.method? m = some meth := X.method'
  refine ⟨T.setFrames fs, ?_, .returned (some (.int 1)), hrun, hended, rfl, ⟨_, rfl⟩, hW, hframe⟩
  jvm_step X.here [X.here.top, hx, hb, hdg, hmeth', hr, ret, narrow_b1]
  (try refine ⟨rfl, ?_⟩); (try refine ⟨rfl, ?_⟩)
  first | (intro acts; rw [hret _ acts rfl rfl rfl]) | rw [hret _ _ rfl rfl rfl]
  exact Steps.refl _
/-- what holds at the law's entry: the machine, the code, the tables' words (any of lw_tbl by 'hts w (by decide +kernel)'), the script of L ints xs at the cell b, what the Statement gives of the start (any of its parts by flat_of_before) -/
def lw_At (p : Program) (s : State) (m : MethodId) (meth : Method) (c : Code) (b L : Nat) (xs : Nat → Int32) : Prop :=
  p.tables.exec = Jvm.exec ∧ c.code = code ∧ meth.sig.returnType = ret ∧ c.maxLocals = 8 ∧ s.vm.findClass R_law = some m.cls ∧ (∀ w ∈ lw_tbl, w.before #[Value.ref b] s = true) ∧ va_X b L xs s s.heap ∧ b < s.heap.size ∧ meth.locks = false ∧ (Jvm.Cond.and given_1 narrow_1).before #[Value.ref b] s = true
theorem sw_0_46 (x : Int32) : x = 0 ∨ x = 1 ∨ x = 2 ∨ x = 3 ∨ x = 4 ∨ x = 5 ∨ x = 6 ∨ x = 7 ∨ x = 8 ∨ x = 9 ∨ x = 10 ∨ x = 11 ∨ x = 12 ∨ x = 13 ∨ x = 14 ∨ x = 15 ∨ x = 16 ∨ x = 17 ∨ x = 18 ∨ x = 19 ∨ x = 20 ∨ x = 21 ∨ x = 22 ∨ x = 23 ∨ x = 24 ∨ x = 25 ∨ x = 26 ∨ x = 27 ∨ x = 28 ∨ x = 29 ∨ x = 30 ∨ x = 31 ∨ x = 32 ∨ x = 33 ∨ x = 34 ∨ x = 35 ∨ x = 36 ∨ x = 37 ∨ x = 38 ∨ x = 39 ∨ x = 40 ∨ x = 41 ∨ x = 42 ∨ x = 43 ∨ x = 44 ∨ x = 45 ∨ x = 46 ∨ (x.toInt < 0 ∨ 46 < x.toInt) := by
  by_cases h : 0 ≤ x.toInt ∧ x.toInt ≤ 46
  · obtain ⟨j, hj, rfl⟩ := vp_in_of (vp_in_iff.mpr ⟨h.1, by omega⟩ : vp_in x 47) (by decide)
    clear h
    match j, hj with
    | 0, _ => exact (Or.inl (by decide))
    | 1, _ => exact Or.inr ((Or.inl (by decide)))
    | 2, _ => exact Or.inr (Or.inr ((Or.inl (by decide))))
    | 3, _ => exact Or.inr (Or.inr (Or.inr ((Or.inl (by decide)))))
    | 4, _ => exact Or.inr (Or.inr (Or.inr (Or.inr ((Or.inl (by decide))))))
    | 5, _ => exact Or.inr (Or.inr (Or.inr (Or.inr (Or.inr ((Or.inl (by decide)))))))
    | 6, _ => exact Or.inr (Or.inr (Or.inr (Or.inr (Or.inr (Or.inr ((Or.inl (by decide))))))))
    | 7, _ => exact Or.inr (Or.inr (Or.inr (Or.inr (Or.inr (Or.inr (Or.inr ((Or.inl (by decide)))))))))
    | 8, _ => exact Or.inr (Or.inr (Or.inr (Or.inr (Or.inr (Or.inr (Or.inr (Or.inr ((Or.inl (by decide))))))))))
    | 9, _ => exact Or.inr (Or.inr (Or.inr (Or.inr (Or.inr (Or.inr (Or.inr (Or.inr (Or.inr ((Or.inl (by decide)))))))))))
    | 10, _ => exact Or.inr (Or.inr (Or.inr (Or.inr (Or.inr (Or.inr (Or.inr (Or.inr (Or.inr (Or.inr ((Or.inl (by decide))))))))))))
    | 11, _ => exact Or.inr (Or.inr (Or.inr (Or.inr (Or.inr (Or.inr (Or.inr (Or.inr (Or.inr (Or.inr (Or.inr ((Or.inl (by decide)))))))))))))
    | 12, _ => exact Or.inr (Or.inr (Or.inr (Or.inr (Or.inr (Or.inr (Or.inr (Or.inr (Or.inr (Or.inr (Or.inr (Or.inr ((Or.inl (by decide))))))))))))))
    | 13, _ => exact Or.inr (Or.inr (Or.inr (Or.inr (Or.inr (Or.inr (Or.inr (Or.inr (Or.inr (Or.inr (Or.inr (Or.inr (Or.inr ((Or.inl (by decide)))))))))))))))
    | 14, _ => exact Or.inr (Or.inr (Or.inr (Or.inr (Or.inr (Or.inr (Or.inr (Or.inr (Or.inr (Or.inr (Or.inr (Or.inr (Or.inr (Or.inr ((Or.inl (by decide))))))))))))))))
    | 15, _ => exact Or.inr (Or.inr (Or.inr (Or.inr (Or.inr (Or.inr (Or.inr (Or.inr (Or.inr (Or.inr (Or.inr (Or.inr (Or.inr (Or.inr (Or.inr ((Or.inl (by decide)))))))))))))))))
    | 16, _ => exact Or.inr (Or.inr (Or.inr (Or.inr (Or.inr (Or.inr (Or.inr (Or.inr (Or.inr (Or.inr (Or.inr (Or.inr (Or.inr (Or.inr (Or.inr (Or.inr ((Or.inl (by decide))))))))))))))))))
    | 17, _ => exact Or.inr (Or.inr (Or.inr (Or.inr (Or.inr (Or.inr (Or.inr (Or.inr (Or.inr (Or.inr (Or.inr (Or.inr (Or.inr (Or.inr (Or.inr (Or.inr (Or.inr ((Or.inl (by decide)))))))))))))))))))
    | 18, _ => exact Or.inr (Or.inr (Or.inr (Or.inr (Or.inr (Or.inr (Or.inr (Or.inr (Or.inr (Or.inr (Or.inr (Or.inr (Or.inr (Or.inr (Or.inr (Or.inr (Or.inr (Or.inr ((Or.inl (by decide))))))))))))))))))))
    | 19, _ => exact Or.inr (Or.inr (Or.inr (Or.inr (Or.inr (Or.inr (Or.inr (Or.inr (Or.inr (Or.inr (Or.inr (Or.inr (Or.inr (Or.inr (Or.inr (Or.inr (Or.inr (Or.inr (Or.inr ((Or.inl (by decide)))))))))))))))))))))
    | 20, _ => exact Or.inr (Or.inr (Or.inr (Or.inr (Or.inr (Or.inr (Or.inr (Or.inr (Or.inr (Or.inr (Or.inr (Or.inr (Or.inr (Or.inr (Or.inr (Or.inr (Or.inr (Or.inr (Or.inr (Or.inr ((Or.inl (by decide))))))))))))))))))))))
    | 21, _ => exact Or.inr (Or.inr (Or.inr (Or.inr (Or.inr (Or.inr (Or.inr (Or.inr (Or.inr (Or.inr (Or.inr (Or.inr (Or.inr (Or.inr (Or.inr (Or.inr (Or.inr (Or.inr (Or.inr (Or.inr (Or.inr ((Or.inl (by decide)))))))))))))))))))))))
    | 22, _ => exact Or.inr (Or.inr (Or.inr (Or.inr (Or.inr (Or.inr (Or.inr (Or.inr (Or.inr (Or.inr (Or.inr (Or.inr (Or.inr (Or.inr (Or.inr (Or.inr (Or.inr (Or.inr (Or.inr (Or.inr (Or.inr (Or.inr ((Or.inl (by decide))))))))))))))))))))))))
    | 23, _ => exact Or.inr (Or.inr (Or.inr (Or.inr (Or.inr (Or.inr (Or.inr (Or.inr (Or.inr (Or.inr (Or.inr (Or.inr (Or.inr (Or.inr (Or.inr (Or.inr (Or.inr (Or.inr (Or.inr (Or.inr (Or.inr (Or.inr (Or.inr ((Or.inl (by decide)))))))))))))))))))))))))
    | 24, _ => exact Or.inr (Or.inr (Or.inr (Or.inr (Or.inr (Or.inr (Or.inr (Or.inr (Or.inr (Or.inr (Or.inr (Or.inr (Or.inr (Or.inr (Or.inr (Or.inr (Or.inr (Or.inr (Or.inr (Or.inr (Or.inr (Or.inr (Or.inr (Or.inr ((Or.inl (by decide))))))))))))))))))))))))))
    | 25, _ => exact Or.inr (Or.inr (Or.inr (Or.inr (Or.inr (Or.inr (Or.inr (Or.inr (Or.inr (Or.inr (Or.inr (Or.inr (Or.inr (Or.inr (Or.inr (Or.inr (Or.inr (Or.inr (Or.inr (Or.inr (Or.inr (Or.inr (Or.inr (Or.inr (Or.inr ((Or.inl (by decide)))))))))))))))))))))))))))
    | 26, _ => exact Or.inr (Or.inr (Or.inr (Or.inr (Or.inr (Or.inr (Or.inr (Or.inr (Or.inr (Or.inr (Or.inr (Or.inr (Or.inr (Or.inr (Or.inr (Or.inr (Or.inr (Or.inr (Or.inr (Or.inr (Or.inr (Or.inr (Or.inr (Or.inr (Or.inr (Or.inr ((Or.inl (by decide))))))))))))))))))))))))))))
    | 27, _ => exact Or.inr (Or.inr (Or.inr (Or.inr (Or.inr (Or.inr (Or.inr (Or.inr (Or.inr (Or.inr (Or.inr (Or.inr (Or.inr (Or.inr (Or.inr (Or.inr (Or.inr (Or.inr (Or.inr (Or.inr (Or.inr (Or.inr (Or.inr (Or.inr (Or.inr (Or.inr (Or.inr ((Or.inl (by decide)))))))))))))))))))))))))))))
    | 28, _ => exact Or.inr (Or.inr (Or.inr (Or.inr (Or.inr (Or.inr (Or.inr (Or.inr (Or.inr (Or.inr (Or.inr (Or.inr (Or.inr (Or.inr (Or.inr (Or.inr (Or.inr (Or.inr (Or.inr (Or.inr (Or.inr (Or.inr (Or.inr (Or.inr (Or.inr (Or.inr (Or.inr (Or.inr ((Or.inl (by decide))))))))))))))))))))))))))))))
    | 29, _ => exact Or.inr (Or.inr (Or.inr (Or.inr (Or.inr (Or.inr (Or.inr (Or.inr (Or.inr (Or.inr (Or.inr (Or.inr (Or.inr (Or.inr (Or.inr (Or.inr (Or.inr (Or.inr (Or.inr (Or.inr (Or.inr (Or.inr (Or.inr (Or.inr (Or.inr (Or.inr (Or.inr (Or.inr (Or.inr ((Or.inl (by decide)))))))))))))))))))))))))))))))
    | 30, _ => exact Or.inr (Or.inr (Or.inr (Or.inr (Or.inr (Or.inr (Or.inr (Or.inr (Or.inr (Or.inr (Or.inr (Or.inr (Or.inr (Or.inr (Or.inr (Or.inr (Or.inr (Or.inr (Or.inr (Or.inr (Or.inr (Or.inr (Or.inr (Or.inr (Or.inr (Or.inr (Or.inr (Or.inr (Or.inr (Or.inr ((Or.inl (by decide))))))))))))))))))))))))))))))))
    | 31, _ => exact Or.inr (Or.inr (Or.inr (Or.inr (Or.inr (Or.inr (Or.inr (Or.inr (Or.inr (Or.inr (Or.inr (Or.inr (Or.inr (Or.inr (Or.inr (Or.inr (Or.inr (Or.inr (Or.inr (Or.inr (Or.inr (Or.inr (Or.inr (Or.inr (Or.inr (Or.inr (Or.inr (Or.inr (Or.inr (Or.inr (Or.inr ((Or.inl (by decide)))))))))))))))))))))))))))))))))
    | 32, _ => exact Or.inr (Or.inr (Or.inr (Or.inr (Or.inr (Or.inr (Or.inr (Or.inr (Or.inr (Or.inr (Or.inr (Or.inr (Or.inr (Or.inr (Or.inr (Or.inr (Or.inr (Or.inr (Or.inr (Or.inr (Or.inr (Or.inr (Or.inr (Or.inr (Or.inr (Or.inr (Or.inr (Or.inr (Or.inr (Or.inr (Or.inr (Or.inr ((Or.inl (by decide))))))))))))))))))))))))))))))))))
    | 33, _ => exact Or.inr (Or.inr (Or.inr (Or.inr (Or.inr (Or.inr (Or.inr (Or.inr (Or.inr (Or.inr (Or.inr (Or.inr (Or.inr (Or.inr (Or.inr (Or.inr (Or.inr (Or.inr (Or.inr (Or.inr (Or.inr (Or.inr (Or.inr (Or.inr (Or.inr (Or.inr (Or.inr (Or.inr (Or.inr (Or.inr (Or.inr (Or.inr (Or.inr ((Or.inl (by decide)))))))))))))))))))))))))))))))))))
    | 34, _ => exact Or.inr (Or.inr (Or.inr (Or.inr (Or.inr (Or.inr (Or.inr (Or.inr (Or.inr (Or.inr (Or.inr (Or.inr (Or.inr (Or.inr (Or.inr (Or.inr (Or.inr (Or.inr (Or.inr (Or.inr (Or.inr (Or.inr (Or.inr (Or.inr (Or.inr (Or.inr (Or.inr (Or.inr (Or.inr (Or.inr (Or.inr (Or.inr (Or.inr (Or.inr ((Or.inl (by decide))))))))))))))))))))))))))))))))))))
    | 35, _ => exact Or.inr (Or.inr (Or.inr (Or.inr (Or.inr (Or.inr (Or.inr (Or.inr (Or.inr (Or.inr (Or.inr (Or.inr (Or.inr (Or.inr (Or.inr (Or.inr (Or.inr (Or.inr (Or.inr (Or.inr (Or.inr (Or.inr (Or.inr (Or.inr (Or.inr (Or.inr (Or.inr (Or.inr (Or.inr (Or.inr (Or.inr (Or.inr (Or.inr (Or.inr (Or.inr ((Or.inl (by decide)))))))))))))))))))))))))))))))))))))
    | 36, _ => exact Or.inr (Or.inr (Or.inr (Or.inr (Or.inr (Or.inr (Or.inr (Or.inr (Or.inr (Or.inr (Or.inr (Or.inr (Or.inr (Or.inr (Or.inr (Or.inr (Or.inr (Or.inr (Or.inr (Or.inr (Or.inr (Or.inr (Or.inr (Or.inr (Or.inr (Or.inr (Or.inr (Or.inr (Or.inr (Or.inr (Or.inr (Or.inr (Or.inr (Or.inr (Or.inr (Or.inr ((Or.inl (by decide))))))))))))))))))))))))))))))))))))))
    | 37, _ => exact Or.inr (Or.inr (Or.inr (Or.inr (Or.inr (Or.inr (Or.inr (Or.inr (Or.inr (Or.inr (Or.inr (Or.inr (Or.inr (Or.inr (Or.inr (Or.inr (Or.inr (Or.inr (Or.inr (Or.inr (Or.inr (Or.inr (Or.inr (Or.inr (Or.inr (Or.inr (Or.inr (Or.inr (Or.inr (Or.inr (Or.inr (Or.inr (Or.inr (Or.inr (Or.inr (Or.inr (Or.inr ((Or.inl (by decide)))))))))))))))))))))))))))))))))))))))
    | 38, _ => exact Or.inr (Or.inr (Or.inr (Or.inr (Or.inr (Or.inr (Or.inr (Or.inr (Or.inr (Or.inr (Or.inr (Or.inr (Or.inr (Or.inr (Or.inr (Or.inr (Or.inr (Or.inr (Or.inr (Or.inr (Or.inr (Or.inr (Or.inr (Or.inr (Or.inr (Or.inr (Or.inr (Or.inr (Or.inr (Or.inr (Or.inr (Or.inr (Or.inr (Or.inr (Or.inr (Or.inr (Or.inr (Or.inr ((Or.inl (by decide))))))))))))))))))))))))))))))))))))))))
    | 39, _ => exact Or.inr (Or.inr (Or.inr (Or.inr (Or.inr (Or.inr (Or.inr (Or.inr (Or.inr (Or.inr (Or.inr (Or.inr (Or.inr (Or.inr (Or.inr (Or.inr (Or.inr (Or.inr (Or.inr (Or.inr (Or.inr (Or.inr (Or.inr (Or.inr (Or.inr (Or.inr (Or.inr (Or.inr (Or.inr (Or.inr (Or.inr (Or.inr (Or.inr (Or.inr (Or.inr (Or.inr (Or.inr (Or.inr (Or.inr ((Or.inl (by decide)))))))))))))))))))))))))))))))))))))))))
    | 40, _ => exact Or.inr (Or.inr (Or.inr (Or.inr (Or.inr (Or.inr (Or.inr (Or.inr (Or.inr (Or.inr (Or.inr (Or.inr (Or.inr (Or.inr (Or.inr (Or.inr (Or.inr (Or.inr (Or.inr (Or.inr (Or.inr (Or.inr (Or.inr (Or.inr (Or.inr (Or.inr (Or.inr (Or.inr (Or.inr (Or.inr (Or.inr (Or.inr (Or.inr (Or.inr (Or.inr (Or.inr (Or.inr (Or.inr (Or.inr (Or.inr ((Or.inl (by decide))))))))))))))))))))))))))))))))))))))))))
    | 41, _ => exact Or.inr (Or.inr (Or.inr (Or.inr (Or.inr (Or.inr (Or.inr (Or.inr (Or.inr (Or.inr (Or.inr (Or.inr (Or.inr (Or.inr (Or.inr (Or.inr (Or.inr (Or.inr (Or.inr (Or.inr (Or.inr (Or.inr (Or.inr (Or.inr (Or.inr (Or.inr (Or.inr (Or.inr (Or.inr (Or.inr (Or.inr (Or.inr (Or.inr (Or.inr (Or.inr (Or.inr (Or.inr (Or.inr (Or.inr (Or.inr (Or.inr ((Or.inl (by decide)))))))))))))))))))))))))))))))))))))))))))
    | 42, _ => exact Or.inr (Or.inr (Or.inr (Or.inr (Or.inr (Or.inr (Or.inr (Or.inr (Or.inr (Or.inr (Or.inr (Or.inr (Or.inr (Or.inr (Or.inr (Or.inr (Or.inr (Or.inr (Or.inr (Or.inr (Or.inr (Or.inr (Or.inr (Or.inr (Or.inr (Or.inr (Or.inr (Or.inr (Or.inr (Or.inr (Or.inr (Or.inr (Or.inr (Or.inr (Or.inr (Or.inr (Or.inr (Or.inr (Or.inr (Or.inr (Or.inr (Or.inr ((Or.inl (by decide))))))))))))))))))))))))))))))))))))))))))))
    | 43, _ => exact Or.inr (Or.inr (Or.inr (Or.inr (Or.inr (Or.inr (Or.inr (Or.inr (Or.inr (Or.inr (Or.inr (Or.inr (Or.inr (Or.inr (Or.inr (Or.inr (Or.inr (Or.inr (Or.inr (Or.inr (Or.inr (Or.inr (Or.inr (Or.inr (Or.inr (Or.inr (Or.inr (Or.inr (Or.inr (Or.inr (Or.inr (Or.inr (Or.inr (Or.inr (Or.inr (Or.inr (Or.inr (Or.inr (Or.inr (Or.inr (Or.inr (Or.inr (Or.inr ((Or.inl (by decide)))))))))))))))))))))))))))))))))))))))))))))
    | 44, _ => exact Or.inr (Or.inr (Or.inr (Or.inr (Or.inr (Or.inr (Or.inr (Or.inr (Or.inr (Or.inr (Or.inr (Or.inr (Or.inr (Or.inr (Or.inr (Or.inr (Or.inr (Or.inr (Or.inr (Or.inr (Or.inr (Or.inr (Or.inr (Or.inr (Or.inr (Or.inr (Or.inr (Or.inr (Or.inr (Or.inr (Or.inr (Or.inr (Or.inr (Or.inr (Or.inr (Or.inr (Or.inr (Or.inr (Or.inr (Or.inr (Or.inr (Or.inr (Or.inr (Or.inr ((Or.inl (by decide))))))))))))))))))))))))))))))))))))))))))))))
    | 45, _ => exact Or.inr (Or.inr (Or.inr (Or.inr (Or.inr (Or.inr (Or.inr (Or.inr (Or.inr (Or.inr (Or.inr (Or.inr (Or.inr (Or.inr (Or.inr (Or.inr (Or.inr (Or.inr (Or.inr (Or.inr (Or.inr (Or.inr (Or.inr (Or.inr (Or.inr (Or.inr (Or.inr (Or.inr (Or.inr (Or.inr (Or.inr (Or.inr (Or.inr (Or.inr (Or.inr (Or.inr (Or.inr (Or.inr (Or.inr (Or.inr (Or.inr (Or.inr (Or.inr (Or.inr (Or.inr ((Or.inl (by decide)))))))))))))))))))))))))))))))))))))))))))))))
    | 46, _ => exact Or.inr (Or.inr (Or.inr (Or.inr (Or.inr (Or.inr (Or.inr (Or.inr (Or.inr (Or.inr (Or.inr (Or.inr (Or.inr (Or.inr (Or.inr (Or.inr (Or.inr (Or.inr (Or.inr (Or.inr (Or.inr (Or.inr (Or.inr (Or.inr (Or.inr (Or.inr (Or.inr (Or.inr (Or.inr (Or.inr (Or.inr (Or.inr (Or.inr (Or.inr (Or.inr (Or.inr (Or.inr (Or.inr (Or.inr (Or.inr (Or.inr (Or.inr (Or.inr (Or.inr (Or.inr (Or.inr ((Or.inl (by decide))))))))))))))))))))))))))))))))))))))))))))))))
    | k + 47, hk => exact absurd hk (by omega)
  · exact Or.inr (Or.inr (Or.inr (Or.inr (Or.inr (Or.inr (Or.inr (Or.inr (Or.inr (Or.inr (Or.inr (Or.inr (Or.inr (Or.inr (Or.inr (Or.inr (Or.inr (Or.inr (Or.inr (Or.inr (Or.inr (Or.inr (Or.inr (Or.inr (Or.inr (Or.inr (Or.inr (Or.inr (Or.inr (Or.inr (Or.inr (Or.inr (Or.inr (Or.inr (Or.inr (Or.inr (Or.inr (Or.inr (Or.inr (Or.inr (Or.inr (Or.inr (Or.inr (Or.inr (Or.inr (Or.inr (Or.inr ((by omega))))))))))))))))))))))))))))))))))))))))))))))))
set_option maxHeartbeats 4000000 in
set_option maxRecDepth 100000 in
theorem law_sw (l : Launch) (hlt : l.stackTraces = false) {p : Program} {e : Env} {s : State} {m : MethodId} {below : List Frame} {meth : Method} {c : Code} {D : va_G} {cy : Nat → ClassId} {A : Nat → Prop} {b L : Nat} {xs : Nat → Int32} {Q : State → Prop} (hX : Ex p s m #[Value.ref b] meth c code ret 8 RL) (hE : Ew D cy A s) (hXs : va_X b L xs s s.heap) (hbl : b < s.heap.size) (hbA : ¬ A b) {nx nm no : Nat} {h : Int} {S : CSt} {M : MSt} {Wc Wm : va_W} {g : Nat → Int64} {kc ks : Nat} {i_ : Int32} {H : Heap} {locs : List Loc} {ls : Array Slot} (hI : IC cy nx S Wc) (hM : IMo cy nm h M Wm) (hR : RSM S M) (hlo : 999 ≤ h) (hhi : h + 2000 ≤ 1000000) (hkc : (kc : Int) + 2 * S.1.1.toInt ≤ 500000) (hks : (ks : Int) + 471 * S.1.1.toInt ≤ 7000000) (hi : 0 ≤ i_.toInt ∧ i_.toInt + 7 ≤ L ∧ L ≤ 3584) (hP : va_P D vwCl ((no, .inl (cy 2, 1, .inr (.inl g))) :: (Wm ++ Wc)) H) (hD : va_D A ((no, .inl (cy 2, 1, .inr (.inl g))) :: (Wm ++ Wc))) (hS : va_S A s.heap H locs) (hl : lv_has ls 8 [(4, .int i_), (3, .ref no), (2, .ref nm), (1, .ref nx), (0, .ref b)]) (kk : ∀ (S2 : CSt) (M2 : MSt) (W2 Wm2 : va_W) (g2 : Nat → Int64) (kc2 ks2 : Nat) (H : Heap) (locs : List Loc) (ls : Array Slot), IC cy nx S2 W2 → IMo cy nm (h + 900) M2 Wm2 → RSM S2 M2 → (kc2 : Int) + 2 * S2.1.1.toInt ≤ kc + 2 * S.1.1.toInt + 200 → (ks2 : Int) + 471 * S2.1.1.toInt ≤ ks + 471 * S.1.1.toInt + 9420 → va_P D vwCl ((no, .inl (cy 2, 1, .inr (.inl g2))) :: (Wm2 ++ W2)) H → va_D A ((no, .inl (cy 2, 1, .inr (.inl g2))) :: (Wm2 ++ W2)) → va_S A s.heap H locs → lv_has ls 8 [(4, .int i_), (3, .ref no), (2, .ref nm), (1, .ref nx), (0, .ref b)] → W p l e room_1 s m #[Value.ref b] below meth c H locs kc2 ks2 Q (F0 m 2177 ls [])) (y : Int32) : W p l e room_1 s m #[Value.ref b] below meth c H locs kc ks Q (F0 m 40 ls [.int y]) := by
  obtain ⟨hx, hb, hr, hml, hown, htA, hlk⟩ := id hX
  have hT0 := IC_T hI
  rcases sw_0_46 y with rfl | rfl | rfl | rfl | rfl | rfl | rfl | rfl | rfl | rfl | rfl | rfl | rfl | rfl | rfl | rfl | rfl | rfl | rfl | rfl | rfl | rfl | rfl | rfl | rfl | rfl | rfl | rfl | rfl | rfl | rfl | rfl | rfl | rfl | rfl | rfl | rfl | rfl | rfl | rfl | rfl | rfl | rfl | rfl | rfl | rfl | rfl | hy
  · refine lv_tableIn (tgt := 244) hx hb dL_law_40 (by decide) (by decide) rfl (by decide) ?_
    exact cs_0 l hlt hX hE hXs hbl hbA hI hM hR hlo hhi hkc hks hi hP hD hS hl kk
  · refine lv_tableIn (tgt := 317) hx hb dL_law_40 (by decide) (by decide) rfl (by decide) ?_
    exact cs_1 l hlt hX hE hXs hbl hbA hI hM hR hlo hhi hkc hks hi hP hD hS hl kk
  · refine lv_tableIn (tgt := 345) hx hb dL_law_40 (by decide) (by decide) rfl (by decide) ?_
    exact cs_2 l hlt hX hE hXs hbl hbA hI hM hR hlo hhi hkc hks hi hP hD hS hl kk
  · refine lv_tableIn (tgt := 370) hx hb dL_law_40 (by decide) (by decide) rfl (by decide) ?_
    exact cs_3 l hlt hX hE hXs hbl hbA hI hM hR hlo hhi hkc hks hi hP hD hS hl kk
  · refine lv_tableIn (tgt := 410) hx hb dL_law_40 (by decide) (by decide) rfl (by decide) ?_
    exact cs_4 l hlt hX hE hXs hbl hbA hI hM hR hlo hhi hkc hks hi hP hD hS hl kk
  · refine lv_tableIn (tgt := 450) hx hb dL_law_40 (by decide) (by decide) rfl (by decide) ?_
    exact cs_5 l hlt hX hE hXs hbl hbA hI hM hR hlo hhi hkc hks hi hP hD hS hl kk
  · refine lv_tableIn (tgt := 478) hx hb dL_law_40 (by decide) (by decide) rfl (by decide) ?_
    exact cs_6 l hlt hX hE hXs hbl hbA hI hM hR hlo hhi hkc hks hi hP hD hS hl kk
  · refine lv_tableIn (tgt := 518) hx hb dL_law_40 (by decide) (by decide) rfl (by decide) ?_
    exact cs_7 l hlt hX hE hXs hbl hbA hI hM hR hlo hhi hkc hks hi hP hD hS hl kk
  · refine lv_tableIn (tgt := 582) hx hb dL_law_40 (by decide) (by decide) rfl (by decide) ?_
    exact cs_8 l hlt hX hE hXs hbl hbA hI hM hR hlo hhi hkc hks hi hP hD hS hl kk
  · refine lv_tableIn (tgt := 631) hx hb dL_law_40 (by decide) (by decide) rfl (by decide) ?_
    exact cs_9 l hlt hX hE hXs hbl hbA hI hM hR hlo hhi hkc hks hi hP hD hS hl kk
  · refine lv_tableIn (tgt := 656) hx hb dL_law_40 (by decide) (by decide) rfl (by decide) ?_
    exact cs_10 l hlt hX hE hXs hbl hbA hI hM hR hlo hhi hkc hks hi hP hD hS hl kk
  · refine lv_tableIn (tgt := 669) hx hb dL_law_40 (by decide) (by decide) rfl (by decide) ?_
    exact cs_11 l hlt hX hE hXs hbl hbA hI hM hR hlo hhi hkc hks hi hP hD hS hl kk
  · refine lv_tableIn (tgt := 697) hx hb dL_law_40 (by decide) (by decide) rfl (by decide) ?_
    exact cs_12 l hlt hX hE hXs hbl hbA hI hM hR hlo hhi hkc hks hi hP hD hS hl kk
  · refine lv_tableIn (tgt := 725) hx hb dL_law_40 (by decide) (by decide) rfl (by decide) ?_
    exact cs_13 l hlt hX hE hXs hbl hbA hI hM hR hlo hhi hkc hks hi hP hD hS hl kk
  · refine lv_tableIn (tgt := 765) hx hb dL_law_40 (by decide) (by decide) rfl (by decide) ?_
    exact cs_14 l hlt hX hE hXs hbl hbA hI hM hR hlo hhi hkc hks hi hP hD hS hl kk
  · refine lv_tableIn (tgt := 793) hx hb dL_law_40 (by decide) (by decide) rfl (by decide) ?_
    exact cs_15 l hlt hX hE hXs hbl hbA hI hM hR hlo hhi hkc hks hi hP hD hS hl kk
  · refine lv_tableIn (tgt := 833) hx hb dL_law_40 (by decide) (by decide) rfl (by decide) ?_
    exact cs_16 l hlt hX hE hXs hbl hbA hI hM hR hlo hhi hkc hks hi hP hD hS hl kk
  · refine lv_tableIn (tgt := 861) hx hb dL_law_40 (by decide) (by decide) rfl (by decide) ?_
    exact cs_17 l hlt hX hE hXs hbl hbA hI hM hR hlo hhi hkc hks hi hP hD hS hl kk
  · refine lv_tableIn (tgt := 889) hx hb dL_law_40 (by decide) (by decide) rfl (by decide) ?_
    exact cs_18 l hlt hX hE hXs hbl hbA hI hM hR hlo hhi hkc hks hi hP hD hS hl kk
  · refine lv_tableIn (tgt := 917) hx hb dL_law_40 (by decide) (by decide) rfl (by decide) ?_
    exact cs_19 l hlt hX hE hXs hbl hbA hI hM hR hlo hhi hkc hks hi hP hD hS hl kk
  · refine lv_tableIn (tgt := 930) hx hb dL_law_40 (by decide) (by decide) rfl (by decide) ?_
    exact cs_20 l hlt hX hE hXs hbl hbA hI hM hR hlo hhi hkc hks hi hP hD hS hl kk
  · refine lv_tableIn (tgt := 943) hx hb dL_law_40 (by decide) (by decide) rfl (by decide) ?_
    exact cs_21 l hlt hX hE hXs hbl hbA hI hM hR hlo hhi hkc hks hi hP hD hS hl kk
  · refine lv_tableIn (tgt := 971) hx hb dL_law_40 (by decide) (by decide) rfl (by decide) ?_
    exact cs_22 l hlt hX hE hXs hbl hbA hI hM hR hlo hhi hkc hks hi hP hD hS hl kk
  · refine lv_tableIn (tgt := 1011) hx hb dL_law_40 (by decide) (by decide) rfl (by decide) ?_
    exact cs_23 l hlt hX hE hXs hbl hbA hI hM hR hlo hhi hkc hks hi hP hD hS hl kk
  · refine lv_tableIn (tgt := 1039) hx hb dL_law_40 (by decide) (by decide) rfl (by decide) ?_
    exact cs_24 l hlt hX hE hXs hbl hbA hI hM hR hlo hhi hkc hks hi hP hD hS hl kk
  · refine lv_tableIn (tgt := 1067) hx hb dL_law_40 (by decide) (by decide) rfl (by decide) ?_
    exact cs_25 l hlt hX hE hXs hbl hbA hI hM hR hlo hhi hkc hks hi hP hD hS hl kk
  · refine lv_tableIn (tgt := 1107) hx hb dL_law_40 (by decide) (by decide) rfl (by decide) ?_
    exact cs_26 l hlt hX hE hXs hbl hbA hI hM hR hlo hhi hkc hks hi hP hD hS hl kk
  · refine lv_tableIn (tgt := 1171) hx hb dL_law_40 (by decide) (by decide) rfl (by decide) ?_
    exact cs_27 l hlt hX hE hXs hbl hbA hI hM hR hlo hhi hkc hks hi hP hD hS hl kk
  · refine lv_tableIn (tgt := 1235) hx hb dL_law_40 (by decide) (by decide) rfl (by decide) ?_
    exact cs_28 l hlt hX hE hXs hbl hbA hI hM hR hlo hhi hkc hks hi hP hD hS hl kk
  · refine lv_tableIn (tgt := 1287) hx hb dL_law_40 (by decide) (by decide) rfl (by decide) ?_
    exact cs_29 l hlt hX hE hXs hbl hbA hI hM hR hlo hhi hkc hks hi hP hD hS hl kk
  · refine lv_tableIn (tgt := 1351) hx hb dL_law_40 (by decide) (by decide) rfl (by decide) ?_
    exact cs_30 l hlt hX hE hXs hbl hbA hI hM hR hlo hhi hkc hks hi hP hD hS hl kk
  · refine lv_tableIn (tgt := 1407) hx hb dL_law_40 (by decide) (by decide) rfl (by decide) ?_
    exact cs_31 l hlt hX hE hXs hbl hbA hI hM hR hlo hhi hkc hks hi hP hD hS hl kk
  · refine lv_tableIn (tgt := 1447) hx hb dL_law_40 (by decide) (by decide) rfl (by decide) ?_
    exact cs_32 l hlt hX hE hXs hbl hbA hI hM hR hlo hhi hkc hks hi hP hD hS hl kk
  · refine lv_tableIn (tgt := 1537) hx hb dL_law_40 (by decide) (by decide) rfl (by decide) ?_
    exact cs_33 l hlt hX hE hXs hbl hbA hI hM hR hlo hhi hkc hks hi hP hD hS hl kk
  · refine lv_tableIn (tgt := 1589) hx hb dL_law_40 (by decide) (by decide) rfl (by decide) ?_
    exact cs_34 l hlt hX hE hXs hbl hbA hI hM hR hlo hhi hkc hks hi hP hD hS hl kk
  · refine lv_tableIn (tgt := 1641) hx hb dL_law_40 (by decide) (by decide) rfl (by decide) ?_
    exact cs_35 l hlt hX hE hXs hbl hbA hI hM hR hlo hhi hkc hks hi hP hD hS hl kk
  · refine lv_tableIn (tgt := 1681) hx hb dL_law_40 (by decide) (by decide) rfl (by decide) ?_
    exact cs_36 l hlt hX hE hXs hbl hbA hI hM hR hlo hhi hkc hks hi hP hD hS hl kk
  · refine lv_tableIn (tgt := 1694) hx hb dL_law_40 (by decide) (by decide) rfl (by decide) ?_
    exact cs_37 l hlt hX hE hXs hbl hbA hI hM hR hlo hhi hkc hks hi hP hD hS hl kk
  · refine lv_tableIn (tgt := 1734) hx hb dL_law_40 (by decide) (by decide) rfl (by decide) ?_
    exact cs_38 l hlt hX hE hXs hbl hbA hI hM hR hlo hhi hkc hks hi hP hD hS hl kk
  · refine lv_tableIn (tgt := 1786) hx hb dL_law_40 (by decide) (by decide) rfl (by decide) ?_
    exact cs_39 l hlt hX hE hXs hbl hbA hI hM hR hlo hhi hkc hks hi hP hD hS hl kk
  · refine lv_tableIn (tgt := 1850) hx hb dL_law_40 (by decide) (by decide) rfl (by decide) ?_
    exact cs_40 l hlt hX hE hXs hbl hbA hI hM hR hlo hhi hkc hks hi hP hD hS hl kk
  · refine lv_tableIn (tgt := 1914) hx hb dL_law_40 (by decide) (by decide) rfl (by decide) ?_
    exact cs_41 l hlt hX hE hXs hbl hbA hI hM hR hlo hhi hkc hks hi hP hD hS hl kk
  · refine lv_tableIn (tgt := 1963) hx hb dL_law_40 (by decide) (by decide) rfl (by decide) ?_
    exact cs_42 l hlt hX hE hXs hbl hbA hI hM hR hlo hhi hkc hks hi hP hD hS hl kk
  · refine lv_tableIn (tgt := 2074) hx hb dL_law_40 (by decide) (by decide) rfl (by decide) ?_
    exact cs_43 l hlt hX hE hXs hbl hbA hI hM hR hlo hhi hkc hks hi hP hD hS hl kk
  · refine lv_tableIn (tgt := 2102) hx hb dL_law_40 (by decide) (by decide) rfl (by decide) ?_
    exact cs_44 l hlt hX hE hXs hbl hbA hI hM hR hlo hhi hkc hks hi hP hD hS hl kk
  · refine lv_tableIn (tgt := 2127) hx hb dL_law_40 (by decide) (by decide) rfl (by decide) ?_
    exact cs_45 l hlt hX hE hXs hbl hbA hI hM hR hlo hhi hkc hks hi hP hD hS hl kk
  · refine lv_tableIn (tgt := 2152) hx hb dL_law_40 (by decide) (by decide) rfl (by decide) ?_
    exact cs_46 l hlt hX hE hXs hbl hbA hI hM hR hlo hhi hkc hks hi hP hD hS hl kk
  · refine lv_tableOut (tgt := 2177) hx hb dL_law_40 hy (by decide) ?_
    exact kk S M Wc Wm g kc ks H locs ls hI (IMo_pm hM (by omega) (List.Perm.refl _)) hR (by omega) (by omega) hP hD hS hl
/-- the law's end -/
theorem lw_end {p : Program} {l : Launch} {e : Env} {s : State} {m : MethodId} {below : List Frame} {meth : Method} {c : Code} {b k n : Nat} {A : Nat → Prop} {H : Heap} {locs : List Loc} {ls : Array Slot} (hx : p.tables.exec = Jvm.exec) (hb : c.code = code) (hr : meth.sig.returnType = ret) (hlk : meth.locks = false) (hAf : ∀ q : Nat, A q → s.heap.size ≤ q) (hS : va_S A s.heap H locs) (hk : k ≤ 601024) (hn : n ≤ 7293034) : W p l e room_1 s m #[Value.ref b] below meth c H locs k n (lw_Z below #[Value.ref b] s) (F0 m 2184 ls [.int 1]) :=
  va_forget (fun q hq => hAf _ (hS.2.2 q hq)) (W.widen hk hn (lw_ret hx hb hr hlk dL_law_2184))
theorem i7 {L : Nat} (hL : L ≤ 3584) : ((Int32.ofNat L) - 7).toInt = (L : Int) - 7 := by
  have h1 : (Int32.ofNat L).toInt = (L : Int) := Int32.toInt_ofNat_of_lt (by omega)
  have h7 : (7 : Int32).toInt = 7 := by decide
  rw [sub32 _ _ (by omega) (by omega), h1, h7]
theorem lwi0 {i : Int32} {L : Nat} (hi : 0 ≤ i.toInt ∧ i.toInt + 7 ≤ L ∧ L ≤ 3584) : vp_in i L := by
  rw [vp_in_iff]
  omega
set_option maxHeartbeats 4000000 in
set_option maxRecDepth 100000 in
theorem law_exit (l : Launch) {p : Program} {e : Env} {s : State} {m : MethodId} {below : List Frame} {meth : Method} {c : Code} {cy : Nat → ClassId} {A : Nat → Prop} {b L : Nat} {xs : Nat → Int32} (hX : Ex p s m #[Value.ref b] meth c code ret 8 RL) (hXs : va_X b L xs s s.heap) (hbl : b < s.heap.size) (hbA : ¬ A b) {nx nm no : Nat} (hAf : ∀ q : Nat, A q → s.heap.size ≤ q) (hL : L ≤ 3584) {S : CSt} {W1 : va_W} {kc ks : Nat} {i_ : Int32} {H : Heap} {locs : List Loc} {ls : Array Slot} (hn : (L : Int) - i_.toInt < (0 : Nat)) (hI : IC cy nx S W1) (hkc : 7 * ((kc : Int) + 2 * S.1.1.toInt) ≤ 917 + 200 * i_.toInt) (hks : 7 * ((ks : Int) + 471 * S.1.1.toInt) ≤ 122395 + 9420 * i_.toInt) (hi1 : i_.toInt ≤ 3584) (hS : va_S A s.heap H locs) (hl : lv_has ls 8 [(4, .int i_), (3, .ref no), (2, .ref nm), (1, .ref nx), (0, .ref b)]) : W p l e room_1 s m #[Value.ref b] below meth c H locs kc ks (lw_Z below #[Value.ref b] s) (F0 m 23 ls []) := by
  obtain ⟨hx, hb, hr, hml, hown, htA, hlk⟩ := id hX
  have hT0 := IC_T hI
  refine lv_iload hx hb dL_law_23 (lv_at hl 0 rfl) ?_
  refine lv_aload_n hx hb dL_law_25 rfl (lv_at hl 4 rfl) ?_
  refine va_slen hx hb hXs hbl hbA hS dL_law_26 ?_
  refine lv_bipush (v := 7) hx hb dL_law_27 (by decide) ?_
  refine lv_isub hx hb dL_law_29 ?_
  have h7 := i7 hL
  refine lv_icmp_gt (tgt := 2183) hx hb dL_law_30 (by decide) (fun q => ?_) (fun q => ?_)
  · refine lv_iconst (v := 1) hx hb dL_law_2183 (by decide) ?_
    exact lw_end hx hb hr hlk hAf hS (by omega) (by omega)
  · have q2 := Int32.le_iff_toInt_le.mp (Int32.not_lt.mp q)
    rw [h7] at q2
    omega
set_option maxHeartbeats 4000000 in
set_option maxRecDepth 100000 in
theorem law_loop (l : Launch) (hlt : l.stackTraces = false) {p : Program} {e : Env} {s : State} {m : MethodId} {below : List Frame} {meth : Method} {c : Code} {D : va_G} {cy : Nat → ClassId} {A : Nat → Prop} {b L : Nat} {xs : Nat → Int32} (hX : Ex p s m #[Value.ref b] meth c code ret 8 RL) (hE : Ew D cy A s) (hXs : va_X b L xs s s.heap) (hbl : b < s.heap.size) (hbA : ¬ A b) {nx nm no : Nat} (hAf : ∀ q : Nat, A q → s.heap.size ≤ q) (hL : L ≤ 3584) : ∀ (n : Nat) (S : CSt) (M : MSt) (h : Int) (W1 Wm : va_W) (g : Nat → Int64) (kc ks : Nat) (i_ : Int32) (H : Heap) (locs : List Loc) (ls : Array Slot), (L : Int) - i_.toInt < n → IC cy nx S W1 → IMo cy nm h M Wm → RSM S M → 999 ≤ h → 7 * h ≤ 6993 + 900 * i_.toInt → 7 * ((kc : Int) + 2 * S.1.1.toInt) ≤ 917 + 200 * i_.toInt → 7 * ((ks : Int) + 471 * S.1.1.toInt) ≤ 122395 + 9420 * i_.toInt → 0 ≤ i_.toInt → i_.toInt ≤ 3584 → va_P D vwCl ((no, .inl (cy 2, 1, .inr (.inl g))) :: (Wm ++ W1)) H → va_D A ((no, .inl (cy 2, 1, .inr (.inl g))) :: (Wm ++ W1)) → va_S A s.heap H locs → lv_has ls 8 [(4, .int i_), (3, .ref no), (2, .ref nm), (1, .ref nx), (0, .ref b)] → W p l e room_1 s m #[Value.ref b] below meth c H locs kc ks (lw_Z below #[Value.ref b] s) (F0 m 23 ls []) := by
  obtain ⟨hx, hb, hr, hml, hown, htA, hlk⟩ := id hX
  intro n
  induction n with
  | zero => intro S M h W1 Wm g kc ks i_ H locs ls hn hI hM hR hlo hh hkc hks hi0 hi1 hP hD hS hl; exact law_exit l hX hXs hbl hbA hAf hL hn hI hkc hks hi1 hS hl
  | succ n ih =>
    intro S M h W1 Wm g kc ks i_ H locs ls hn hI hM hR hlo hh hkc hks hi0 hi1 hP hD hS hl
    have hT0 := IC_T hI
    refine lv_iload hx hb dL_law_23 (lv_at hl 0 rfl) ?_
    refine lv_aload_n hx hb dL_law_25 rfl (lv_at hl 4 rfl) ?_
    refine va_slen hx hb hXs hbl hbA hS dL_law_26 ?_
    refine lv_bipush (v := 7) hx hb dL_law_27 (by decide) ?_
    refine lv_isub hx hb dL_law_29 ?_
    have h7 := i7 hL
    refine lv_icmp_gt (tgt := 2183) hx hb dL_law_30 (by decide) (fun q => ?_) (fun q => ?_)
    · refine lv_iconst (v := 1) hx hb dL_law_2183 (by decide) ?_
      exact lw_end hx hb hr hlk hAf hS (by omega) (by omega)
    · have hi : 0 ≤ i_.toInt ∧ i_.toInt + 7 ≤ L ∧ L ≤ 3584 := by
        have q2 := Int32.le_iff_toInt_le.mp (Int32.not_lt.mp q)
        rw [h7] at q2
        omega
      refine lv_aload_n hx hb dL_law_33 rfl (lv_at hl 4 rfl) ?_
      refine lv_iload hx hb dL_law_34 (lv_at hl 0 rfl) ?_
      refine va_sld hx hb hXs hbl hbA hS (lwi0 hi) dL_law_36 ?_
      refine lv_bipush (v := 63) hx hb dL_law_37 (by decide) ?_
      refine lv_iand hx hb dL_law_39 ?_
      refine lv_topi (fun y_ ey_ => ?_)
      refine law_sw l hlt hX hE hXs hbl hbA hI hM hR hlo (by omega) (by omega) (by omega) hi hP hD hS hl (fun S2 M2 W2 Wm2 g2 kc2 ks2 H locs ls hI hM hR hk2 hs2 hP hD hS hl => ?_) y_
      have hT2 := IC_T hI
      refine lv_iinc (v := i_ + 7) (lv' := [(4, .int (i_ + 7)), (3, .ref no), (2, .ref nm), (1, .ref nx), (0, .ref b)]) hx hb dL_law_2177 hl (k := 0) rfl rfl (by decide) rfl (fun ls hl => ?_)
      refine lv_goto (tgt := 23) hx hb dL_law_2180 (by decide) ?_
      have h77 : (7 : Int32).toInt = 7 := by decide
      have hi7 : (i_ + 7).toInt = i_.toInt + 7 := by rw [add32 _ _ (by omega) (by omega), h77]
      exact ih S2 M2 (h + 900) W2 Wm2 g2 kc2 ks2 (i_ + 7) H locs ls (by omega) hI hM hR (by omega) (by omega) (by omega) (by omega) (by omega) (by omega) hP hD hS hl
theorem rot3 (X Y : va_W) (o : Nat × va_E) : (X ++ (Y ++ [o])).Perm (o :: (Y ++ X)) := by
  have h1 : (X ++ (Y ++ [o])).Perm ((Y ++ [o]) ++ X) := List.perm_append_comm
  have h2 : (Y ++ [o]) ++ X = Y ++ o :: X := by simp
  rw [h2] at h1
  exact h1.trans List.perm_middle
