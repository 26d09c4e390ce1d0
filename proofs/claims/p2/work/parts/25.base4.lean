/-! strings, images -/
section Strs
variable {p : Program} {l : Launch} {e : Env} {R : Room} {s : State} {m : MethodId} {args : Array Value} {below : List Frame} {meth : Method} {c : Code} {H : Heap} {locs : List Loc} {cells slots : Nat} {Q : State → Prop} {cc : ByteArray} {pc : Nat} {own : String} {ls : Array Slot} {rest : List Value}
theorem k_ldcS {sa is : Nat} {tx : String} (hexec : p.tables.exec = Jvm.exec) (hb : c.code = cc) (hown : s.vm.findClass own = some m.cls) (hs : vk_R own is tx sa s) (hdg : decode cc pc = .ok (.ldc is, 2)) (k : W p l e R s m args below meth c H locs cells slots Q (F0 m (pc + 2) ls (.ref sa :: rest))) : W p l e R s m args below meth c H locs cells slots Q (F0 m pc ls rest) := by
  intro T hT X
  obtain ⟨t, a, b⟩ := k T hT X
  refine ⟨t, ?_, b⟩
  exact X.ldcString hexec (own := own) (text := tx) (index := is) (a := sa) hown hs.1 hs.2 (g := F0 m pc ls rest) rfl (by rw [hb]; exact hdg) _ a
theorem k_ldcSW {sa is : Nat} {tx : String} (hexec : p.tables.exec = Jvm.exec) (hb : c.code = cc) (hown : s.vm.findClass own = some m.cls) (hs : vk_R own is tx sa s) (hdg : decode cc pc = .ok (.ldc_w is, 3)) (k : W p l e R s m args below meth c H locs cells slots Q (F0 m (pc + 3) ls (.ref sa :: rest))) : W p l e R s m args below meth c H locs cells slots Q (F0 m pc ls rest) := by
  intro T hT X
  obtain ⟨t, a, b⟩ := k T hT X
  refine ⟨t, ?_, b⟩
  exact X.ldcStringW hexec (own := own) (text := tx) (index := is) (a := sa) hown hs.1 hs.2 (g := F0 m pc ls rest) rfl (by rw [hb]; exact hdg) _ a
end Strs
theorem im_in (x k : Int32) (h : vp_in x 3) (h0 : 0 ≤ k.toInt) (h1 : k.toInt < 2260) : vp_in (2260 * x + k) 6780 := by
  rw [vp_in_iff]
  rcases ix_3 x h with rfl | rfl | rfl
  · have e : ((2260 : Int32) * 0).toInt = 0 := by decide
    rw [add32 _ _ (by rw [e]; omega) (by rw [e]; omega), e]; constructor <;> omega
  · have e : ((2260 : Int32) * 1).toInt = 2260 := by decide
    rw [add32 _ _ (by rw [e]; omega) (by rw [e]; omega), e]; constructor <;> omega
  · have e : ((2260 : Int32) * 2).toInt = 4520 := by decide
    rw [add32 _ _ (by rw [e]; omega) (by rw [e]; omega), e]; constructor <;> omega
theorem va_ca {D : va_G} {cl : List vw_C} {W0 : va_W} {H : Heap} {A : Nat → Prop} (_ : va_P D cl W0 H) (h : va_D A W0) : va_D A W0 := h
