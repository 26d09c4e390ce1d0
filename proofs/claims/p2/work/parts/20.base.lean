/-! base: what every contract of these classes rests on, and its calls, entries and ends -/
abbrev xTY (cy : Nat → ClassId) : List (ClassId × FieldType) := [(cy 0, .int), (cy 1, .byte), (cy 2, .long), (cy 3, .boolean), (cy 4, .object RX6), (cy 5, .object RX8), (cy 6, .object RX3)]
def xTW : List (String × Nat × String × Nat) := [("LateFalls$Tokens", 58, "fall thing walker hangs frees hour held up for on not and or weight column level lying wa wb la lb ", 99),
  ("LateFalls$Tokens", 37, ";:+-*()[]=<>", 12),
  ("LateFallsModel", 272, "fall", 4),
  ("LateFallsModel", 248, "thing", 5),
  ("LateFallsModel", 183, "held", 4),
  ("LateFallsModel", 238, "up", 2),
  ("LateFallsModel", 220, "for", 3),
  ("LateFallsModel", 243, "on", 2),
  ("LateFallsModel", 253, "walker", 6),
  ("LateFallsModel", 191, "hour", 4),
  ("LateFallsModel", 258, "hangs", 5),
  ("LateFallsModel", 185, "weight", 6),
  ("LateFallsModel", 187, "column", 6),
  ("LateFallsModel", 189, "level", 5),
  ("LateFallsModel", 193, "lying", 5),
  ("LateFallsModel", 195, "wa", 2),
  ("LateFallsModel", 197, "wb", 2),
  ("LateFallsModel", 199, "la", 2),
  ("LateFallsModel", 201, "lb", 2),
  ("LateFallsModel", 264, "frees", 5),
  ("LateFallsModel", 160, "not", 3),
  ("LateFallsModel", 158, "and", 3),
  ("LateFallsModel", 150, "or", 2)]
/-- a text of N chars at a, F its bytes -/
def txF (t : String) : Nat → Int32 := if t = "fall thing walker hangs frees hour held up for on not and or weight column level lying wa wb la lb " then (fun j => [102, 97, 108, 108, 32, 116, 104, 105, 110, 103, 32, 119, 97, 108, 107, 101, 114, 32, 104, 97, 110, 103, 115, 32, 102, 114, 101, 101, 115, 32, 104, 111, 117, 114, 32, 104, 101, 108, 100, 32, 117, 112, 32, 102, 111, 114, 32, 111, 110, 32, 110, 111, 116, 32, 97, 110, 100, 32, 111, 114, 32, 119, 101, 105, 103, 104, 116, 32, 99, 111, 108, 117, 109, 110, 32, 108, 101, 118, 101, 108, 32, 108, 121, 105, 110, 103, 32, 119, 97, 32, 119, 98, 32, 108, 97, 32, 108, 98, 32].getD j 0) else if t = ";:+-*()[]=<>" then (fun j => [59, 58, 43, 45, 42, 40, 41, 91, 93, 61, 60, 62].getD j 0) else if t = "fall" then (fun j => [102, 97, 108, 108].getD j 0) else if t = "thing" then (fun j => [116, 104, 105, 110, 103].getD j 0) else if t = "held" then (fun j => [104, 101, 108, 100].getD j 0) else if t = "up" then (fun j => [117, 112].getD j 0) else if t = "for" then (fun j => [102, 111, 114].getD j 0) else if t = "on" then (fun j => [111, 110].getD j 0) else if t = "walker" then (fun j => [119, 97, 108, 107, 101, 114].getD j 0) else if t = "hour" then (fun j => [104, 111, 117, 114].getD j 0) else if t = "hangs" then (fun j => [104, 97, 110, 103, 115].getD j 0) else if t = "weight" then (fun j => [119, 101, 105, 103, 104, 116].getD j 0) else if t = "column" then (fun j => [99, 111, 108, 117, 109, 110].getD j 0) else if t = "level" then (fun j => [108, 101, 118, 101, 108].getD j 0) else if t = "lying" then (fun j => [108, 121, 105, 110, 103].getD j 0) else if t = "wa" then (fun j => [119, 97].getD j 0) else if t = "wb" then (fun j => [119, 98].getD j 0) else if t = "la" then (fun j => [108, 97].getD j 0) else if t = "lb" then (fun j => [108, 98].getD j 0) else if t = "frees" then (fun j => [102, 114, 101, 101, 115].getD j 0) else if t = "not" then (fun j => [110, 111, 116].getD j 0) else if t = "and" then (fun j => [97, 110, 100].getD j 0) else if t = "or" then (fun j => [111, 114].getD j 0) else (fun _ => 0)
/-- where a byte first stands in a text -/
def ixP (N : Nat) (F : Nat → Int32) (x r : Int32) : Prop := (r = -1 ∧ (0 ≤ x.toInt ∧ x.toInt ≤ 255 → ∀ j : Nat, j < N → F j ≠ x.toInt8.toInt32)) ∨ (0 ≤ r.toInt ∧ r.toInt < N ∧ F r.toNatClampNeg = x.toInt8.toInt32)
def xTs (N : Nat) (F : Nat → Int32) (a : Nat) (A : Nat → Prop) (U : State) (H : Heap) : Prop := ∃ v : Nat, va_O "java/lang/String" a A U H ∧ va_OF "java/lang/String" "coder" "B" (.int 0) a A U H ∧ va_OF "java/lang/String" "value" "[B" (.ref v) a A U H ∧ va_T .byte v N (fun j => .int (F j)) A U H
theorem xTs.moved {N : Nat} {F : Nat → Int32} {a : Nat} {A : Nat → Prop} {u U : State} {H : Heap} (hvm : u.vm.Alike U.vm) (h : xTs N F a A u H) : xTs N F a A U H := by
  obtain ⟨v, h1, h2, h3, h4⟩ := h
  exact ⟨v, va_O.moved hvm h1, va_OF.moved hvm h2, va_OF.moved hvm h3, va_T.moved hvm h4⟩
theorem xTs.kept {N : Nat} {F : Nat → Int32} {a : Nat} {A : Nat → Prop} {U : State} {H H1 : Heap} (h : xTs N F a A U H) (hq : ∀ a : Nat, a < H.size → ¬ A a → H1[a]? = H[a]?) : xTs N F a A U H1 := by
  obtain ⟨v, h1, h2, h3, h4⟩ := h
  exact ⟨v, h1.kept hq, h2.kept hq, h3.kept hq, h4.kept hq⟩
theorem xTs.narrow {N : Nat} {F : Nat → Int32} {a : Nat} {A B : Nat → Prop} {U : State} {H : Heap} (h : xTs N F a A U H) (hAB : ∀ q, B q → A q) : xTs N F a B U H := by
  obtain ⟨v, h1, h2, h3, h4⟩ := h
  exact ⟨v, h1.narrow hAB, h2.narrow hAB, h3.narrow hAB, h4.narrow hAB⟩
def xT (A : Nat → Prop) (U : State) (H : Heap) : Prop := va_Z "java/lang/String" "COMPACT_STRINGS" "Z" (.int 1) A U H ∧ (∀ q ∈ xTW, ∃ a : Nat, vk_R q.1 q.2.1 q.2.2.1 a U ∧ xTs q.2.2.2 (txF q.2.2.1) a A U H) ∧ va_Zq "jdk/internal/util/Preconditions" "SIOOBE_FORMATTER" "Ljava/util/function/BiFunction;" A U H
theorem xT.warm {A : Nat → Prop} {s U : State} {H : Heap} (hW : s.WarmedH U.vm) (h : xT A s H) : xT A U H := ⟨va_Z.moved hW.alike h.1, fun q hq => by
  obtain ⟨a, h1, h2⟩ := h.2.1 q hq
  exact ⟨a, vk_R.warm hW h1, xTs.moved hW.alike h2⟩, va_Zq.moved hW.alike h.2.2⟩
theorem xT.same {A : Nat → Prop} {u U : State} {H : Heap} (hv : U.vm = u.vm) (h : xT A u H) : xT A U H := by
  have hal : u.vm.Alike U.vm := by rw [hv]; exact Vm.Alike.refl _
  refine ⟨va_Z.moved hal h.1, fun q hq => ?_, va_Zq.moved hal h.2.2⟩
  obtain ⟨a, h1, h2⟩ := h.2.1 q hq
  exact ⟨a, vk_R.same hv h1, xTs.moved hal h2⟩
theorem xT.kept {A : Nat → Prop} {U : State} {H H1 : Heap} (h : xT A U H) (hq : ∀ a : Nat, a < H.size → ¬ A a → H1[a]? = H[a]?) : xT A U H1 := ⟨h.1.kept hq, fun q h2 => by
  obtain ⟨a, h3, h4⟩ := h.2.1 q h2
  exact ⟨a, h3, h4.kept hq⟩, h.2.2.kept hq⟩
theorem xT.narrow {A B : Nat → Prop} {U : State} {H : Heap} (h : xT A U H) (hAB : ∀ q, B q → A q) : xT B U H := ⟨h.1.narrow hAB, fun q h2 => by
  obtain ⟨a, h3, h4⟩ := h.2.1 q h2
  exact ⟨a, h3, h4.narrow hAB⟩, h.2.2.narrow hAB⟩
def xG (A : Nat → Prop) (U : State) (H : Heap) : Prop := vx_Zq Bundle.tN "UNASSIGNED_STACK" Bundle.steD A U H ∧ vx_Zq Bundle.tN "SUPPRESSED_SENTINEL" Bundle.listD A U H ∧ xT A U H
theorem xG.warm {A : Nat → Prop} {u U : State} {H : Heap} (hW : u.WarmedH U.vm) (h : xG A u H) : xG A U H := ⟨vx_Zq.moved hW.alike h.1, vx_Zq.moved hW.alike h.2.1, h.2.2.warm hW⟩
theorem xG.same {A : Nat → Prop} {u U : State} {H : Heap} (hv : U.vm = u.vm) (h : xG A u H) : xG A U H := by
  have hal : u.vm.Alike U.vm := by rw [hv]; exact Vm.Alike.refl _
  exact ⟨vx_Zq.moved hal h.1, vx_Zq.moved hal h.2.1, h.2.2.same hv⟩
theorem xG.kept {A : Nat → Prop} {U : State} {H H1 : Heap} (h : xG A U H) (hq : ∀ a : Nat, a < H.size → ¬ A a → H1[a]? = H[a]?) : xG A U H1 := ⟨vx_Zq.kept h.1 hq, vx_Zq.kept h.2.1 hq, h.2.2.kept hq⟩
theorem xG.narrow {A B : Nat → Prop} {U : State} {H : Heap} (h : xG A U H) (hAB : ∀ q, B q → A q) : xG B U H := ⟨vx_Zq.narrow h.1 hAB, vx_Zq.narrow h.2.1 hAB, h.2.2.narrow hAB⟩
def xEk : Cond → Bool
  | .castable _ _ => true
  | .declares _ => true
  | .methodLinkNest _ _ _ _ => true
  | _ => false
theorem xE_warm {w : Cond} (hk : xEk w = true) {s U : State} (hW : s.WarmedH U.vm) (h : va_Nw w s) : va_Nw w U := by
  cases w <;> first | exact va_Nw.warmC hW h | exact va_Nw.warmD hW h | exact va_Nw.warmM hW h | exact absurd hk (by simp [xEk])
theorem xE_on {w : Cond} (hk : xEk w = true) : w.onTables = true := by
  cases w <;> first | rfl | exact absurd hk (by simp [xEk])
def xAW : List String := [RX6, RX8, RX3]
def xEW : List Cond := [(Jvm.Cond.methodLinkNest "LateFalls" (21 : Nat) ({ cls := "LateFalls$Ways", name := "<init>", desc := "()V" } : Jvm.MethodName) "LateFalls"),
  (Jvm.Cond.methodLinkNest "LateFalls" (44 : Nat) ({ cls := "LateFalls$District", name := "<init>", desc := "()V" } : Jvm.MethodName) "LateFalls"),
  (Jvm.Cond.methodLinkNest "LateFalls$Reader" (11 : Nat) ({ cls := "LateFalls$Tokens", name := "<init>", desc := "()V" } : Jvm.MethodName) "LateFalls"),
  (Jvm.Cond.methodLinkNest "LateFalls" (75 : Nat) ({ cls := "LateFalls$Tray", name := "<init>", desc := "()V" } : Jvm.MethodName) "LateFalls"),
  (Jvm.Cond.castable "java/lang/IllegalArgumentException" "java/lang/IllegalArgumentException"),
  (Jvm.Cond.declares ({ cls := "java/lang/RuntimeException", name := "<init>", desc := "()V" } : Jvm.MethodName)),
  (Jvm.Cond.declares ({ cls := "java/lang/RuntimeException", name := "<init>", desc := "(Ljava/lang/String;)V" } : Jvm.MethodName)),
  (Jvm.Cond.declares ({ cls := "java/lang/Exception", name := "<init>", desc := "()V" } : Jvm.MethodName)),
  (Jvm.Cond.declares ({ cls := "java/lang/Exception", name := "<init>", desc := "(Ljava/lang/String;)V" } : Jvm.MethodName)),
  (Jvm.Cond.declares ({ cls := "java/lang/Throwable", name := "<init>", desc := "()V" } : Jvm.MethodName)),
  (Jvm.Cond.declares ({ cls := "java/lang/Throwable", name := "<init>", desc := "(Ljava/lang/String;)V" } : Jvm.MethodName)),
  (Jvm.Cond.methodLinkNest "LateFalls$Reader" (37 : Nat) ({ cls := "LateFalls$District", name := "<init>", desc := "()V" } : Jvm.MethodName) "LateFalls"),
  (Jvm.Cond.castable "java/util/NoSuchElementException" "java/util/NoSuchElementException"),
  (Jvm.Cond.castable "java/lang/IllegalStateException" "java/lang/IllegalStateException"),
  (Jvm.Cond.castable "java/lang/IndexOutOfBoundsException" "java/lang/IndexOutOfBoundsException"),
  (Jvm.Cond.castable "LateFalls" "java/lang/Object"),
  (Jvm.Cond.castable "LateFalls$Ways" "java/lang/Object"),
  (Jvm.Cond.castable "LateFalls$District" "java/lang/Object"),
  (Jvm.Cond.castable "LateFalls$Reader" "java/lang/Object"),
  (Jvm.Cond.castable "LateFalls$Tokens" "java/lang/Object"),
  (Jvm.Cond.castable "LateFalls$Scene" "java/lang/Object"),
  (Jvm.Cond.castable "LateFalls$History" "java/lang/Object"),
  (Jvm.Cond.castable "LateFalls$Forecast" "java/lang/Object"),
  (Jvm.Cond.castable "LateFalls$Tray" "java/lang/Object"),
  (Jvm.Cond.castable "LateFallsModel" "java/lang/Object"),
  (Jvm.Cond.castable "java/lang/IllegalArgumentException" "java/lang/Object"),
  (Jvm.Cond.castable "LateFalls$Law" "java/lang/Object"),
  (Jvm.Cond.castable "java/util/NoSuchElementException" "java/lang/Object"),
  (Jvm.Cond.castable "java/lang/IllegalStateException" "java/lang/Object"),
  (Jvm.Cond.castable "java/lang/IndexOutOfBoundsException" "java/lang/Object"),
  (Jvm.Cond.castable "LateFalls$Image" "java/lang/Object"),
  (Jvm.Cond.castable "java/lang/Throwable" "java/lang/Object"),
  (Jvm.Cond.castable "java/lang/String" "java/lang/Object")]
def xSW : List (String × Nat × String) := [("LateFalls", 85, "not so many bytes"),
  ("LateFalls$Tokens", 58, "fall thing walker hangs frees hour held up for on not and or weight column level lying wa wb la lb "),
  ("LateFalls$Tokens", 37, ";:+-*()[]=<>"),
  ("LateFalls", 183, "no such thing"),
  ("LateFalls", 141, "no such what"),
  ("LateFalls", 189, "no such walker"),
  ("LateFalls", 194, "no such column"),
  ("LateFalls", 200, "no such place"),
  ("LateFalls", 202, "out of its bounds"),
  ("LateFalls", 230, "not so many deeds"),
  ("LateFalls", 399, "no such tray"),
  ("LateFalls", 404, "the tray is missing"),
  ("LateFalls", 309, "it doesn't hang"),
  ("LateFalls", 344, "it isn't held"),
  ("LateFalls", 339, "both one, one column, or no such what"),
  ("LateFalls", 376, "no such sort, or not so many"),
  ("LateFalls", 406, "no such image"),
  ("LateFalls", 397, "no image was made"),
  ("LateFallsModel", 272, "fall"),
  ("LateFallsModel", 248, "thing"),
  ("LateFallsModel", 183, "held"),
  ("LateFallsModel", 238, "up"),
  ("LateFallsModel", 220, "for"),
  ("LateFallsModel", 243, "on"),
  ("LateFallsModel", 253, "walker"),
  ("LateFallsModel", 191, "hour"),
  ("LateFallsModel", 258, "hangs"),
  ("LateFallsModel", 185, "weight"),
  ("LateFallsModel", 187, "column"),
  ("LateFallsModel", 189, "level"),
  ("LateFallsModel", 193, "lying"),
  ("LateFallsModel", 195, "wa"),
  ("LateFallsModel", 197, "wb"),
  ("LateFallsModel", 199, "la"),
  ("LateFallsModel", 201, "lb"),
  ("LateFallsModel", 264, "frees"),
  ("LateFallsModel", 160, "not"),
  ("LateFallsModel", 158, "and"),
  ("LateFallsModel", 150, "or")]
def xNW : List (String × String) := [("java/lang/IllegalArgumentException", "java/util/NoSuchElementException"), ("java/lang/IllegalStateException", "java/util/NoSuchElementException"), ("java/lang/IllegalArgumentException", "java/lang/IllegalStateException"), ("java/lang/IndexOutOfBoundsException", "java/util/NoSuchElementException"), ("java/lang/IndexOutOfBoundsException", "java/lang/IllegalStateException")]
theorem xEW_k : ∀ w ∈ xEW, xEk w = true := by decide
def xS (U : State) : Prop := (∀ w ∈ xEW, va_Nw w U) ∧ (∀ q ∈ xSW, ∃ a : Nat, vk_R q.1 q.2.1 q.2.2 a U) ∧ (∀ q ∈ xNW, va_Nc q.1 q.2 U) ∧ ∀ q ∈ xAW, va_AO q U
theorem xS.warm {s U : State} (hW : s.WarmedH U.vm) (h : xS s) : xS U := ⟨fun w hw => xE_warm (xEW_k w hw) hW (h.1 w hw), fun q hq => ⟨(h.2.1 q hq).choose, vk_R.warm hW (h.2.1 q hq).choose_spec⟩, fun q hq => va_Nc.moved hW.alike (h.2.2.1 q hq), fun q hq => va_AO.moved hW.alike (h.2.2.2 q hq)⟩
theorem xS.same {u U : State} (hv : U.vm = u.vm) (h : xS u) : xS U := ⟨fun w hw => va_Nw.same (xE_on (xEW_k w hw)) hv.symm (h.1 w hw), fun q hq => ⟨(h.2.1 q hq).choose, vk_R.same hv (h.2.1 q hq).choose_spec⟩, fun q hq => va_Nc.moved (by rw [hv]; exact Vm.Alike.refl _) (h.2.2.1 q hq), fun q hq => va_AO.moved (by rw [hv]; exact Vm.Alike.refl _) (h.2.2.2 q hq)⟩
theorem xfm {α : Type} {f : Nat → Option α} : ∀ {l : List Nat} {l' : List α}, l.map f = l'.map some → l.filterMap f = l'
  | [], [], _ => rfl
  | [], _ :: _, h => by cases h
  | _ :: _, [], h => by cases h
  | a :: l, b :: l', h => by
    simp only [List.map_cons, List.cons.injEq] at h
    rw [List.filterMap_cons, h.1, xfm h.2]
/-- what a contract asks: the world WS, the classes, the statics of Throwable, the tables' other words -/
def cP (D : va_G) (cy : Nat → ClassId) (WS : va_W) (sz : Nat) (U : State) : Prop := U.heap.size = sz ∧ va_P D vwCl WS U.heap ∧ va_K D vwCl (xTY cy) U ∧ va_D (fun _ => True) WS ∧ xG (va_A WS sz) U U.heap ∧ xS U
/-- what a contract gives: the world W1 -/
def cB (D : va_G) (cy : Nat → ClassId) (A : Nat → Prop) (W1 : va_W) (t : State) : Prop := va_P D vwCl W1 t.heap ∧ va_K D vwCl (xTY cy) t ∧ va_D A W1
theorem cP_blind {D : va_G} {cy : Nat → ClassId} {WS : va_W} {sz : Nat} {av : List Value} : FrameBlind (va_Pc av (cP D cy WS sz)) := fun a U g mk q => by
  obtain ⟨h0, h1, h2, h3, h4, h5, h6⟩ := q
  exact ⟨h0, h1, h2, va_K.moved (u := U) (U := U.calling g mk a) (Vm.Alike.refl U.vm) h3, h4, xG.same (u := U) (U := U.calling g mk a) rfl h5, xS.same (u := U) (U := U.calling g mk a) rfl h6⟩
/-- what holds in a method all along -/
def Ex (p : Program) (s : State) (m : MethodId) (args : Array Value) (meth : Method) (c : Code) (cc : ByteArray) (rt : Option FieldType) (nL : Nat) (own : String) : Prop :=
  p.tables.exec = Jvm.exec ∧ c.code = cc ∧ meth.sig.returnType = rt ∧ c.maxLocals = nL ∧ s.vm.findClass own = some m.cls ∧ (∀ w ∈ wA, w.before args s = true) ∧ meth.locks = false
def Ew (D : va_G) (cy : Nat → ClassId) (A : Nat → Prop) (s : State) : Prop := va_K D vwCl (xTY cy) s ∧ (∀ q, s.heap.size ≤ q → A q) ∧ xG A s s.heap ∧ xS s
theorem cP_pay {D : va_G} {cy : Nat → ClassId} {W0 WS : va_W} {A0 : Nat → Prop} {s : State} {H : Heap} {locs : List Loc} (hE : Ew D cy A0 s) (hP : va_P D vwCl W0 H) (hD : va_D A0 W0) (hS : va_S A0 s.heap H locs) (isC : List Nat) (hC : isC.map (fun i => W0[i]?) = WS.map some) (hn : va_nd isC = true) (U : State) (hU : U.heap = H) (hW : s.WarmedH U.vm) : cP D cy WS H.size U := by
  obtain ⟨hK, hA, hG, hX⟩ := hE
  refine ⟨by rw [hU], by rw [hU]; exact hP.sub isC (xfm hC), va_K.moved hW.alike hK, (hD.sub isC hn hC).weaken (fun _ _ _ _ => trivial), ?_, hX.warm hW⟩
  rw [hU]
  exact ((hG.kept hS.2.1).warm hW).narrow (va_free hD hS hA isC hC)
/-- words of a call out of wA -/
theorem cwA {R : Room} {s : State} {args : Array Value} {own : String} {index maxL : Nat} {y : MethodName} {bytes : ByteArray} {ret : Option FieldType} {rm : Room} (n : Nat) (ht : ∀ w ∈ wA, w.before args s = true) (hc : Cond.code y bytes maxL ret ∈ wA) (hl : Cond.methodLink own index y ∈ wA) (hi : Cond.initialized y.cls ∈ wA)
    (hd : y.cls ≠ "java/lang/invoke/MethodHandle" ∧ y.cls ≠ "java/lang/invoke/VarHandle" ∧ (parseMethodDescriptor y.desc).map (fun d => d.parameters.length) = some n) (hR : rm.frames + 1 ≤ R.frames ∧ 8 + (maxL + 11) + rm.locals ≤ R.locals) :
    CallB R s args own index y bytes maxL ret (Cond.code y bytes maxL ret :: wA) rm rm.cells rm.slots n :=
  callB_of n ht (fun w h => by
    have hw : w ∈ wA := (List.mem_cons.mp h).elim (fun e => by rw [e]; exact hc) id
    exact ⟨hw, good_of_word (List.mem_filter.mp hw).2⟩) rfl rfl rfl (ht _ hi) (ht _ hl) hd hR
theorem cwVA {R : Room} {s : State} {args : Array Value} {own C : String} {index maxL : Nat} {y : MethodName} {bytes : ByteArray} {ret : Option FieldType} {rm : Room} (n : Nat) (ht : ∀ w ∈ wA, w.before args s = true) (hc : Cond.code y bytes maxL ret ∈ wA) (hl : Cond.methodLink own index y ∈ wA) (hi : Cond.initialized y.cls ∈ wA) (hin : Cond.instanceMethod y ∈ wA) (hse : Cond.selects C y y ∈ wA)
    (hd : y.cls ≠ "java/lang/invoke/MethodHandle" ∧ y.cls ≠ "java/lang/invoke/VarHandle" ∧ (parseMethodDescriptor y.desc).map (fun d => d.parameters.length) = some n) (hR : rm.frames + 1 ≤ R.frames ∧ 8 + (maxL + 11) + rm.locals ≤ R.locals) :
    CallW R s args own C index y bytes maxL ret (Cond.code y bytes maxL ret :: wA) rm rm.cells rm.slots n := ⟨cwA n ht hc hl hi hd hR, ht _ hin, ht _ hse⟩
theorem cwSA {R : Room} {s : State} {args : Array Value} {own : String} {index maxL : Nat} {y : MethodName} {bytes : ByteArray} {ret : Option FieldType} {rm : Room} (n : Nat) (ht : ∀ w ∈ wA, w.before args s = true) (hc : Cond.code y bytes maxL ret ∈ wA) (hl : Cond.methodLink own index y ∈ wA) (hi : Cond.initialized y.cls ∈ wA) (hst : Cond.static y ∈ wA)
    (hd : y.cls ≠ "java/lang/invoke/MethodHandle" ∧ y.cls ≠ "java/lang/invoke/VarHandle" ∧ (parseMethodDescriptor y.desc).map (fun d => d.parameters.length) = some n) (hR : rm.frames + 1 ≤ R.frames ∧ 8 + (maxL + 11) + rm.locals ≤ R.locals) :
    CallB R s args own index y bytes maxL ret (Cond.code y bytes maxL ret :: wA) rm rm.cells rm.slots n ∧ (Cond.static y).before args s = true := ⟨cwA n ht hc hl hi hd hR, ht _ hst⟩
theorem cwIA {R : Room} {s : State} {args : Array Value} {own : String} {index maxL : Nat} {y : MethodName} {bytes : ByteArray} {rm : Room} (n : Nat) (ht : ∀ w ∈ wA, w.before args s = true) (hc : Cond.code y bytes maxL none ∈ wA) (hl : Cond.methodLink own index y ∈ wA) (hi : Cond.initialized y.cls ∈ wA) (hin : Cond.instanceMethod y ∈ wA) (hy : y.name = "<init>")
    (hd : y.cls ≠ "java/lang/invoke/MethodHandle" ∧ y.cls ≠ "java/lang/invoke/VarHandle" ∧ (parseMethodDescriptor y.desc).map (fun d => d.parameters.length) = some n) (hR : rm.frames + 1 ≤ R.frames ∧ 8 + (maxL + 11) + rm.locals ≤ R.locals) :
    CallB R s args own index y bytes maxL none (Cond.code y bytes maxL none :: wA) rm rm.cells rm.slots n ∧ y.name = "<init>" ∧ (Cond.instanceMethod y).before args s = true := ⟨cwA n ht hc hl hi hd hR, hy, ht _ hin⟩
theorem cwNA {R : Room} {s : State} {args : Array Value} {own host : String} {index maxL : Nat} {y : MethodName} {bytes : ByteArray} {rm : Room} (n : Nat) (ht : ∀ w ∈ wA, w.before args s = true) (hc : Cond.code y bytes maxL none ∈ wA) (hl : va_Nw (.methodLinkNest own index y host) s) (hi : Cond.initialized y.cls ∈ wA) (hin : Cond.instanceMethod y ∈ wA) (hy : y.name = "<init>")
    (hd : y.cls ≠ "java/lang/invoke/MethodHandle" ∧ y.cls ≠ "java/lang/invoke/VarHandle" ∧ (parseMethodDescriptor y.desc).map (fun d => d.parameters.length) = some n) (hR : rm.frames + 1 ≤ R.frames ∧ 8 + (maxL + 11) + rm.locals ≤ R.locals) :
    va_CN R s args own index y host bytes maxL none (Cond.code y bytes maxL none :: wA) rm rm.cells rm.slots n ∧ y.name = "<init>" ∧ (Cond.instanceMethod y).before args s = true :=
  ⟨va_cnB n ht (fun w h => by
    have hw : w ∈ wA := (List.mem_cons.mp h).elim (fun e => by rw [e]; exact hc) id
    exact ⟨hw, good_of_word (List.mem_filter.mp hw).2⟩) rfl rfl rfl hl (ht _ hi) hd hR, hy, ht _ hin⟩
/-- contracts: int, long, nothing, a reference; the same with throws -/
def Ci (l : Launch) (y : MethodName) (b : ByteArray) (mL : Nat) (rt : Option FieldType) (rm : Room) (D : va_G) (cy : Nat → ClassId) (av : List Value) (WS : va_W) (post : Int32 → va_W → Prop) : Prop := ∀ sz : Nat, Met l y (Cond.code y b mL rt :: wA) rm (va_Pc av (cP D cy WS sz)) (va_Qi post (cB D cy (va_A WS sz)) (va_A WS sz)) rm.cells rm.slots (va_A WS sz)
def Cl (l : Launch) (y : MethodName) (b : ByteArray) (mL : Nat) (rt : Option FieldType) (rm : Room) (D : va_G) (cy : Nat → ClassId) (av : List Value) (WS : va_W) (post : Int64 → va_W → Prop) : Prop := ∀ sz : Nat, Met l y (Cond.code y b mL rt :: wA) rm (va_Pc av (cP D cy WS sz)) (va_Ql post (cB D cy (va_A WS sz)) (va_A WS sz)) rm.cells rm.slots (va_A WS sz)
def Cv (l : Launch) (y : MethodName) (b : ByteArray) (mL : Nat) (rt : Option FieldType) (rm : Room) (D : va_G) (cy : Nat → ClassId) (av : List Value) (WS : va_W) (post : va_W → Prop) : Prop := ∀ sz : Nat, Met l y (Cond.code y b mL rt :: wA) rm (va_Pc av (cP D cy WS sz)) (va_Qv post (cB D cy (va_A WS sz)) (va_A WS sz)) rm.cells rm.slots (va_A WS sz)
def xB (D : va_G) (cy : Nat → ClassId) (A : Nat → Prop) (px : String → va_W → Prop) : String → State → State → Prop := vx_X (fun _ : va_W => True) (fun E W1 t => px E W1 ∧ cB D cy A W1 t) A
def Xi (l : Launch) (y : MethodName) (b : ByteArray) (mL : Nat) (rt : Option FieldType) (rm : Room) (D : va_G) (cy : Nat → ClassId) (av : List Value) (WS : va_W) (post : Int32 → va_W → Prop) (px : String → va_W → Prop) : Prop := ∀ sz : Nat, vx_Met l y (Cond.code y b mL rt :: wA) rm (va_Pc av (cP D cy WS sz)) (va_Qi post (cB D cy (va_A WS sz)) (va_A WS sz)) (xB D cy (va_A WS sz) px) rm.cells rm.slots (va_A WS sz)
def Xl (l : Launch) (y : MethodName) (b : ByteArray) (mL : Nat) (rt : Option FieldType) (rm : Room) (D : va_G) (cy : Nat → ClassId) (av : List Value) (WS : va_W) (post : Int64 → va_W → Prop) (px : String → va_W → Prop) : Prop := ∀ sz : Nat, vx_Met l y (Cond.code y b mL rt :: wA) rm (va_Pc av (cP D cy WS sz)) (va_Ql post (cB D cy (va_A WS sz)) (va_A WS sz)) (xB D cy (va_A WS sz) px) rm.cells rm.slots (va_A WS sz)
def Xv (l : Launch) (y : MethodName) (b : ByteArray) (mL : Nat) (rt : Option FieldType) (rm : Room) (D : va_G) (cy : Nat → ClassId) (av : List Value) (WS : va_W) (post : va_W → Prop) (px : String → va_W → Prop) : Prop := ∀ sz : Nat, vx_Met l y (Cond.code y b mL rt :: wA) rm (va_Pc av (cP D cy WS sz)) (va_Qv post (cB D cy (va_A WS sz)) (va_A WS sz)) (xB D cy (va_A WS sz) px) rm.cells rm.slots (va_A WS sz)
section Starts
variable {l : Launch} {y : MethodName} {b : ByteArray} {mL : Nat} {rt : Option FieldType} {rm : Room} {D : va_G} {cy : Nat → ClassId} {av : List Value} {WS : va_W} {px : String → va_W → Prop}
theorem st_ex {p : Program} {ws : List Cond} {e : Env} {s : State} {m : MethodId} {args : Array Value} {below : List Frame} {meth : Method} {c : Code} {s₁ : State} (hws : ws = Cond.code y b mL rt :: wA) (B : BodyLoose p l y (headSpec ws rm) b mL rt e s m args below meth c s₁) (hml : c.maxLocals = mL) : Ex p s m args meth c b rt mL y.cls := by
  subst hws
  exact ⟨B.exec, B.bytes, B.returns, hml, findClass_of_methodNamed B.named, fun w h => atoms_spec (ws := Cond.code y b mL rt :: wA) B.pre w (List.mem_cons_of_mem _ h), B.notSynchronized⟩
theorem Ci.of {post : Int32 → va_W → Prop} (hy : plainName y.cls = true) (hlen : (lg_sl av).length ≤ mL)
    (body : ∀ (p : Program) (e : Env) (s : State) (m : MethodId) (below : List Frame) (meth : Method) (c : Code) (A : Nat → Prop) (ls : Array Slot), Ex p s m av.toArray meth c b rt mL y.cls → Ew D cy A s → va_P D vwCl WS s.heap → va_D A WS → lv_has ls mL (lv_args 0 av) →
      W p l e rm s m av.toArray below meth c s.heap [] 0 0 (MQ below (va_Qi post (cB D cy A) A) av.toArray s rm.cells rm.slots A) (F0 m 0 ls [])) : Ci l y b mL rt rm D cy av WS post := by
  intro sz
  refine Met.ofW (cc := b) (maxL := mL) (ret := rt) hy rfl ?_
  intro p e s m args below meth c s₁ B hml hv
  obtain ⟨rfl, hsz, hP, hK, hD, hG, hX⟩ := hv
  rw [lg_entry_eq]
  exact body p e s m below meth c (va_A WS sz) _ (st_ex rfl B hml) ⟨hK, fun q h => Or.inr (by rw [← hsz]; exact h), hG, hX⟩ hP hD.self (lv_entry av hlen)
theorem Cl.of {post : Int64 → va_W → Prop} (hy : plainName y.cls = true) (hlen : (lg_sl av).length ≤ mL)
    (body : ∀ (p : Program) (e : Env) (s : State) (m : MethodId) (below : List Frame) (meth : Method) (c : Code) (A : Nat → Prop) (ls : Array Slot), Ex p s m av.toArray meth c b rt mL y.cls → Ew D cy A s → va_P D vwCl WS s.heap → va_D A WS → lv_has ls mL (lv_args 0 av) →
      W p l e rm s m av.toArray below meth c s.heap [] 0 0 (MQ below (va_Ql post (cB D cy A) A) av.toArray s rm.cells rm.slots A) (F0 m 0 ls [])) : Cl l y b mL rt rm D cy av WS post := by
  intro sz
  refine Met.ofW (cc := b) (maxL := mL) (ret := rt) hy rfl ?_
  intro p e s m args below meth c s₁ B hml hv
  obtain ⟨rfl, hsz, hP, hK, hD, hG, hX⟩ := hv
  rw [lg_entry_eq]
  exact body p e s m below meth c (va_A WS sz) _ (st_ex rfl B hml) ⟨hK, fun q h => Or.inr (by rw [← hsz]; exact h), hG, hX⟩ hP hD.self (lv_entry av hlen)
theorem Cv.of {post : va_W → Prop} (hy : plainName y.cls = true) (hlen : (lg_sl av).length ≤ mL)
    (body : ∀ (p : Program) (e : Env) (s : State) (m : MethodId) (below : List Frame) (meth : Method) (c : Code) (A : Nat → Prop) (ls : Array Slot), Ex p s m av.toArray meth c b rt mL y.cls → Ew D cy A s → va_P D vwCl WS s.heap → va_D A WS → lv_has ls mL (lv_args 0 av) → meth.name = y.name →
      W p l e rm s m av.toArray below meth c s.heap [] 0 0 (MQ below (va_Qv post (cB D cy A) A) av.toArray s rm.cells rm.slots A) (F0 m 0 ls [])) : Cv l y b mL rt rm D cy av WS post := by
  intro sz
  refine Met.ofW (cc := b) (maxL := mL) (ret := rt) hy rfl ?_
  intro p e s m args below meth c s₁ B hml hv
  obtain ⟨rfl, hsz, hP, hK, hD, hG, hX⟩ := hv
  rw [lg_entry_eq]
  exact body p e s m below meth c (va_A WS sz) _ (st_ex rfl B hml) ⟨hK, fun q h => Or.inr (by rw [← hsz]; exact h), hG, hX⟩ hP hD.self (lv_entry av hlen) (name_of_methodNamed B.named B.method).1
theorem Xi.of {post : Int32 → va_W → Prop} (hy : plainName y.cls = true) (hlen : (lg_sl av).length ≤ mL)
    (body : ∀ (p : Program) (e : Env) (s : State) (m : MethodId) (below : List Frame) (meth : Method) (c : Code) (A : Nat → Prop) (ls : Array Slot), Ex p s m av.toArray meth c b rt mL y.cls → Ew D cy A s → va_P D vwCl WS s.heap → va_D A WS → lv_has ls mL (lv_args 0 av) → (∀ x ∈ c.exceptionTable.toList, False) →
      W p l e rm s m av.toArray below meth c s.heap [] 0 0 (vx_MQ below (va_Qi post (cB D cy A) A) (xB D cy A px) av.toArray s rm.cells rm.slots A) (F0 m 0 ls [])) : Xi l y b mL rt rm D cy av WS post px := by
  intro sz
  refine vx_ofW (cc := b) (maxL := mL) (ret := rt) hy rfl ?_
  intro p e s m args below meth c s₁ B hml hxt hv
  obtain ⟨rfl, hsz, hP, hK, hD, hG, hX⟩ := hv
  rw [lg_entry_eq]
  exact body p e s m below meth c (va_A WS sz) _ (st_ex rfl B hml) ⟨hK, fun q h => Or.inr (by rw [← hsz]; exact h), hG, hX⟩ hP hD.self (lv_entry av hlen) hxt
theorem Xl.of {post : Int64 → va_W → Prop} (hy : plainName y.cls = true) (hlen : (lg_sl av).length ≤ mL)
    (body : ∀ (p : Program) (e : Env) (s : State) (m : MethodId) (below : List Frame) (meth : Method) (c : Code) (A : Nat → Prop) (ls : Array Slot), Ex p s m av.toArray meth c b rt mL y.cls → Ew D cy A s → va_P D vwCl WS s.heap → va_D A WS → lv_has ls mL (lv_args 0 av) → (∀ x ∈ c.exceptionTable.toList, False) →
      W p l e rm s m av.toArray below meth c s.heap [] 0 0 (vx_MQ below (va_Ql post (cB D cy A) A) (xB D cy A px) av.toArray s rm.cells rm.slots A) (F0 m 0 ls [])) : Xl l y b mL rt rm D cy av WS post px := by
  intro sz
  refine vx_ofW (cc := b) (maxL := mL) (ret := rt) hy rfl ?_
  intro p e s m args below meth c s₁ B hml hxt hv
  obtain ⟨rfl, hsz, hP, hK, hD, hG, hX⟩ := hv
  rw [lg_entry_eq]
  exact body p e s m below meth c (va_A WS sz) _ (st_ex rfl B hml) ⟨hK, fun q h => Or.inr (by rw [← hsz]; exact h), hG, hX⟩ hP hD.self (lv_entry av hlen) hxt
theorem Xv.of {post : va_W → Prop} (hy : plainName y.cls = true) (hlen : (lg_sl av).length ≤ mL)
    (body : ∀ (p : Program) (e : Env) (s : State) (m : MethodId) (below : List Frame) (meth : Method) (c : Code) (A : Nat → Prop) (ls : Array Slot), Ex p s m av.toArray meth c b rt mL y.cls → Ew D cy A s → va_P D vwCl WS s.heap → va_D A WS → lv_has ls mL (lv_args 0 av) → (∀ x ∈ c.exceptionTable.toList, False) →
      W p l e rm s m av.toArray below meth c s.heap [] 0 0 (vx_MQ below (va_Qv post (cB D cy A) A) (xB D cy A px) av.toArray s rm.cells rm.slots A) (F0 m 0 ls [])) : Xv l y b mL rt rm D cy av WS post px := by
  intro sz
  refine vx_ofW (cc := b) (maxL := mL) (ret := rt) hy rfl ?_
  intro p e s m args below meth c s₁ B hml hxt hv
  obtain ⟨rfl, hsz, hP, hK, hD, hG, hX⟩ := hv
  rw [lg_entry_eq]
  exact body p e s m below meth c (va_A WS sz) _ (st_ex rfl B hml) ⟨hK, fun q h => Or.inr (by rw [← hsz]; exact h), hG, hX⟩ hP hD.self (lv_entry av hlen) hxt
end Starts
section Ends
variable {p : Program} {l : Launch} {e : Env} {R : Room} {s : State} {m : MethodId} {args : Array Value} {below : List Frame} {meth : Method} {c : Code} {H : Heap} {locs : List Loc} {cells slots : Nat} {cc : ByteArray} {nL pc : Nat} {own : String} {ls : Array Slot} {D : va_G} {cy : Nat → ClassId} {A : Nat → Prop} {W1 : va_W} {kc ks : Nat} {px : String → va_W → Prop}
theorem rI {post : Int32 → va_W → Prop} {v : Int32} (hX : Ex p s m args meth c cc (some .int) nL own) (hE : Ew D cy A s) (hP : va_P D vwCl W1 H) (hD : va_D A W1) (hS : va_S A s.heap H locs) (hdg : decode cc pc = .ok (.ireturn, 1)) (hc : cells ≤ kc) (hs : slots ≤ ks) (hp : post v W1) :
    W p l e R s m args below meth c H locs cells slots (MQ below (va_Qi post (cB D cy A) A) args s kc ks A) (F0 m pc ls [.int v]) :=
  W.widen hc hs (W.iret hX.1 hX.2.1 hX.2.2.1 (fun t ht hW => ⟨⟨v, W1, rfl, hp, by rw [ht]; exact hP, va_K.moved hW.alike hE.1, hD⟩, hS.F ht⟩) hS.2.2 hdg hX.2.2.2.2.2.2)
theorem rZ {post : Int32 → va_W → Prop} {v : Int32} (hX : Ex p s m args meth c cc (some .boolean) nL own) (hn : narrow .boolean (.int v) = .int v) (hE : Ew D cy A s) (hP : va_P D vwCl W1 H) (hD : va_D A W1) (hS : va_S A s.heap H locs) (hdg : decode cc pc = .ok (.ireturn, 1)) (hc : cells ≤ kc) (hs : slots ≤ ks) (hp : post v W1) :
    W p l e R s m args below meth c H locs cells slots (MQ below (va_Qi post (cB D cy A) A) args s kc ks A) (F0 m pc ls [.int v]) :=
  W.widen hc hs (W.zret hX.1 hX.2.1 hX.2.2.1 hn (fun t ht hW => ⟨⟨v, W1, rfl, hp, by rw [ht]; exact hP, va_K.moved hW.alike hE.1, hD⟩, hS.F ht⟩) hS.2.2 hdg hX.2.2.2.2.2.2)
theorem rL {post : Int64 → va_W → Prop} {v : Int64} (hX : Ex p s m args meth c cc (some .long) nL own) (hE : Ew D cy A s) (hP : va_P D vwCl W1 H) (hD : va_D A W1) (hS : va_S A s.heap H locs) (hdg : decode cc pc = .ok (.lreturn, 1)) (hc : cells ≤ kc) (hs : slots ≤ ks) (hp : post v W1) :
    W p l e R s m args below meth c H locs cells slots (MQ below (va_Ql post (cB D cy A) A) args s kc ks A) (F0 m pc ls [.long v]) :=
  W.widen hc hs (W.lret hX.1 hX.2.1 hX.2.2.1 (fun t ht hW => ⟨⟨v, W1, rfl, hp, by rw [ht]; exact hP, va_K.moved hW.alike hE.1, hD⟩, hS.F ht⟩) hS.2.2 hdg hX.2.2.2.2.2.2)
theorem rV {post : va_W → Prop} (hX : Ex p s m args meth c cc none nL own) (hE : Ew D cy A s) (hP : va_P D vwCl W1 H) (hD : va_D A W1) (hS : va_S A s.heap H locs) (hdg : decode cc pc = .ok (.return_, 1)) (hc : cells ≤ kc) (hs : slots ≤ ks) (hp : post W1) :
    W p l e R s m args below meth c H locs cells slots (MQ below (va_Qv post (cB D cy A) A) args s kc ks A) (F0 m pc ls []) :=
  W.widen hc hs (W.vret hX.1 hX.2.1 hX.2.2.1 (fun t ht hW => ⟨⟨W1, rfl, hp, by rw [ht]; exact hP, va_K.moved hW.alike hE.1, hD⟩, hS.F ht⟩) hS.2.2 hdg hX.2.2.2.2.2.2)
/-- out of a method without handlers -/
theorem xO {Qc : Array Value → State → Outcome → State → Prop} {rt : Option FieldType} {E : String} {ce : Cell} {q : Addr} {rest : List Value} (hX : Ex p s m args meth c cc rt nL own) (hE : Ew D cy A s) (hxt : ∀ x ∈ c.exceptionTable.toList, False) (hP : va_P D vwCl W1 H) (hD : va_D A W1) (hS : va_S A s.heap H locs) (hcell : H[q]? = some ce) (hv : ce.vm = .none) (hcl : s.vm.findClass E = some ce.cls) (hc : cells ≤ kc) (hs : slots ≤ ks) (hp : px E W1) :
    vx_W p l e R s m args below meth c H locs cells slots (vx_MQ below Qc (xB D cy A px) args s kc ks A) (F0 m pc ls rest) q :=
  vx_out (fun x hx => (hxt x hx).elim) hX.2.2.2.2.2.2 hcell hv hcl (fun t ht hal => ⟨W1, trivial, ⟨hp, by rw [ht]; exact hP, va_K.moved hal hE.1, hD⟩, hS.F ht⟩) hS.2.2 hc hs
end Ends
section Calls
variable {p : Program} {l : Launch} {e : Env} {R : Room} {s : State} {m : MethodId} {args : Array Value} {below : List Frame} {meth : Method} {c : Code} {H : Heap} {locs : List Loc} {cells slots : Nat} {Q : State → Prop} {cc bytes : ByteArray} {rt rt0 : Option FieldType} {nL pc n index maxL : Nat} {own C host : String} {ls : Array Slot} {D : va_G} {cy : Nat → ClassId} {A0 : Nat → Prop} {W0 wr WS : va_W} {rm : Room} {y : MethodName} {b : Nat} {As rest st0 : List Value} {px : String → va_W → Prop}
theorem fixA (hX : Ex p s m args meth c cc rt0 nL own) : CallFix p m c cc nL s args wA own := ⟨hX.1, hX.2.1, hX.2.2.2.1, hX.2.2.2.2.1, hX.2.2.2.2.2.1⟩
theorem recvA {q0 ci : Nat} {fs : List Value} {r : vw_C} (hE : Ew D cy A0 s) (hP : va_P D vwCl W0 H) (isC : List Nat) (hC : isC.map (fun i => W0[i]?) = WS.map some) (hq : WS[q0]? = some (b, .inr (ci, fs))) (hc : vwCl[ci]? = some r) : ∃ cell : Cell, H[b]? = some cell ∧ cell.vm.isStatics = false ∧ s.vm.findClass r.1 = some cell.cls :=
  va_recv hE.1 (hP.sub isC (xfm hC)) hc hq
theorem kVi {post : Int32 → va_W → Prop} (hX : Ex p s m args meth c cc rt0 nL own) (hE : Ew D cy A0 s) (hM : Ci l y bytes maxL rt rm D cy (.ref b :: As) WS post) (cw : CallW R s args own C index y bytes maxL rt (Cond.code y bytes maxL rt :: wA) rm rm.cells rm.slots n)
    (hP : va_P D vwCl W0 H) (hD : va_D A0 W0) (hS : va_S A0 s.heap H locs) (isC isR : List Nat) (hC : isC.map (fun i => W0[i]?) = WS.map some) (hR : isR.map (fun i => W0[i]?) = wr.map some) (hnd : va_nd isC = true ∧ va_nd isR = true ∧ ∀ i ∈ isR, i ∉ isC)
    (q0 : Nat) {ci : Nat} {fs : List Value} {r : vw_C} (hq : WS[q0]? = some (b, .inr (ci, fs))) (hc : vwCl[ci]? = some r) (hrC : r.1 = C) (hn : As.length = n) (hsize : ls.size = nL) (hst : st0 = As.reverse ++ .ref b :: rest) (hW : (rest.map fun v => v.category).sum ≤ 8) (hdg : decode cc pc = .ok (.invokevirtual index, 3)) (hf : cells + rm.cells ≤ R.cells ∧ slots + rm.slots ≤ R.slots)
    (kk : ∀ (r : Int32) (W1 : va_W) (H1 : Heap) (locs1 : List Loc), post r W1 → va_P D vwCl (wr ++ W1) H1 → va_D A0 (wr ++ W1) → va_S A0 s.heap H1 locs1 → W p l e R s m args below meth c H1 locs1 (cells + rm.cells) (slots + rm.slots) Q (F0 m (pc + 3) ls (.int r :: rest))) : W p l e R s m args below meth c H locs cells slots Q (F0 m pc ls st0) := by
  subst hrC
  have hF := va_free hD hS hE.2.1 isC hC
  refine va_calli (va_runV (fixA hX) (hM H.size) cw ⟨cP_blind, recvA hE hP isC hC hq hc, fun U hU hW => ⟨rfl, cP_pay hE hP hD hS isC hC hnd.1 U hU hW⟩⟩ rfl hn hsize hst (lv_room hW) hdg hf) hS (fun q _ h => hF q h) hF (fun r u t H1 locs1 ht hvm hw hB hz1 hk1 hS1 => ?_)
  obtain ⟨hP1, hK1, hD1⟩ := hB
  rw [ht] at hP1
  obtain ⟨ha, hb⟩ := va_join hP hD isC isR hC hR hnd.2.1 hnd.2.2 hk1 hF hP1 hD1
  exact kk r u H1 locs1 hw ha hb hS1
theorem kVv {post : va_W → Prop} (hX : Ex p s m args meth c cc rt0 nL own) (hE : Ew D cy A0 s) (hM : Cv l y bytes maxL rt rm D cy (.ref b :: As) WS post) (cw : CallW R s args own C index y bytes maxL rt (Cond.code y bytes maxL rt :: wA) rm rm.cells rm.slots n)
    (hP : va_P D vwCl W0 H) (hD : va_D A0 W0) (hS : va_S A0 s.heap H locs) (isC isR : List Nat) (hC : isC.map (fun i => W0[i]?) = WS.map some) (hR : isR.map (fun i => W0[i]?) = wr.map some) (hnd : va_nd isC = true ∧ va_nd isR = true ∧ ∀ i ∈ isR, i ∉ isC)
    (q0 : Nat) {ci : Nat} {fs : List Value} {r : vw_C} (hq : WS[q0]? = some (b, .inr (ci, fs))) (hc : vwCl[ci]? = some r) (hrC : r.1 = C) (hn : As.length = n) (hsize : ls.size = nL) (hst : st0 = As.reverse ++ .ref b :: rest) (hW : (rest.map fun v => v.category).sum ≤ 8) (hdg : decode cc pc = .ok (.invokevirtual index, 3)) (hf : cells + rm.cells ≤ R.cells ∧ slots + rm.slots ≤ R.slots)
    (kk : ∀ (W1 : va_W) (H1 : Heap) (locs1 : List Loc), post W1 → va_P D vwCl (wr ++ W1) H1 → va_D A0 (wr ++ W1) → va_S A0 s.heap H1 locs1 → W p l e R s m args below meth c H1 locs1 (cells + rm.cells) (slots + rm.slots) Q (F0 m (pc + 3) ls rest)) : W p l e R s m args below meth c H locs cells slots Q (F0 m pc ls st0) := by
  subst hrC
  have hF := va_free hD hS hE.2.1 isC hC
  refine va_callv (va_runV (fixA hX) (hM H.size) cw ⟨cP_blind, recvA hE hP isC hC hq hc, fun U hU hW => ⟨rfl, cP_pay hE hP hD hS isC hC hnd.1 U hU hW⟩⟩ rfl hn hsize hst (lv_room hW) hdg hf) hS (fun q _ h => hF q h) hF (fun u t H1 locs1 ht hvm hw hB hz1 hk1 hS1 => ?_)
  obtain ⟨hP1, hK1, hD1⟩ := hB
  rw [ht] at hP1
  obtain ⟨ha, hb⟩ := va_join hP hD isC isR hC hR hnd.2.1 hnd.2.2 hk1 hF hP1 hD1
  exact kk u H1 locs1 hw ha hb hS1
theorem kVl {post : Int64 → va_W → Prop} (hX : Ex p s m args meth c cc rt0 nL own) (hE : Ew D cy A0 s) (hM : Cl l y bytes maxL rt rm D cy (.ref b :: As) WS post) (cw : CallW R s args own C index y bytes maxL rt (Cond.code y bytes maxL rt :: wA) rm rm.cells rm.slots n)
    (hP : va_P D vwCl W0 H) (hD : va_D A0 W0) (hS : va_S A0 s.heap H locs) (isC isR : List Nat) (hC : isC.map (fun i => W0[i]?) = WS.map some) (hR : isR.map (fun i => W0[i]?) = wr.map some) (hnd : va_nd isC = true ∧ va_nd isR = true ∧ ∀ i ∈ isR, i ∉ isC)
    (q0 : Nat) {ci : Nat} {fs : List Value} {r : vw_C} (hq : WS[q0]? = some (b, .inr (ci, fs))) (hc : vwCl[ci]? = some r) (hrC : r.1 = C) (hn : As.length = n) (hsize : ls.size = nL) (hst : st0 = As.reverse ++ .ref b :: rest) (hW : (rest.map fun v => v.category).sum ≤ 8) (hdg : decode cc pc = .ok (.invokevirtual index, 3)) (hf : cells + rm.cells ≤ R.cells ∧ slots + rm.slots ≤ R.slots)
    (kk : ∀ (r : Int64) (W1 : va_W) (H1 : Heap) (locs1 : List Loc), post r W1 → va_P D vwCl (wr ++ W1) H1 → va_D A0 (wr ++ W1) → va_S A0 s.heap H1 locs1 → W p l e R s m args below meth c H1 locs1 (cells + rm.cells) (slots + rm.slots) Q (F0 m (pc + 3) ls (.long r :: rest))) : W p l e R s m args below meth c H locs cells slots Q (F0 m pc ls st0) := by
  subst hrC
  have hF := va_free hD hS hE.2.1 isC hC
  refine va_calll (va_runV (fixA hX) (hM H.size) cw ⟨cP_blind, recvA hE hP isC hC hq hc, fun U hU hW => ⟨rfl, cP_pay hE hP hD hS isC hC hnd.1 U hU hW⟩⟩ rfl hn hsize hst (lv_room hW) hdg hf) hS (fun q _ h => hF q h) hF (fun r u t H1 locs1 ht hvm hw hB hz1 hk1 hS1 => ?_)
  obtain ⟨hP1, hK1, hD1⟩ := hB
  rw [ht] at hP1
  obtain ⟨ha, hb⟩ := va_join hP hD isC isR hC hR hnd.2.1 hnd.2.2 hk1 hF hP1 hD1
  exact kk r u H1 locs1 hw ha hb hS1
theorem kSi {post : Int32 → va_W → Prop} (hX : Ex p s m args meth c cc rt0 nL own) (hE : Ew D cy A0 s) (hM : Ci l y bytes maxL rt rm D cy As WS post) (cw : CallB R s args own index y bytes maxL rt (Cond.code y bytes maxL rt :: wA) rm rm.cells rm.slots n ∧ (Cond.static y).before args s = true)
    (hP : va_P D vwCl W0 H) (hD : va_D A0 W0) (hS : va_S A0 s.heap H locs) (isC isR : List Nat) (hC : isC.map (fun i => W0[i]?) = WS.map some) (hR : isR.map (fun i => W0[i]?) = wr.map some) (hnd : va_nd isC = true ∧ va_nd isR = true ∧ ∀ i ∈ isR, i ∉ isC)
    (hn : As.length = n) (hsize : ls.size = nL) (hst : st0 = As.reverse ++ rest) (hW : (rest.map fun v => v.category).sum ≤ 8) (hdg : decode cc pc = .ok (.invokestatic index, 3)) (hf : cells + rm.cells ≤ R.cells ∧ slots + rm.slots ≤ R.slots)
    (kk : ∀ (r : Int32) (W1 : va_W) (H1 : Heap) (locs1 : List Loc), post r W1 → va_P D vwCl (wr ++ W1) H1 → va_D A0 (wr ++ W1) → va_S A0 s.heap H1 locs1 → W p l e R s m args below meth c H1 locs1 (cells + rm.cells) (slots + rm.slots) Q (F0 m (pc + 3) ls (.int r :: rest))) : W p l e R s m args below meth c H locs cells slots Q (F0 m pc ls st0) := by
  have hF := va_free hD hS hE.2.1 isC hC
  refine va_calli (va_runS (fixA hX) (hM H.size) cw ⟨cP_blind, fun U hU hW => ⟨rfl, cP_pay hE hP hD hS isC hC hnd.1 U hU hW⟩⟩ rfl hn hsize hst (lv_room hW) hdg hf) hS (fun q _ h => hF q h) hF (fun r u t H1 locs1 ht hvm hw hB hz1 hk1 hS1 => ?_)
  obtain ⟨hP1, hK1, hD1⟩ := hB
  rw [ht] at hP1
  obtain ⟨ha, hb⟩ := va_join hP hD isC isR hC hR hnd.2.1 hnd.2.2 hk1 hF hP1 hD1
  exact kk r u H1 locs1 hw ha hb hS1
theorem kIv {post : va_W → Prop} (hX : Ex p s m args meth c cc rt0 nL own) (hE : Ew D cy A0 s) (hM : Cv l y bytes maxL none rm D cy (.ref b :: As) WS post) (cw : CallB R s args own index y bytes maxL none (Cond.code y bytes maxL none :: wA) rm rm.cells rm.slots n ∧ y.name = "<init>" ∧ (Cond.instanceMethod y).before args s = true)
    (hP : va_P D vwCl W0 H) (hD : va_D A0 W0) (hS : va_S A0 s.heap H locs) (isC isR : List Nat) (hC : isC.map (fun i => W0[i]?) = WS.map some) (hR : isR.map (fun i => W0[i]?) = wr.map some) (hnd : va_nd isC = true ∧ va_nd isR = true ∧ ∀ i ∈ isR, i ∉ isC)
    (hn : As.length = n) (hsize : ls.size = nL) (hst : st0 = As.reverse ++ .ref b :: rest) (hW : (rest.map fun v => v.category).sum ≤ 8) (hdg : decode cc pc = .ok (.invokespecial index, 3)) (hf : cells + rm.cells ≤ R.cells ∧ slots + rm.slots ≤ R.slots)
    (kk : ∀ (W1 : va_W) (H1 : Heap) (locs1 : List Loc), post W1 → va_P D vwCl (wr ++ W1) H1 → va_D A0 (wr ++ W1) → va_S A0 s.heap H1 locs1 → W p l e R s m args below meth c H1 locs1 (cells + rm.cells) (slots + rm.slots) Q (F0 m (pc + 3) ls rest)) : W p l e R s m args below meth c H locs cells slots Q (F0 m pc ls st0) := by
  have hF := va_free hD hS hE.2.1 isC hC
  refine va_callv (va_runI (fixA hX) (hM H.size) cw ⟨cP_blind, fun U hU hW => ⟨rfl, cP_pay hE hP hD hS isC hC hnd.1 U hU hW⟩⟩ rfl hn hsize hst (lv_room hW) hdg hf) hS (fun q _ h => hF q h) hF (fun u t H1 locs1 ht hvm hw hB hz1 hk1 hS1 => ?_)
  obtain ⟨hP1, hK1, hD1⟩ := hB
  rw [ht] at hP1
  obtain ⟨ha, hb⟩ := va_join hP hD isC isR hC hR hnd.2.1 hnd.2.2 hk1 hF hP1 hD1
  exact kk u H1 locs1 hw ha hb hS1
theorem kNv {post : va_W → Prop} (hX : Ex p s m args meth c cc rt0 nL own) (hE : Ew D cy A0 s) (hM : Cv l y bytes maxL none rm D cy (.ref b :: As) WS post) (cw : va_CN R s args own index y host bytes maxL none (Cond.code y bytes maxL none :: wA) rm rm.cells rm.slots n ∧ y.name = "<init>" ∧ (Cond.instanceMethod y).before args s = true)
    (hP : va_P D vwCl W0 H) (hD : va_D A0 W0) (hS : va_S A0 s.heap H locs) (isC isR : List Nat) (hC : isC.map (fun i => W0[i]?) = WS.map some) (hR : isR.map (fun i => W0[i]?) = wr.map some) (hnd : va_nd isC = true ∧ va_nd isR = true ∧ ∀ i ∈ isR, i ∉ isC)
    (hn : As.length = n) (hsize : ls.size = nL) (hst : st0 = As.reverse ++ .ref b :: rest) (hW : (rest.map fun v => v.category).sum ≤ 8) (hdg : decode cc pc = .ok (.invokespecial index, 3)) (hf : cells + rm.cells ≤ R.cells ∧ slots + rm.slots ≤ R.slots)
    (kk : ∀ (W1 : va_W) (H1 : Heap) (locs1 : List Loc), post W1 → va_P D vwCl (wr ++ W1) H1 → va_D A0 (wr ++ W1) → va_S A0 s.heap H1 locs1 → W p l e R s m args below meth c H1 locs1 (cells + rm.cells) (slots + rm.slots) Q (F0 m (pc + 3) ls rest)) : W p l e R s m args below meth c H locs cells slots Q (F0 m pc ls st0) := by
  have hF := va_free hD hS hE.2.1 isC hC
  refine va_callv (va_runIN (fixA hX) (hM H.size) cw ⟨cP_blind, fun U hU hW => ⟨rfl, cP_pay hE hP hD hS isC hC hnd.1 U hU hW⟩⟩ rfl hn hsize hst (lv_room hW) hdg hf) hS (fun q _ h => hF q h) hF (fun u t H1 locs1 ht hvm hw hB hz1 hk1 hS1 => ?_)
  obtain ⟨hP1, hK1, hD1⟩ := hB
  rw [ht] at hP1
  obtain ⟨ha, hb⟩ := va_join hP hD isC isR hC hR hnd.2.1 hnd.2.2 hk1 hF hP1 hD1
  exact kk u H1 locs1 hw ha hb hS1
theorem xVi {post : Int32 → va_W → Prop} (hX : Ex p s m args meth c cc rt0 nL own) (hE : Ew D cy A0 s) (hM : Xi l y bytes maxL rt rm D cy (.ref b :: As) WS post px) (cw : CallW R s args own C index y bytes maxL rt (Cond.code y bytes maxL rt :: wA) rm rm.cells rm.slots n)
    (hP : va_P D vwCl W0 H) (hD : va_D A0 W0) (hS : va_S A0 s.heap H locs) (isC isR : List Nat) (hC : isC.map (fun i => W0[i]?) = WS.map some) (hR : isR.map (fun i => W0[i]?) = wr.map some) (hnd : va_nd isC = true ∧ va_nd isR = true ∧ ∀ i ∈ isR, i ∉ isC)
    (q0 : Nat) {ci : Nat} {fs : List Value} {r : vw_C} (hq : WS[q0]? = some (b, .inr (ci, fs))) (hc : vwCl[ci]? = some r) (hrC : r.1 = C) (hn : As.length = n) (hsize : ls.size = nL) (hst : st0 = As.reverse ++ .ref b :: rest) (hW : (rest.map fun v => v.category).sum ≤ 8) (hdg : decode cc pc = .ok (.invokevirtual index, 3)) (hf : cells + rm.cells ≤ R.cells ∧ slots + rm.slots ≤ R.slots)
    (kx : ∀ (E : String) (ce : Cell) (q9 : Addr) (W1 : va_W) (H1 : Heap) (locs1 : List Loc), px E W1 → va_P D vwCl (wr ++ W1) H1 → va_D A0 (wr ++ W1) → va_S A0 s.heap H1 locs1 → H1[q9]? = some ce → ce.vm = .none → s.vm.findClass E = some ce.cls → vx_W p l e R s m args below meth c H1 locs1 (cells + rm.cells) (slots + rm.slots) Q (F0 m pc ls rest) q9)
    (kk : ∀ (r : Int32) (W1 : va_W) (H1 : Heap) (locs1 : List Loc), post r W1 → va_P D vwCl (wr ++ W1) H1 → va_D A0 (wr ++ W1) → va_S A0 s.heap H1 locs1 → W p l e R s m args below meth c H1 locs1 (cells + rm.cells) (slots + rm.slots) Q (F0 m (pc + 3) ls (.int r :: rest))) : W p l e R s m args below meth c H locs cells slots Q (F0 m pc ls st0) := by
  subst hrC
  have hF := va_free hD hS hE.2.1 isC hC
  refine vx_calli (vx_runV (fixA hX) (hM H.size) cw ⟨cP_blind, recvA hE hP isC hC hq hc, fun U hU hW => ⟨rfl, cP_pay hE hP hD hS isC hC hnd.1 U hU hW⟩⟩ rfl hn hsize hst (lv_room hW) hdg hf) hS (fun q _ h => hF q h) hF (fun q _ h => hF q h) (fun E ce q9 u t H1 locs1 ht hvm hw hB hz1 hk1 hS1 hce hcv hcl => ?_) (fun r u t H1 locs1 ht hvm hw hB hz1 hk1 hS1 => ?_)
  · obtain ⟨hpx, hP1, hK1, hD1⟩ := hB
    rw [ht] at hP1
    obtain ⟨ha, hb⟩ := va_join hP hD isC isR hC hR hnd.2.1 hnd.2.2 hk1 hF hP1 hD1
    exact kx E ce q9 u H1 locs1 hpx ha hb hS1 hce hcv hcl
  · obtain ⟨hP1, hK1, hD1⟩ := hB
    rw [ht] at hP1
    obtain ⟨ha, hb⟩ := va_join hP hD isC isR hC hR hnd.2.1 hnd.2.2 hk1 hF hP1 hD1
    exact kk r u H1 locs1 hw ha hb hS1
theorem xVv {post : va_W → Prop} (hX : Ex p s m args meth c cc rt0 nL own) (hE : Ew D cy A0 s) (hM : Xv l y bytes maxL rt rm D cy (.ref b :: As) WS post px) (cw : CallW R s args own C index y bytes maxL rt (Cond.code y bytes maxL rt :: wA) rm rm.cells rm.slots n)
    (hP : va_P D vwCl W0 H) (hD : va_D A0 W0) (hS : va_S A0 s.heap H locs) (isC isR : List Nat) (hC : isC.map (fun i => W0[i]?) = WS.map some) (hR : isR.map (fun i => W0[i]?) = wr.map some) (hnd : va_nd isC = true ∧ va_nd isR = true ∧ ∀ i ∈ isR, i ∉ isC)
    (q0 : Nat) {ci : Nat} {fs : List Value} {r : vw_C} (hq : WS[q0]? = some (b, .inr (ci, fs))) (hc : vwCl[ci]? = some r) (hrC : r.1 = C) (hn : As.length = n) (hsize : ls.size = nL) (hst : st0 = As.reverse ++ .ref b :: rest) (hW : (rest.map fun v => v.category).sum ≤ 8) (hdg : decode cc pc = .ok (.invokevirtual index, 3)) (hf : cells + rm.cells ≤ R.cells ∧ slots + rm.slots ≤ R.slots)
    (kx : ∀ (E : String) (ce : Cell) (q9 : Addr) (W1 : va_W) (H1 : Heap) (locs1 : List Loc), px E W1 → va_P D vwCl (wr ++ W1) H1 → va_D A0 (wr ++ W1) → va_S A0 s.heap H1 locs1 → H1[q9]? = some ce → ce.vm = .none → s.vm.findClass E = some ce.cls → vx_W p l e R s m args below meth c H1 locs1 (cells + rm.cells) (slots + rm.slots) Q (F0 m pc ls rest) q9)
    (kk : ∀ (W1 : va_W) (H1 : Heap) (locs1 : List Loc), post W1 → va_P D vwCl (wr ++ W1) H1 → va_D A0 (wr ++ W1) → va_S A0 s.heap H1 locs1 → W p l e R s m args below meth c H1 locs1 (cells + rm.cells) (slots + rm.slots) Q (F0 m (pc + 3) ls rest)) : W p l e R s m args below meth c H locs cells slots Q (F0 m pc ls st0) := by
  subst hrC
  have hF := va_free hD hS hE.2.1 isC hC
  refine vx_callv (vx_runV (fixA hX) (hM H.size) cw ⟨cP_blind, recvA hE hP isC hC hq hc, fun U hU hW => ⟨rfl, cP_pay hE hP hD hS isC hC hnd.1 U hU hW⟩⟩ rfl hn hsize hst (lv_room hW) hdg hf) hS (fun q _ h => hF q h) hF (fun q _ h => hF q h) (fun E ce q9 u t H1 locs1 ht hvm hw hB hz1 hk1 hS1 hce hcv hcl => ?_) (fun u t H1 locs1 ht hvm hw hB hz1 hk1 hS1 => ?_)
  · obtain ⟨hpx, hP1, hK1, hD1⟩ := hB
    rw [ht] at hP1
    obtain ⟨ha, hb⟩ := va_join hP hD isC isR hC hR hnd.2.1 hnd.2.2 hk1 hF hP1 hD1
    exact kx E ce q9 u H1 locs1 hpx ha hb hS1 hce hcv hcl
  · obtain ⟨hP1, hK1, hD1⟩ := hB
    rw [ht] at hP1
    obtain ⟨ha, hb⟩ := va_join hP hD isC isR hC hR hnd.2.1 hnd.2.2 hk1 hF hP1 hD1
    exact kk u H1 locs1 hw ha hb hS1
theorem xVl {post : Int64 → va_W → Prop} (hX : Ex p s m args meth c cc rt0 nL own) (hE : Ew D cy A0 s) (hM : Xl l y bytes maxL rt rm D cy (.ref b :: As) WS post px) (cw : CallW R s args own C index y bytes maxL rt (Cond.code y bytes maxL rt :: wA) rm rm.cells rm.slots n)
    (hP : va_P D vwCl W0 H) (hD : va_D A0 W0) (hS : va_S A0 s.heap H locs) (isC isR : List Nat) (hC : isC.map (fun i => W0[i]?) = WS.map some) (hR : isR.map (fun i => W0[i]?) = wr.map some) (hnd : va_nd isC = true ∧ va_nd isR = true ∧ ∀ i ∈ isR, i ∉ isC)
    (q0 : Nat) {ci : Nat} {fs : List Value} {r : vw_C} (hq : WS[q0]? = some (b, .inr (ci, fs))) (hc : vwCl[ci]? = some r) (hrC : r.1 = C) (hn : As.length = n) (hsize : ls.size = nL) (hst : st0 = As.reverse ++ .ref b :: rest) (hW : (rest.map fun v => v.category).sum ≤ 8) (hdg : decode cc pc = .ok (.invokevirtual index, 3)) (hf : cells + rm.cells ≤ R.cells ∧ slots + rm.slots ≤ R.slots)
    (kx : ∀ (E : String) (ce : Cell) (q9 : Addr) (W1 : va_W) (H1 : Heap) (locs1 : List Loc), px E W1 → va_P D vwCl (wr ++ W1) H1 → va_D A0 (wr ++ W1) → va_S A0 s.heap H1 locs1 → H1[q9]? = some ce → ce.vm = .none → s.vm.findClass E = some ce.cls → vx_W p l e R s m args below meth c H1 locs1 (cells + rm.cells) (slots + rm.slots) Q (F0 m pc ls rest) q9)
    (kk : ∀ (r : Int64) (W1 : va_W) (H1 : Heap) (locs1 : List Loc), post r W1 → va_P D vwCl (wr ++ W1) H1 → va_D A0 (wr ++ W1) → va_S A0 s.heap H1 locs1 → W p l e R s m args below meth c H1 locs1 (cells + rm.cells) (slots + rm.slots) Q (F0 m (pc + 3) ls (.long r :: rest))) : W p l e R s m args below meth c H locs cells slots Q (F0 m pc ls st0) := by
  subst hrC
  have hF := va_free hD hS hE.2.1 isC hC
  refine vx_calll (vx_runV (fixA hX) (hM H.size) cw ⟨cP_blind, recvA hE hP isC hC hq hc, fun U hU hW => ⟨rfl, cP_pay hE hP hD hS isC hC hnd.1 U hU hW⟩⟩ rfl hn hsize hst (lv_room hW) hdg hf) hS (fun q _ h => hF q h) hF (fun q _ h => hF q h) (fun E ce q9 u t H1 locs1 ht hvm hw hB hz1 hk1 hS1 hce hcv hcl => ?_) (fun r u t H1 locs1 ht hvm hw hB hz1 hk1 hS1 => ?_)
  · obtain ⟨hpx, hP1, hK1, hD1⟩ := hB
    rw [ht] at hP1
    obtain ⟨ha, hb⟩ := va_join hP hD isC isR hC hR hnd.2.1 hnd.2.2 hk1 hF hP1 hD1
    exact kx E ce q9 u H1 locs1 hpx ha hb hS1 hce hcv hcl
  · obtain ⟨hP1, hK1, hD1⟩ := hB
    rw [ht] at hP1
    obtain ⟨ha, hb⟩ := va_join hP hD isC isR hC hR hnd.2.1 hnd.2.2 hk1 hF hP1 hD1
    exact kk r u H1 locs1 hw ha hb hS1
theorem xSi {post : Int32 → va_W → Prop} (hX : Ex p s m args meth c cc rt0 nL own) (hE : Ew D cy A0 s) (hM : Xi l y bytes maxL rt rm D cy As WS post px) (cw : CallB R s args own index y bytes maxL rt (Cond.code y bytes maxL rt :: wA) rm rm.cells rm.slots n ∧ (Cond.static y).before args s = true)
    (hP : va_P D vwCl W0 H) (hD : va_D A0 W0) (hS : va_S A0 s.heap H locs) (isC isR : List Nat) (hC : isC.map (fun i => W0[i]?) = WS.map some) (hR : isR.map (fun i => W0[i]?) = wr.map some) (hnd : va_nd isC = true ∧ va_nd isR = true ∧ ∀ i ∈ isR, i ∉ isC)
    (hn : As.length = n) (hsize : ls.size = nL) (hst : st0 = As.reverse ++ rest) (hW : (rest.map fun v => v.category).sum ≤ 8) (hdg : decode cc pc = .ok (.invokestatic index, 3)) (hf : cells + rm.cells ≤ R.cells ∧ slots + rm.slots ≤ R.slots)
    (kx : ∀ (E : String) (ce : Cell) (q9 : Addr) (W1 : va_W) (H1 : Heap) (locs1 : List Loc), px E W1 → va_P D vwCl (wr ++ W1) H1 → va_D A0 (wr ++ W1) → va_S A0 s.heap H1 locs1 → H1[q9]? = some ce → ce.vm = .none → s.vm.findClass E = some ce.cls → vx_W p l e R s m args below meth c H1 locs1 (cells + rm.cells) (slots + rm.slots) Q (F0 m pc ls rest) q9)
    (kk : ∀ (r : Int32) (W1 : va_W) (H1 : Heap) (locs1 : List Loc), post r W1 → va_P D vwCl (wr ++ W1) H1 → va_D A0 (wr ++ W1) → va_S A0 s.heap H1 locs1 → W p l e R s m args below meth c H1 locs1 (cells + rm.cells) (slots + rm.slots) Q (F0 m (pc + 3) ls (.int r :: rest))) : W p l e R s m args below meth c H locs cells slots Q (F0 m pc ls st0) := by
  have hF := va_free hD hS hE.2.1 isC hC
  refine vx_calli (vx_runS (fixA hX) (hM H.size) cw ⟨cP_blind, fun U hU hW => ⟨rfl, cP_pay hE hP hD hS isC hC hnd.1 U hU hW⟩⟩ rfl hn hsize hst (lv_room hW) hdg hf) hS (fun q _ h => hF q h) hF (fun q _ h => hF q h) (fun E ce q9 u t H1 locs1 ht hvm hw hB hz1 hk1 hS1 hce hcv hcl => ?_) (fun r u t H1 locs1 ht hvm hw hB hz1 hk1 hS1 => ?_)
  · obtain ⟨hpx, hP1, hK1, hD1⟩ := hB
    rw [ht] at hP1
    obtain ⟨ha, hb⟩ := va_join hP hD isC isR hC hR hnd.2.1 hnd.2.2 hk1 hF hP1 hD1
    exact kx E ce q9 u H1 locs1 hpx ha hb hS1 hce hcv hcl
  · obtain ⟨hP1, hK1, hD1⟩ := hB
    rw [ht] at hP1
    obtain ⟨ha, hb⟩ := va_join hP hD isC isR hC hR hnd.2.1 hnd.2.2 hk1 hF hP1 hD1
    exact kk r u H1 locs1 hw ha hb hS1
end Calls
theorem in_lit {i : Int32} {n : Nat} (h : decide (¬ (i < 0 ∨ n ≤ i.toNatClampNeg)) = true) : vp_in i n := (of_decide_eq_true h : ¬ (i < 0 ∨ n ≤ i.toNatClampNeg))
theorem xSW_in {s : State} (h : xS s) (own : String) (k : Nat) (tx : String) (hm : (own, k, tx) ∈ xSW) : ∃ a : Nat, vk_R own k tx a s := h.2.1 _ hm
theorem xEW_in {s : State} (h : xS s) {w : Cond} (hm : w ∈ xEW) : va_Nw w s := h.1 _ hm
theorem at_of {args : Array Value} {s : State} (ht : ∀ w ∈ wA, w.before args s = true) (h : xS s) {L : List Cond} (hL : ∀ w ∈ L, w ∈ wA ∨ w ∈ xEW) : ∀ w ∈ L, w.before args s = true := fun w hw => (hL w hw).elim (ht w) (fun q => va_Nw.use (xE_on (xEW_k w q)) (h.1 w q))
section Makes
variable {p : Program} {l : Launch} {e : Env} {R : Room} {s : State} {m : MethodId} {args : Array Value} {below : List Frame} {meth : Method} {c : Code} {H : Heap} {locs : List Loc} {cells slots : Nat} {Q : State → Prop} {cc : ByteArray} {rt : Option FieldType} {nL pc : Nat} {own : String} {ls : Array Slot} {D : va_G} {cy : Nat → ClassId} {A : Nat → Prop} {W0 : va_W} {rest : List Value} {px : String → va_W → Prop}
theorem k_ty {cA : ClassId} {ty : FieldType} (k : Nat) (hk : (xTY cy)[k]? = some (cy k, ty)) (hp : ∀ z : ClassId, va_RA s z ty → s.vm.findClass ("[" ++ ty.toString) = some z) (hE : Ew D cy A s) (h : va_K D vwCl (xTY cy ++ [(cA, ty)]) s) : cA = cy k := by
  have h1 := hp _ (h.2 7 (cA, ty) rfl).2
  have h2 := hp _ (hE.1.2 k (cy k, ty) hk).2
  exact Option.some.inj (h1.symm.trans h2)
theorem k_newa0 {n : Int32} {N : Nat} (hx : p.tables.exec = Jvm.exec) (hb : c.code = cc) (harr : (Cond.arrayClass .int).before args s = true) (hE : Ew D cy A s) (hP : va_P D vwCl W0 H) (hD : va_D A W0) (hS : va_S A s.heap H locs) (hn : ¬ n < 0) (hN : n.toNatClampNeg = N) (hby : N * componentBytes .int ≤ 536870912) (hc : cells + 1 ≤ R.cells) (hs : slots + N ≤ R.slots) (hdg : decode cc pc = .ok (.newarray .int, 2))
    (kk : ∀ (q : Nat) (H1 : Heap), va_P D vwCl (W0 ++ [(q, .inl (cy 0, N, .inl (fun _ => 0)))]) H1 → va_D A (W0 ++ [(q, .inl (cy 0, N, .inl (fun _ => 0)))]) → va_S A s.heap H1 locs → W p l e R s m args below meth c H1 locs (cells + 1) (slots + N) Q (F0 m (pc + 2) ls (.ref q :: rest))) : W p l e R s m args below meth c H locs cells slots Q (F0 m pc ls (.int n :: rest)) := by
  refine va_newa (atype := .int) (ty := .int) (a0 := (N, .inl (fun _ => 0))) hx hb harr rfl hE.1 hP hD hS hE.2.1 (fun cA => rfl) hn hN hby hc hs hdg (fun q cA H1 hK1 hP1 hD1 hS1 => ?_)
  have ec := k_ty 0 rfl (fun z h => h) hE hK1
  subst ec
  exact kk q H1 hP1 hD1 hS1
theorem k_newa1 {n : Int32} {N : Nat} (hx : p.tables.exec = Jvm.exec) (hb : c.code = cc) (harr : (Cond.arrayClass .byte).before args s = true) (hE : Ew D cy A s) (hP : va_P D vwCl W0 H) (hD : va_D A W0) (hS : va_S A s.heap H locs) (hn : ¬ n < 0) (hN : n.toNatClampNeg = N) (hby : N * componentBytes .byte ≤ 536870912) (hc : cells + 1 ≤ R.cells) (hs : slots + N ≤ R.slots) (hdg : decode cc pc = .ok (.newarray .byte, 2))
    (kk : ∀ (q : Nat) (H1 : Heap), va_P D vwCl (W0 ++ [(q, .inl (cy 1, N, .inl (fun _ => 0)))]) H1 → va_D A (W0 ++ [(q, .inl (cy 1, N, .inl (fun _ => 0)))]) → va_S A s.heap H1 locs → W p l e R s m args below meth c H1 locs (cells + 1) (slots + N) Q (F0 m (pc + 2) ls (.ref q :: rest))) : W p l e R s m args below meth c H locs cells slots Q (F0 m pc ls (.int n :: rest)) := by
  refine va_newa (atype := .byte) (ty := .byte) (a0 := (N, .inl (fun _ => 0))) hx hb harr rfl hE.1 hP hD hS hE.2.1 (fun cA => rfl) hn hN hby hc hs hdg (fun q cA H1 hK1 hP1 hD1 hS1 => ?_)
  have ec := k_ty 1 rfl (fun z h => h) hE hK1
  subst ec
  exact kk q H1 hP1 hD1 hS1
theorem k_newa2 {n : Int32} {N : Nat} (hx : p.tables.exec = Jvm.exec) (hb : c.code = cc) (harr : (Cond.arrayClass .long).before args s = true) (hE : Ew D cy A s) (hP : va_P D vwCl W0 H) (hD : va_D A W0) (hS : va_S A s.heap H locs) (hn : ¬ n < 0) (hN : n.toNatClampNeg = N) (hby : N * componentBytes .long ≤ 536870912) (hc : cells + 1 ≤ R.cells) (hs : slots + N ≤ R.slots) (hdg : decode cc pc = .ok (.newarray .long, 2))
    (kk : ∀ (q : Nat) (H1 : Heap), va_P D vwCl (W0 ++ [(q, .inl (cy 2, N, .inr (.inl (fun _ => 0))))]) H1 → va_D A (W0 ++ [(q, .inl (cy 2, N, .inr (.inl (fun _ => 0))))]) → va_S A s.heap H1 locs → W p l e R s m args below meth c H1 locs (cells + 1) (slots + N) Q (F0 m (pc + 2) ls (.ref q :: rest))) : W p l e R s m args below meth c H locs cells slots Q (F0 m pc ls (.int n :: rest)) := by
  refine va_newa (atype := .long) (ty := .long) (a0 := (N, .inr (.inl (fun _ => 0)))) hx hb harr rfl hE.1 hP hD hS hE.2.1 (fun cA => rfl) hn hN hby hc hs hdg (fun q cA H1 hK1 hP1 hD1 hS1 => ?_)
  have ec := k_ty 2 rfl (fun z h => h) hE hK1
  subst ec
  exact kk q H1 hP1 hD1 hS1
theorem k_newa3 {n : Int32} {N : Nat} (hx : p.tables.exec = Jvm.exec) (hb : c.code = cc) (harr : (Cond.arrayClass .boolean).before args s = true) (hE : Ew D cy A s) (hP : va_P D vwCl W0 H) (hD : va_D A W0) (hS : va_S A s.heap H locs) (hn : ¬ n < 0) (hN : n.toNatClampNeg = N) (hby : N * componentBytes .boolean ≤ 536870912) (hc : cells + 1 ≤ R.cells) (hs : slots + N ≤ R.slots) (hdg : decode cc pc = .ok (.newarray .boolean, 2))
    (kk : ∀ (q : Nat) (H1 : Heap), va_P D vwCl (W0 ++ [(q, .inl (cy 3, N, .inl (fun _ => 0)))]) H1 → va_D A (W0 ++ [(q, .inl (cy 3, N, .inl (fun _ => 0)))]) → va_S A s.heap H1 locs → W p l e R s m args below meth c H1 locs (cells + 1) (slots + N) Q (F0 m (pc + 2) ls (.ref q :: rest))) : W p l e R s m args below meth c H locs cells slots Q (F0 m pc ls (.int n :: rest)) := by
  refine va_newa (atype := .boolean) (ty := .boolean) (a0 := (N, .inl (fun _ => 0))) hx hb harr rfl hE.1 hP hD hS hE.2.1 (fun cA => rfl) hn hN hby hc hs hdg (fun q cA H1 hK1 hP1 hD1 hS1 => ?_)
  have ec := k_ty 3 rfl (fun z h => h) hE hK1
  subst ec
  exact kk q H1 hP1 hD1 hS1
theorem k_after {W1 : va_W} {t : State} (hE : Ew D cy A s) (hP : va_P D vwCl W1 H) (hD : va_D A W1) (hS : va_S A s.heap H locs) (hal : s.vm.Alike t.vm) (hz : H.size ≤ t.heap.size) (hq : ∀ q : Nat, q < H.size → t.heap[q]? = H[q]?) {E : String} (hp : px E W1) : xB D cy A px E s t :=
  ⟨W1, trivial, ⟨hp, hP.kept (fun k q hk => hq _ (hP k q hk).lt), va_K.moved hal hE.1, hD⟩, Nat.le_trans hS.1 hz, fun q h1 h2 => by rw [hq q (Nat.lt_of_lt_of_le h1 hS.1)]; exact hS.2.1 q h1 h2⟩
theorem k_throwS {Qc : Array Value → State → Outcome → State → Prop} {cls text : String} {ik is ic kc ks : Nat} {W1 : va_W} (hl : l.stackTraces = false) (hX : Ex p s m args meth c cc rt nL own) (hE : Ew D cy A s) (hxt : ∀ x ∈ c.exceptionTable.toList, False) (hP : va_P D vwCl W1 H) (hD : va_D A W1) (hS : va_S A s.heap H locs) (hsz : ls.size = nL) (hcls : Bundle.fit cls = true)
    (hk : (Cond.classLink own ik cls).before args s = true) (hini : (Cond.initialized cls).before args s = true) (hstr : ∃ sa : Nat, vk_R own is text sa s) (hat : ∀ w ∈ vx_atS own ic cls ["java/lang/RuntimeException", "java/lang/Exception"], w.before args s = true) (hgood : ∀ w ∈ Cond.classLink own ik cls :: Cond.initialized cls :: vx_atS own ic cls ["java/lang/RuntimeException", "java/lang/Exception"], vx_ot w = true)
    (d0 : decode cc pc = .ok (.new ik, 3)) (d3 : decode cc (pc + 3) = .ok (.dup, 1)) (d4 : decode cc (pc + 4) = .ok (.ldc is, 2)) (d6 : decode cc (pc + 6) = .ok (.invokespecial ic, 3)) (d9 : decode cc (pc + 9) = .ok (.athrow, 1))
    (hf : 5 < R.frames) (hlo : (rest.map fun v => v.category).sum + 82 ≤ R.locals) (hc1 : cells + 1 ≤ R.cells) (hs1 : slots + 6 ≤ R.slots) (hc : cells + 1 ≤ kc) (hs : slots + 6 ≤ ks) (hp : px cls W1) :
    W p l e R s m args below meth c H locs cells slots (vx_MQ below Qc (xB D cy A px) args s kc ks A) (F0 m pc ls rest) :=
  hstr.elim fun sa hsa => vx_throwS (names := ["java/lang/RuntimeException", "java/lang/Exception"]) hX.1 hX.2.1 hl hX.2.2.2.2.1 hcls (by decide) hk hini hsa hat hgood hE.2.2.1.1 hE.2.2.1.2.1 hS (hsz.trans hX.2.2.2.1.symm) d0 d3 d4 d6 d9 (fun x hx => (hxt x hx).elim) hf hlo hc1 hs1 hX.2.2.2.2.2.2 (fun t hal hz hq => k_after hE hP hD hS hal hz hq hp) hS.2.2 hc hs
theorem k_throwSW {Qc : Array Value → State → Outcome → State → Prop} {cls text : String} {ik is ic kc ks : Nat} {W1 : va_W} (hl : l.stackTraces = false) (hX : Ex p s m args meth c cc rt nL own) (hE : Ew D cy A s) (hxt : ∀ x ∈ c.exceptionTable.toList, False) (hP : va_P D vwCl W1 H) (hD : va_D A W1) (hS : va_S A s.heap H locs) (hsz : ls.size = nL) (hcls : Bundle.fit cls = true)
    (hk : (Cond.classLink own ik cls).before args s = true) (hini : (Cond.initialized cls).before args s = true) (hstr : ∃ sa : Nat, vk_R own is text sa s) (hat : ∀ w ∈ vx_atS own ic cls ["java/lang/RuntimeException", "java/lang/Exception"], w.before args s = true) (hgood : ∀ w ∈ Cond.classLink own ik cls :: Cond.initialized cls :: vx_atS own ic cls ["java/lang/RuntimeException", "java/lang/Exception"], vx_ot w = true)
    (d0 : decode cc pc = .ok (.new ik, 3)) (d3 : decode cc (pc + 3) = .ok (.dup, 1)) (d4 : decode cc (pc + 4) = .ok (.ldc_w is, 3)) (d7 : decode cc (pc + 7) = .ok (.invokespecial ic, 3)) (d10 : decode cc (pc + 10) = .ok (.athrow, 1))
    (hf : 5 < R.frames) (hlo : (rest.map fun v => v.category).sum + 82 ≤ R.locals) (hc1 : cells + 1 ≤ R.cells) (hs1 : slots + 6 ≤ R.slots) (hc : cells + 1 ≤ kc) (hs : slots + 6 ≤ ks) (hp : px cls W1) :
    W p l e R s m args below meth c H locs cells slots (vx_MQ below Qc (xB D cy A px) args s kc ks A) (F0 m pc ls rest) :=
  hstr.elim fun sa hsa => vx_throwSW (names := ["java/lang/RuntimeException", "java/lang/Exception"]) hX.1 hX.2.1 hl hX.2.2.2.2.1 hcls (by decide) hk hini hsa hat hgood hE.2.2.1.1 hE.2.2.1.2.1 hS (hsz.trans hX.2.2.2.1.symm) d0 d3 d4 d7 d10 (fun x hx => (hxt x hx).elim) hf hlo hc1 hs1 hX.2.2.2.2.2.2 (fun t hal hz hq => k_after hE hP hD hS hal hz hq hp) hS.2.2 hc hs
end Makes
section MakesQ
variable {p : Program} {l : Launch} {e : Env} {R : Room} {s : State} {m : MethodId} {args : Array Value} {below : List Frame} {meth : Method} {c : Code} {H : Heap} {locs : List Loc} {cells slots : Nat} {Q : State → Prop} {cc : ByteArray} {pc : Nat} {own : String} {ls : Array Slot} {D : va_G} {cy : Nat → ClassId} {A : Nat → Prop} {W0 : va_W} {rest : List Value}
theorem k_newq {C : String} {n : Int32} {N index : Nat} (k : Nat) (hk : (xTY cy)[k]? = some (cy k, .object C)) (hC : C ∈ xAW) (hx : p.tables.exec = Jvm.exec) (hb : c.code = cc) (hown : s.vm.findClass own = some m.cls) (hcl : (Cond.classLink own index C).before args s = true) (hE : Ew D cy A s) (hP : va_P D vwCl W0 H) (hD : va_D A W0) (hS : va_S A s.heap H locs) (hn : ¬ n < 0) (hN : n.toNatClampNeg = N) (hby : N * 4 ≤ 536870912) (hc : cells + 1 ≤ R.cells) (hs : slots + N ≤ R.slots) (hdg : decode cc pc = .ok (.anewarray index, 3))
    (kk : ∀ (q : Nat) (H1 : Heap), va_P D vwCl (W0 ++ [(q, .inl (cy k, N, .inr (.inr (.inr (.inr (fun _ => none))))))]) H1 → va_D A (W0 ++ [(q, .inl (cy k, N, .inr (.inr (.inr (.inr (fun _ => none))))))]) → va_S A s.heap H1 locs → W p l e R s m args below meth c H1 locs (cells + 1) (slots + N) Q (F0 m (pc + 3) ls (.ref q :: rest))) : W p l e R s m args below meth c H locs cells slots Q (F0 m pc ls (.int n :: rest)) := by
  refine va_newq hx hb hown hcl (hE.2.2.2.2.2.2 C hC) hE.1 hP hD hS hE.2.1 hn hN hby hc hs hdg (fun q cA H1 hK1 hP1 hD1 hS1 => ?_)
  have ec : cA = cy k := k_ty k hk (fun z h => by obtain ⟨kA, comp, h1, h2, h3, h4⟩ := h; exact h4) hE hK1
  subst ec
  exact kk q H1 hP1 hD1 hS1
end MakesQ

/-! what a walk says beside: rounds of a loop -/
def It {α : Type} (B : α → α → Prop) : Nat → α → α → Prop
  | 0 => fun a b => a = b
  | n + 1 => fun a b => ∃ c, It B n a c ∧ B c b
def Itr {α : Type} (B : α → α → Prop) (a b : α) : Prop := ∃ n, It B n a b
theorem Itr.rf {α : Type} (B : α → α → Prop) (a : α) : Itr B a a := ⟨0, rfl⟩
theorem Itr.st {α : Type} {B : α → α → Prop} {a b c : α} (h : Itr B a b) (q : B b c) : Itr B a c := by
  obtain ⟨n, hn⟩ := h
  exact ⟨n + 1, b, hn, q⟩
