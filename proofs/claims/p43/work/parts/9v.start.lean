/-! the law's start: classes, arrays, statics, the tables' other words -/
theorem tb_of {w : Cond} (i : Nat) (h : tables_1[i]? = some w) : w ∈ lw_tbl := List.mem_append_right _ (List.mem_of_getElem? h)
theorem fl_c {α : Type} {P : α → Prop} {x : α} {l : List α} (h1 : P x) (h2 : ∀ w ∈ l, P w) : ∀ w ∈ x :: l, P w := List.forall_mem_cons.mpr ⟨h1, h2⟩
theorem fl_n {α : Type} {P : α → Prop} : ∀ w ∈ ([] : List α), P w := fun _ h => nomatch h
theorem ls_D {s : State} (h : ∀ (k : Nat) (q : vw_C), vwCl[k]? = some q → ∃ (cC : ClassId) (iS : Nat → Nat), u_Kn s q.1 q.2.1 q.2.2 cC iS) : ∃ D : va_G, ∀ (k : Nat) (q : vw_C), vwCl[k]? = some q → u_Kn s q.1 q.2.1 q.2.2 (D.1 k) (D.2 k) := by
  obtain ⟨c0, i0, -⟩ := h 0 _ rfl
  have h2 : ∀ k : Nat, ∃ d : ClassId × (Nat → Nat), ∀ q : vw_C, vwCl[k]? = some q → u_Kn s q.1 q.2.1 q.2.2 d.1 d.2 := by
    intro k
    cases hk : vwCl[k]? with
    | none => exact ⟨(c0, i0), fun q hq => by cases hq⟩
    | some q =>
      obtain ⟨c, i, hu⟩ := h k q hk
      exact ⟨(c, i), fun q' hq' => by cases hq'; exact hu⟩
  exact ⟨(fun k => (h2 k).choose.1, fun k => (h2 k).choose.2), fun k q hq => (h2 k).choose_spec q hq⟩
theorem ls_pa {args : Array Value} {s : State} {ty : FieldType} (h : (Cond.arrayClass ty).before args s = true) : ∃ cA : ClassId, ArrOfT s cA ty ∧ s.vm.findClass ("[" ++ ty.toString) = some cA := by
  obtain ⟨c, k, comp, h1, h2, h3⟩ := Cond.arrayClass_spec h
  exact ⟨c, fun n z => ⟨fun k h => (by cases h), k, h2, comp, h3⟩, h1⟩
theorem ls_qa {s : State} {C : String} (h : va_AO C s) : ∃ cA : ClassId, ArrOfT s cA (.object C) ∧ va_RA s cA (.object C) := by
  obtain ⟨comp, c, k, h1, h2, h3, h4, h5⟩ := Cond.arrayOver_spec h
  exact ⟨c, fun n z => ⟨fun k h => (by cases h), k, h3, comp, h4⟩, k, comp, h3, h4, h1, h5⟩
theorem ls_str {args : Array Value} {s : State} {own tx : String} {k : Nat} (h : (Cond.stringRef own k tx).before args s = true) : ∃ a : Nat, vk_R own k tx a s := by
  cases hc : s.vm.findClass own with
  | none => simp [Cond.before, Cond.holds, Cond.value, hc] at h
  | some cur =>
    obtain ⟨kk, cf, i, a, -, -, -, -, -, he⟩ := Cond.stringRef_spec (first := s) (o := none) (idx := []) hc h
    exact ⟨a, vk_R.of h he⟩
theorem ls_Z {args : Array Value} {s : State} {C n d : String} {A : Nat → Prop} (hl : (Cond.laysStatic C n d).before args s = true) (hini : (Cond.initialized C).before args s = true) (h : (Cond.isRef (.static C n d)).before args s = true) (hA : ∀ a : Nat, a < s.heap.size → ¬ A a) : vx_Zq C n d A s s.heap := by
  refine ⟨va_Zqof hl hini h hA, ?_⟩
  obtain ⟨c, k, i, f, a, cell, h1, h2, h3, h4, h5, h6, h7, h8, h9⟩ := Cond.laysStatic_spec hl
  exact ⟨c, k, i, f, a, cell, h1, h2, h3, h4, h5, h6, h7, h8, h9, hA a (Array.getElem?_eq_some_iff.mp h5).1⟩
theorem lgs {x y : Int64} (h : x = y) : lg_cmp x y = 0 := (lg_cmp_eq x y).mpr h
/-- addresses by a list -/
def pk_a : List (Nat × Nat) → Nat → Nat
  | [], _ => 0
  | (k, v) :: t, n => bif Nat.beq k n then v else pk_a t n
set_option maxRecDepth 100000 in
theorem xEW_t : ∀ w ∈ xEW, w ∈ lw_tbl := fl_c (P := fun w : Cond => w ∈ lw_tbl) (tb_of 38 rfl) (fl_c (P := fun w : Cond => w ∈ lw_tbl) (tb_of 71 rfl) (fl_c (P := fun w : Cond => w ∈ lw_tbl) (tb_of 135 rfl) (fl_c (P := fun w : Cond => w ∈ lw_tbl) (tb_of 291 rfl) (fl_c (P := fun w : Cond => w ∈ lw_tbl) (tb_of 533 rfl) (fl_c (P := fun w : Cond => w ∈ lw_tbl) (tb_of 534 rfl) (fl_c (P := fun w : Cond => w ∈ lw_tbl) (tb_of 535 rfl) (fl_c (P := fun w : Cond => w ∈ lw_tbl) (tb_of 536 rfl) (fl_c (P := fun w : Cond => w ∈ lw_tbl) (tb_of 537 rfl) (fl_c (P := fun w : Cond => w ∈ lw_tbl) (tb_of 538 rfl) (fl_c (P := fun w : Cond => w ∈ lw_tbl) (tb_of 539 rfl) (fl_c (P := fun w : Cond => w ∈ lw_tbl) (tb_of 604 rfl) (fl_c (P := fun w : Cond => w ∈ lw_tbl) (tb_of 871 rfl) (fl_c (P := fun w : Cond => w ∈ lw_tbl) (tb_of 981 rfl) (fl_c (P := fun w : Cond => w ∈ lw_tbl) (tb_of 1279 rfl) (fl_c (P := fun w : Cond => w ∈ lw_tbl) (tb_of 2073 rfl) (fl_c (P := fun w : Cond => w ∈ lw_tbl) (tb_of 2074 rfl) (fl_c (P := fun w : Cond => w ∈ lw_tbl) (tb_of 2075 rfl) (fl_c (P := fun w : Cond => w ∈ lw_tbl) (tb_of 2076 rfl) (fl_c (P := fun w : Cond => w ∈ lw_tbl) (tb_of 2077 rfl) (fl_c (P := fun w : Cond => w ∈ lw_tbl) (tb_of 2078 rfl) (fl_c (P := fun w : Cond => w ∈ lw_tbl) (tb_of 2079 rfl) (fl_c (P := fun w : Cond => w ∈ lw_tbl) (tb_of 2080 rfl) (fl_c (P := fun w : Cond => w ∈ lw_tbl) (tb_of 2081 rfl) (fl_c (P := fun w : Cond => w ∈ lw_tbl) (tb_of 2082 rfl) (fl_c (P := fun w : Cond => w ∈ lw_tbl) (tb_of 2083 rfl) (fl_c (P := fun w : Cond => w ∈ lw_tbl) (tb_of 2084 rfl) (fl_c (P := fun w : Cond => w ∈ lw_tbl) (tb_of 2085 rfl) (fl_c (P := fun w : Cond => w ∈ lw_tbl) (tb_of 2086 rfl) (fl_c (P := fun w : Cond => w ∈ lw_tbl) (tb_of 2087 rfl) (fl_c (P := fun w : Cond => w ∈ lw_tbl) (tb_of 2088 rfl) (fl_c (P := fun w : Cond => w ∈ lw_tbl) (tb_of 2089 rfl) (fl_c (P := fun w : Cond => w ∈ lw_tbl) (tb_of 2090 rfl) (fl_n)))))))))))))))))))))))))))))))))
set_option maxRecDepth 100000 in
theorem ls_t573 : (Jvm.Cond.stringRef "LateFalls" (85 : Nat) "not so many bytes") ∈ lw_tbl := tb_of 573 rfl
set_option maxRecDepth 100000 in
theorem ls_t622 : (Jvm.Cond.stringRef "LateFalls$Tokens" (58 : Nat) "fall thing walker hangs frees hour held up for on not and or weight column level lying wa wb la lb ") ∈ lw_tbl := tb_of 622 rfl
set_option maxRecDepth 100000 in
theorem ls_t674 : (Jvm.Cond.stringRef "LateFalls$Tokens" (37 : Nat) ";:+-*()[]=<>") ∈ lw_tbl := tb_of 674 rfl
set_option maxRecDepth 100000 in
theorem ls_t878 : (Jvm.Cond.stringRef "LateFalls" (183 : Nat) "no such thing") ∈ lw_tbl := tb_of 878 rfl
set_option maxRecDepth 100000 in
theorem ls_t885 : (Jvm.Cond.stringRef "LateFalls" (141 : Nat) "no such what") ∈ lw_tbl := tb_of 885 rfl
set_option maxRecDepth 100000 in
theorem ls_t897 : (Jvm.Cond.stringRef "LateFalls" (189 : Nat) "no such walker") ∈ lw_tbl := tb_of 897 rfl
set_option maxRecDepth 100000 in
theorem ls_t910 : (Jvm.Cond.stringRef "LateFalls" (194 : Nat) "no such column") ∈ lw_tbl := tb_of 910 rfl
set_option maxRecDepth 100000 in
theorem ls_t924 : (Jvm.Cond.stringRef "LateFalls" (200 : Nat) "no such place") ∈ lw_tbl := tb_of 924 rfl
set_option maxRecDepth 100000 in
theorem ls_t936 : (Jvm.Cond.stringRef "LateFalls" (202 : Nat) "out of its bounds") ∈ lw_tbl := tb_of 936 rfl
set_option maxRecDepth 100000 in
theorem ls_t957 : (Jvm.Cond.stringRef "LateFalls" (230 : Nat) "not so many deeds") ∈ lw_tbl := tb_of 957 rfl
set_option maxRecDepth 100000 in
theorem ls_t978 : (Jvm.Cond.stringRef "LateFalls" (399 : Nat) "no such tray") ∈ lw_tbl := tb_of 978 rfl
set_option maxRecDepth 100000 in
theorem ls_t988 : (Jvm.Cond.stringRef "LateFalls" (404 : Nat) "the tray is missing") ∈ lw_tbl := tb_of 988 rfl
set_option maxRecDepth 100000 in
theorem ls_t1062 : (Jvm.Cond.stringRef "LateFalls" (309 : Nat) "it doesn't hang") ∈ lw_tbl := tb_of 1062 rfl
set_option maxRecDepth 100000 in
theorem ls_t1113 : (Jvm.Cond.stringRef "LateFalls" (344 : Nat) "it isn't held") ∈ lw_tbl := tb_of 1113 rfl
set_option maxRecDepth 100000 in
theorem ls_t1168 : (Jvm.Cond.stringRef "LateFalls" (339 : Nat) "both one, one column, or no such what") ∈ lw_tbl := tb_of 1168 rfl
set_option maxRecDepth 100000 in
theorem ls_t1264 : (Jvm.Cond.stringRef "LateFalls" (376 : Nat) "no such sort, or not so many") ∈ lw_tbl := tb_of 1264 rfl
set_option maxRecDepth 100000 in
theorem ls_t1317 : (Jvm.Cond.stringRef "LateFalls" (406 : Nat) "no such image") ∈ lw_tbl := tb_of 1317 rfl
set_option maxRecDepth 100000 in
theorem ls_t1347 : (Jvm.Cond.stringRef "LateFalls" (397 : Nat) "no image was made") ∈ lw_tbl := tb_of 1347 rfl
set_option maxRecDepth 100000 in
theorem ls_t1509 : (Jvm.Cond.stringRef "LateFallsModel" (272 : Nat) "fall") ∈ lw_tbl := tb_of 1509 rfl
set_option maxRecDepth 100000 in
theorem ls_t1544 : (Jvm.Cond.stringRef "LateFallsModel" (248 : Nat) "thing") ∈ lw_tbl := tb_of 1544 rfl
set_option maxRecDepth 100000 in
theorem ls_t1553 : (Jvm.Cond.stringRef "LateFallsModel" (183 : Nat) "held") ∈ lw_tbl := tb_of 1553 rfl
set_option maxRecDepth 100000 in
theorem ls_t1558 : (Jvm.Cond.stringRef "LateFallsModel" (238 : Nat) "up") ∈ lw_tbl := tb_of 1558 rfl
set_option maxRecDepth 100000 in
theorem ls_t1569 : (Jvm.Cond.stringRef "LateFallsModel" (220 : Nat) "for") ∈ lw_tbl := tb_of 1569 rfl
set_option maxRecDepth 100000 in
theorem ls_t1570 : (Jvm.Cond.stringRef "LateFallsModel" (243 : Nat) "on") ∈ lw_tbl := tb_of 1570 rfl
set_option maxRecDepth 100000 in
theorem ls_t1575 : (Jvm.Cond.stringRef "LateFallsModel" (253 : Nat) "walker") ∈ lw_tbl := tb_of 1575 rfl
set_option maxRecDepth 100000 in
theorem ls_t1580 : (Jvm.Cond.stringRef "LateFallsModel" (191 : Nat) "hour") ∈ lw_tbl := tb_of 1580 rfl
set_option maxRecDepth 100000 in
theorem ls_t1581 : (Jvm.Cond.stringRef "LateFallsModel" (258 : Nat) "hangs") ∈ lw_tbl := tb_of 1581 rfl
set_option maxRecDepth 100000 in
theorem ls_t1606 : (Jvm.Cond.stringRef "LateFallsModel" (185 : Nat) "weight") ∈ lw_tbl := tb_of 1606 rfl
set_option maxRecDepth 100000 in
theorem ls_t1607 : (Jvm.Cond.stringRef "LateFallsModel" (187 : Nat) "column") ∈ lw_tbl := tb_of 1607 rfl
set_option maxRecDepth 100000 in
theorem ls_t1608 : (Jvm.Cond.stringRef "LateFallsModel" (189 : Nat) "level") ∈ lw_tbl := tb_of 1608 rfl
set_option maxRecDepth 100000 in
theorem ls_t1609 : (Jvm.Cond.stringRef "LateFallsModel" (193 : Nat) "lying") ∈ lw_tbl := tb_of 1609 rfl
set_option maxRecDepth 100000 in
theorem ls_t1614 : (Jvm.Cond.stringRef "LateFallsModel" (195 : Nat) "wa") ∈ lw_tbl := tb_of 1614 rfl
set_option maxRecDepth 100000 in
theorem ls_t1615 : (Jvm.Cond.stringRef "LateFallsModel" (197 : Nat) "wb") ∈ lw_tbl := tb_of 1615 rfl
set_option maxRecDepth 100000 in
theorem ls_t1616 : (Jvm.Cond.stringRef "LateFallsModel" (199 : Nat) "la") ∈ lw_tbl := tb_of 1616 rfl
set_option maxRecDepth 100000 in
theorem ls_t1617 : (Jvm.Cond.stringRef "LateFallsModel" (201 : Nat) "lb") ∈ lw_tbl := tb_of 1617 rfl
set_option maxRecDepth 100000 in
theorem ls_t1630 : (Jvm.Cond.stringRef "LateFallsModel" (264 : Nat) "frees") ∈ lw_tbl := tb_of 1630 rfl
set_option maxRecDepth 100000 in
theorem ls_t1643 : (Jvm.Cond.stringRef "LateFallsModel" (160 : Nat) "not") ∈ lw_tbl := tb_of 1643 rfl
set_option maxRecDepth 100000 in
theorem ls_t1644 : (Jvm.Cond.stringRef "LateFallsModel" (158 : Nat) "and") ∈ lw_tbl := tb_of 1644 rfl
set_option maxRecDepth 100000 in
theorem ls_t1645 : (Jvm.Cond.stringRef "LateFallsModel" (150 : Nat) "or") ∈ lw_tbl := tb_of 1645 rfl
theorem ls_xS {s : State} {b : Nat} (hts : ∀ w ∈ lw_tbl, w.before #[Value.ref b] s = true) : ∀ q ∈ xSW, ∃ a : Nat, vk_R q.1 q.2.1 q.2.2 a s := fl_c (P := fun q : String × Nat × String => ∃ a : Nat, vk_R q.1 q.2.1 q.2.2 a s) (ls_str (own := "LateFalls") (k := 85) (tx := "not so many bytes") (hts _ ls_t573)) (fl_c (P := fun q : String × Nat × String => ∃ a : Nat, vk_R q.1 q.2.1 q.2.2 a s) (ls_str (own := "LateFalls$Tokens") (k := 58) (tx := "fall thing walker hangs frees hour held up for on not and or weight column level lying wa wb la lb ") (hts _ ls_t622)) (fl_c (P := fun q : String × Nat × String => ∃ a : Nat, vk_R q.1 q.2.1 q.2.2 a s) (ls_str (own := "LateFalls$Tokens") (k := 37) (tx := ";:+-*()[]=<>") (hts _ ls_t674)) (fl_c (P := fun q : String × Nat × String => ∃ a : Nat, vk_R q.1 q.2.1 q.2.2 a s) (ls_str (own := "LateFalls") (k := 183) (tx := "no such thing") (hts _ ls_t878)) (fl_c (P := fun q : String × Nat × String => ∃ a : Nat, vk_R q.1 q.2.1 q.2.2 a s) (ls_str (own := "LateFalls") (k := 141) (tx := "no such what") (hts _ ls_t885)) (fl_c (P := fun q : String × Nat × String => ∃ a : Nat, vk_R q.1 q.2.1 q.2.2 a s) (ls_str (own := "LateFalls") (k := 189) (tx := "no such walker") (hts _ ls_t897)) (fl_c (P := fun q : String × Nat × String => ∃ a : Nat, vk_R q.1 q.2.1 q.2.2 a s) (ls_str (own := "LateFalls") (k := 194) (tx := "no such column") (hts _ ls_t910)) (fl_c (P := fun q : String × Nat × String => ∃ a : Nat, vk_R q.1 q.2.1 q.2.2 a s) (ls_str (own := "LateFalls") (k := 200) (tx := "no such place") (hts _ ls_t924)) (fl_c (P := fun q : String × Nat × String => ∃ a : Nat, vk_R q.1 q.2.1 q.2.2 a s) (ls_str (own := "LateFalls") (k := 202) (tx := "out of its bounds") (hts _ ls_t936)) (fl_c (P := fun q : String × Nat × String => ∃ a : Nat, vk_R q.1 q.2.1 q.2.2 a s) (ls_str (own := "LateFalls") (k := 230) (tx := "not so many deeds") (hts _ ls_t957)) (fl_c (P := fun q : String × Nat × String => ∃ a : Nat, vk_R q.1 q.2.1 q.2.2 a s) (ls_str (own := "LateFalls") (k := 399) (tx := "no such tray") (hts _ ls_t978)) (fl_c (P := fun q : String × Nat × String => ∃ a : Nat, vk_R q.1 q.2.1 q.2.2 a s) (ls_str (own := "LateFalls") (k := 404) (tx := "the tray is missing") (hts _ ls_t988)) (fl_c (P := fun q : String × Nat × String => ∃ a : Nat, vk_R q.1 q.2.1 q.2.2 a s) (ls_str (own := "LateFalls") (k := 309) (tx := "it doesn't hang") (hts _ ls_t1062)) (fl_c (P := fun q : String × Nat × String => ∃ a : Nat, vk_R q.1 q.2.1 q.2.2 a s) (ls_str (own := "LateFalls") (k := 344) (tx := "it isn't held") (hts _ ls_t1113)) (fl_c (P := fun q : String × Nat × String => ∃ a : Nat, vk_R q.1 q.2.1 q.2.2 a s) (ls_str (own := "LateFalls") (k := 339) (tx := "both one, one column, or no such what") (hts _ ls_t1168)) (fl_c (P := fun q : String × Nat × String => ∃ a : Nat, vk_R q.1 q.2.1 q.2.2 a s) (ls_str (own := "LateFalls") (k := 376) (tx := "no such sort, or not so many") (hts _ ls_t1264)) (fl_c (P := fun q : String × Nat × String => ∃ a : Nat, vk_R q.1 q.2.1 q.2.2 a s) (ls_str (own := "LateFalls") (k := 406) (tx := "no such image") (hts _ ls_t1317)) (fl_c (P := fun q : String × Nat × String => ∃ a : Nat, vk_R q.1 q.2.1 q.2.2 a s) (ls_str (own := "LateFalls") (k := 397) (tx := "no image was made") (hts _ ls_t1347)) (fl_c (P := fun q : String × Nat × String => ∃ a : Nat, vk_R q.1 q.2.1 q.2.2 a s) (ls_str (own := "LateFallsModel") (k := 272) (tx := "fall") (hts _ ls_t1509)) (fl_c (P := fun q : String × Nat × String => ∃ a : Nat, vk_R q.1 q.2.1 q.2.2 a s) (ls_str (own := "LateFallsModel") (k := 248) (tx := "thing") (hts _ ls_t1544)) (fl_c (P := fun q : String × Nat × String => ∃ a : Nat, vk_R q.1 q.2.1 q.2.2 a s) (ls_str (own := "LateFallsModel") (k := 183) (tx := "held") (hts _ ls_t1553)) (fl_c (P := fun q : String × Nat × String => ∃ a : Nat, vk_R q.1 q.2.1 q.2.2 a s) (ls_str (own := "LateFallsModel") (k := 238) (tx := "up") (hts _ ls_t1558)) (fl_c (P := fun q : String × Nat × String => ∃ a : Nat, vk_R q.1 q.2.1 q.2.2 a s) (ls_str (own := "LateFallsModel") (k := 220) (tx := "for") (hts _ ls_t1569)) (fl_c (P := fun q : String × Nat × String => ∃ a : Nat, vk_R q.1 q.2.1 q.2.2 a s) (ls_str (own := "LateFallsModel") (k := 243) (tx := "on") (hts _ ls_t1570)) (fl_c (P := fun q : String × Nat × String => ∃ a : Nat, vk_R q.1 q.2.1 q.2.2 a s) (ls_str (own := "LateFallsModel") (k := 253) (tx := "walker") (hts _ ls_t1575)) (fl_c (P := fun q : String × Nat × String => ∃ a : Nat, vk_R q.1 q.2.1 q.2.2 a s) (ls_str (own := "LateFallsModel") (k := 191) (tx := "hour") (hts _ ls_t1580)) (fl_c (P := fun q : String × Nat × String => ∃ a : Nat, vk_R q.1 q.2.1 q.2.2 a s) (ls_str (own := "LateFallsModel") (k := 258) (tx := "hangs") (hts _ ls_t1581)) (fl_c (P := fun q : String × Nat × String => ∃ a : Nat, vk_R q.1 q.2.1 q.2.2 a s) (ls_str (own := "LateFallsModel") (k := 185) (tx := "weight") (hts _ ls_t1606)) (fl_c (P := fun q : String × Nat × String => ∃ a : Nat, vk_R q.1 q.2.1 q.2.2 a s) (ls_str (own := "LateFallsModel") (k := 187) (tx := "column") (hts _ ls_t1607)) (fl_c (P := fun q : String × Nat × String => ∃ a : Nat, vk_R q.1 q.2.1 q.2.2 a s) (ls_str (own := "LateFallsModel") (k := 189) (tx := "level") (hts _ ls_t1608)) (fl_c (P := fun q : String × Nat × String => ∃ a : Nat, vk_R q.1 q.2.1 q.2.2 a s) (ls_str (own := "LateFallsModel") (k := 193) (tx := "lying") (hts _ ls_t1609)) (fl_c (P := fun q : String × Nat × String => ∃ a : Nat, vk_R q.1 q.2.1 q.2.2 a s) (ls_str (own := "LateFallsModel") (k := 195) (tx := "wa") (hts _ ls_t1614)) (fl_c (P := fun q : String × Nat × String => ∃ a : Nat, vk_R q.1 q.2.1 q.2.2 a s) (ls_str (own := "LateFallsModel") (k := 197) (tx := "wb") (hts _ ls_t1615)) (fl_c (P := fun q : String × Nat × String => ∃ a : Nat, vk_R q.1 q.2.1 q.2.2 a s) (ls_str (own := "LateFallsModel") (k := 199) (tx := "la") (hts _ ls_t1616)) (fl_c (P := fun q : String × Nat × String => ∃ a : Nat, vk_R q.1 q.2.1 q.2.2 a s) (ls_str (own := "LateFallsModel") (k := 201) (tx := "lb") (hts _ ls_t1617)) (fl_c (P := fun q : String × Nat × String => ∃ a : Nat, vk_R q.1 q.2.1 q.2.2 a s) (ls_str (own := "LateFallsModel") (k := 264) (tx := "frees") (hts _ ls_t1630)) (fl_c (P := fun q : String × Nat × String => ∃ a : Nat, vk_R q.1 q.2.1 q.2.2 a s) (ls_str (own := "LateFallsModel") (k := 160) (tx := "not") (hts _ ls_t1643)) (fl_c (P := fun q : String × Nat × String => ∃ a : Nat, vk_R q.1 q.2.1 q.2.2 a s) (ls_str (own := "LateFallsModel") (k := 158) (tx := "and") (hts _ ls_t1644)) (fl_c (P := fun q : String × Nat × String => ∃ a : Nat, vk_R q.1 q.2.1 q.2.2 a s) (ls_str (own := "LateFallsModel") (k := 150) (tx := "or") (hts _ ls_t1645)) (fl_n)))))))))))))))))))))))))))))))))))))))
set_option maxRecDepth 100000 in
theorem ls_xN {s : State} {b : Nat} (hgv : (Jvm.Cond.and given_1 narrow_1).before #[Value.ref b] s = true) : ∀ q ∈ xNW, va_Nc q.1 q.2 s := by
  have hs := flat_of_before _ hgv
  have h0 : va_Nc "java/lang/IllegalArgumentException" "java/util/NoSuchElementException" s := va_Nc.of (hs (.not (.castable "java/lang/IllegalArgumentException" "java/util/NoSuchElementException")) (by decide +kernel))
  have h1 : va_Nc "java/lang/IllegalStateException" "java/util/NoSuchElementException" s := va_Nc.of (hs (.not (.castable "java/lang/IllegalStateException" "java/util/NoSuchElementException")) (by decide +kernel))
  have h2 : va_Nc "java/lang/IllegalArgumentException" "java/lang/IllegalStateException" s := va_Nc.of (hs (.not (.castable "java/lang/IllegalArgumentException" "java/lang/IllegalStateException")) (by decide +kernel))
  have h3 : va_Nc "java/lang/IndexOutOfBoundsException" "java/util/NoSuchElementException" s := va_Nc.of (hs (.not (.castable "java/lang/IndexOutOfBoundsException" "java/util/NoSuchElementException")) (by decide +kernel))
  have h4 : va_Nc "java/lang/IndexOutOfBoundsException" "java/lang/IllegalStateException" s := va_Nc.of (hs (.not (.castable "java/lang/IndexOutOfBoundsException" "java/lang/IllegalStateException")) (by decide +kernel))
  exact fl_c (P := fun q : String × String => va_Nc q.1 q.2 s) (h0) (fl_c (P := fun q : String × String => va_Nc q.1 q.2 s) (h1) (fl_c (P := fun q : String × String => va_Nc q.1 q.2 s) (h2) (fl_c (P := fun q : String × String => va_Nc q.1 q.2 s) (h3) (fl_c (P := fun q : String × String => va_Nc q.1 q.2 s) (h4) (fl_n)))))
set_option maxRecDepth 100000 in
theorem ls_xA {s : State} {b : Nat} (hts : ∀ w ∈ lw_tbl, w.before #[Value.ref b] s = true) : ∀ q ∈ xAW, va_AO q s := fl_c (P := fun q : String => va_AO q s) (va_AO.of (hts _ (tb_of 246 rfl))) (fl_c (P := fun q : String => va_AO q s) (va_AO.of (hts _ (tb_of 66 rfl))) (fl_c (P := fun q : String => va_AO q s) (va_AO.of (hts _ (tb_of 68 rfl))) (fl_n)))
set_option maxRecDepth 100000 in
theorem ls_Dx {s : State} {b : Nat} (hts : ∀ w ∈ lw_tbl, w.before #[Value.ref b] s = true) : ∃ D : va_G, ∀ (k : Nat) (q : vw_C), vwCl[k]? = some q → u_Kn s q.1 q.2.1 q.2.2 (D.1 k) (D.2 k) := by
  have htA : ∀ w ∈ wA, w.before #[Value.ref b] s = true := fun w h => hts w (List.mem_filter.mp h).1
  have h0 := u_known (C := RX0) (T := TX0) (N := 10) (n := 10) htA in_X0 (hts _ (tb_of 70 rfl))
  have h1 := u_known (C := RX1) (T := TX1) (N := 5) (n := 5) htA in_X1 (hts _ (tb_of 260 rfl))
  have h2 := u_known (C := RX2) (T := TX2) (N := 3) (n := 3) htA in_X2 (hts _ (tb_of 240 rfl))
  have h3 := u_known (C := RX3) (T := TX3) (N := 2) (n := 2) htA in_X3 (hts _ (tb_of 1318 rfl))
  have h4 := u_known (C := RX4) (T := TX4) (N := 3) (n := 3) htA in_X4 (hts _ (tb_of 814 rfl))
  have h5 := u_known (C := RX5) (T := TX5) (N := 8) (n := 8) htA in_X5 (hts _ (tb_of 128 rfl))
  have h6 := u_known (C := RX6) (T := TX6) (N := 8) (n := 8) htA in_X6 (hts _ (tb_of 161 rfl))
  have h7 := u_known (C := RX7) (T := TX7) (N := 6) (n := 6) htA in_X7 (hts _ (tb_of 134 rfl))
  have h8 := u_known (C := RX8) (T := TX8) (N := 3) (n := 3) htA in_X8 (hts _ (tb_of 290 rfl))
  have h9 := u_known (C := RX9) (T := TX9) (N := 6) (n := 6) htA in_X9 (hts _ (tb_of 37 rfl))
  have h10 := u_known (C := RX10) (T := TX10) (N := 13) (n := 13) htA in_X10 (hts _ (tb_of 29 rfl))
  have h11 := u_known (C := RX11) (T := TX11) (N := 39) (n := 39) htA in_X11 (hts _ (tb_of 1349 rfl))
  refine ls_D (fun k q hq => ?_)
  match k, hq with
  | 0, hq => cases hq; exact h0
  | 1, hq => cases hq; exact h1
  | 2, hq => cases hq; exact h2
  | 3, hq => cases hq; exact h3
  | 4, hq => cases hq; exact h4
  | 5, hq => cases hq; exact h5
  | 6, hq => cases hq; exact h6
  | 7, hq => cases hq; exact h7
  | 8, hq => cases hq; exact h8
  | 9, hq => cases hq; exact h9
  | 10, hq => cases hq; exact h10
  | 11, hq => cases hq; exact h11
  | k + 12, hq => simp [vwCl] at hq
theorem eq_ev {args : Array Value} {s : State} {t : Term} {z : Int32} (h : (Cond.eq t (.int z)).before args s = true) : t.eval args s none [] s = some (.int z) := by
  cases hv : t.eval args s none [] s with
  | none => simp [Cond.before, Cond.holds, Cond.value, hv] at h
  | some w =>
    have hz : (Term.int z).eval args s none [] s = some (.int z) := rfl
    simp only [Cond.before, Cond.holds, Cond.value, hv, hz] at h
    cases w <;> simp_all
theorem xTs_of {args : Array Value} {s : State} {t : Term} {a N : Nat} {f : Nat → Int32} {A : Nat → Prop} (hA : ∀ a : Nat, a < s.heap.size → ¬ A a) (ht : t.eval args s none [] s = some (.ref a)) (hN : N < 2 ^ 31) (h1 : (Cond.exactly t "java/lang/String").before args s = true) (h2 : (Cond.eq (.field t "java/lang/String" "coder" "B") (.int 0)).before args s = true) (h3 : (Cond.arrayOf (.field t "java/lang/String" "value" "[B") .byte).before args s = true) (h4 : (Cond.eq (.length (.field t "java/lang/String" "value" "[B")) (.int (Int32.ofNat N))).before args s = true)
    (h5 : ∀ j : Nat, j < N → (Cond.eq (.elem (.field t "java/lang/String" "value" "[B") (.int (Int32.ofNat j))) (.int (f j))).before args s = true) : xTs N a A s s.heap := by
  obtain ⟨v, hv, hT⟩ := va_Tof (f := fun j => .int (f j)) hN h3 (eq_ev h4) (fun j hj => eq_ev (h5 j hj)) hA
  exact ⟨v, f, va_Oof h1 ht hA, vk_OFof ht (eq_ev h2) hA, vk_OFof ht hv hA, hT⟩
set_option maxRecDepth 100000 in
theorem ls_tx0 {s : State} {b : Nat} {A : Nat → Prop} (hA : ∀ a : Nat, a < s.heap.size → ¬ A a) (hs : ∀ w ∈ flatC (Jvm.Cond.and given_1 narrow_1), w.before #[Value.ref b] s = true) (a : Nat) (hr : vk_R "LateFalls$Tokens" 58 "fall thing walker hangs frees hour held up for on not and or weight column level lying wa wb la lb " a s) : xTs 99 a A s s.heap := by
  have ht : (Jvm.Term.string "LateFalls$Tokens" 58).eval #[Value.ref b] s none [] s = some (.ref a) := hr.2
  refine xTs_of (f := fun j => [102, 97, 108, 108, 32, 116, 104, 105, 110, 103, 32, 119, 97, 108, 107, 101, 114, 32, 104, 97, 110, 103, 115, 32, 102, 114, 101, 101, 115, 32, 104, 111, 117, 114, 32, 104, 101, 108, 100, 32, 117, 112, 32, 102, 111, 114, 32, 111, 110, 32, 110, 111, 116, 32, 97, 110, 100, 32, 111, 114, 32, 119, 101, 105, 103, 104, 116, 32, 99, 111, 108, 117, 109, 110, 32, 108, 101, 118, 101, 108, 32, 108, 121, 105, 110, 103, 32, 119, 97, 32, 119, 98, 32, 108, 97, 32, 108, 98, 32].getD j 0) hA ht (by decide) (hs (.exactly (Jvm.Term.string "LateFalls$Tokens" (58 : Nat)) "java/lang/String") (by decide +kernel)) (hs (.eq (.field (Jvm.Term.string "LateFalls$Tokens" (58 : Nat)) "java/lang/String" "coder" "B") (.int 0)) (by decide +kernel)) (hs (.arrayOf (Jvm.Term.field (Jvm.Term.string "LateFalls$Tokens" (58 : Nat)) "java/lang/String" "value" "[B") .byte) (by decide +kernel)) (hs (.eq (.length (Jvm.Term.field (Jvm.Term.string "LateFalls$Tokens" (58 : Nat)) "java/lang/String" "value" "[B")) (.int 99)) (by decide +kernel)) (fun j hj => ?_)
  match j, hj with
  | 0, _ => exact hs (.eq (.elem (Jvm.Term.field (Jvm.Term.string "LateFalls$Tokens" (58 : Nat)) "java/lang/String" "value" "[B") (.int 0)) (.int 102)) (by decide +kernel)
  | 1, _ => exact hs (.eq (.elem (Jvm.Term.field (Jvm.Term.string "LateFalls$Tokens" (58 : Nat)) "java/lang/String" "value" "[B") (.int 1)) (.int 97)) (by decide +kernel)
  | 2, _ => exact hs (.eq (.elem (Jvm.Term.field (Jvm.Term.string "LateFalls$Tokens" (58 : Nat)) "java/lang/String" "value" "[B") (.int 2)) (.int 108)) (by decide +kernel)
  | 3, _ => exact hs (.eq (.elem (Jvm.Term.field (Jvm.Term.string "LateFalls$Tokens" (58 : Nat)) "java/lang/String" "value" "[B") (.int 3)) (.int 108)) (by decide +kernel)
  | 4, _ => exact hs (.eq (.elem (Jvm.Term.field (Jvm.Term.string "LateFalls$Tokens" (58 : Nat)) "java/lang/String" "value" "[B") (.int 4)) (.int 32)) (by decide +kernel)
  | 5, _ => exact hs (.eq (.elem (Jvm.Term.field (Jvm.Term.string "LateFalls$Tokens" (58 : Nat)) "java/lang/String" "value" "[B") (.int 5)) (.int 116)) (by decide +kernel)
  | 6, _ => exact hs (.eq (.elem (Jvm.Term.field (Jvm.Term.string "LateFalls$Tokens" (58 : Nat)) "java/lang/String" "value" "[B") (.int 6)) (.int 104)) (by decide +kernel)
  | 7, _ => exact hs (.eq (.elem (Jvm.Term.field (Jvm.Term.string "LateFalls$Tokens" (58 : Nat)) "java/lang/String" "value" "[B") (.int 7)) (.int 105)) (by decide +kernel)
  | 8, _ => exact hs (.eq (.elem (Jvm.Term.field (Jvm.Term.string "LateFalls$Tokens" (58 : Nat)) "java/lang/String" "value" "[B") (.int 8)) (.int 110)) (by decide +kernel)
  | 9, _ => exact hs (.eq (.elem (Jvm.Term.field (Jvm.Term.string "LateFalls$Tokens" (58 : Nat)) "java/lang/String" "value" "[B") (.int 9)) (.int 103)) (by decide +kernel)
  | 10, _ => exact hs (.eq (.elem (Jvm.Term.field (Jvm.Term.string "LateFalls$Tokens" (58 : Nat)) "java/lang/String" "value" "[B") (.int 10)) (.int 32)) (by decide +kernel)
  | 11, _ => exact hs (.eq (.elem (Jvm.Term.field (Jvm.Term.string "LateFalls$Tokens" (58 : Nat)) "java/lang/String" "value" "[B") (.int 11)) (.int 119)) (by decide +kernel)
  | 12, _ => exact hs (.eq (.elem (Jvm.Term.field (Jvm.Term.string "LateFalls$Tokens" (58 : Nat)) "java/lang/String" "value" "[B") (.int 12)) (.int 97)) (by decide +kernel)
  | 13, _ => exact hs (.eq (.elem (Jvm.Term.field (Jvm.Term.string "LateFalls$Tokens" (58 : Nat)) "java/lang/String" "value" "[B") (.int 13)) (.int 108)) (by decide +kernel)
  | 14, _ => exact hs (.eq (.elem (Jvm.Term.field (Jvm.Term.string "LateFalls$Tokens" (58 : Nat)) "java/lang/String" "value" "[B") (.int 14)) (.int 107)) (by decide +kernel)
  | 15, _ => exact hs (.eq (.elem (Jvm.Term.field (Jvm.Term.string "LateFalls$Tokens" (58 : Nat)) "java/lang/String" "value" "[B") (.int 15)) (.int 101)) (by decide +kernel)
  | 16, _ => exact hs (.eq (.elem (Jvm.Term.field (Jvm.Term.string "LateFalls$Tokens" (58 : Nat)) "java/lang/String" "value" "[B") (.int 16)) (.int 114)) (by decide +kernel)
  | 17, _ => exact hs (.eq (.elem (Jvm.Term.field (Jvm.Term.string "LateFalls$Tokens" (58 : Nat)) "java/lang/String" "value" "[B") (.int 17)) (.int 32)) (by decide +kernel)
  | 18, _ => exact hs (.eq (.elem (Jvm.Term.field (Jvm.Term.string "LateFalls$Tokens" (58 : Nat)) "java/lang/String" "value" "[B") (.int 18)) (.int 104)) (by decide +kernel)
  | 19, _ => exact hs (.eq (.elem (Jvm.Term.field (Jvm.Term.string "LateFalls$Tokens" (58 : Nat)) "java/lang/String" "value" "[B") (.int 19)) (.int 97)) (by decide +kernel)
  | 20, _ => exact hs (.eq (.elem (Jvm.Term.field (Jvm.Term.string "LateFalls$Tokens" (58 : Nat)) "java/lang/String" "value" "[B") (.int 20)) (.int 110)) (by decide +kernel)
  | 21, _ => exact hs (.eq (.elem (Jvm.Term.field (Jvm.Term.string "LateFalls$Tokens" (58 : Nat)) "java/lang/String" "value" "[B") (.int 21)) (.int 103)) (by decide +kernel)
  | 22, _ => exact hs (.eq (.elem (Jvm.Term.field (Jvm.Term.string "LateFalls$Tokens" (58 : Nat)) "java/lang/String" "value" "[B") (.int 22)) (.int 115)) (by decide +kernel)
  | 23, _ => exact hs (.eq (.elem (Jvm.Term.field (Jvm.Term.string "LateFalls$Tokens" (58 : Nat)) "java/lang/String" "value" "[B") (.int 23)) (.int 32)) (by decide +kernel)
  | 24, _ => exact hs (.eq (.elem (Jvm.Term.field (Jvm.Term.string "LateFalls$Tokens" (58 : Nat)) "java/lang/String" "value" "[B") (.int 24)) (.int 102)) (by decide +kernel)
  | 25, _ => exact hs (.eq (.elem (Jvm.Term.field (Jvm.Term.string "LateFalls$Tokens" (58 : Nat)) "java/lang/String" "value" "[B") (.int 25)) (.int 114)) (by decide +kernel)
  | 26, _ => exact hs (.eq (.elem (Jvm.Term.field (Jvm.Term.string "LateFalls$Tokens" (58 : Nat)) "java/lang/String" "value" "[B") (.int 26)) (.int 101)) (by decide +kernel)
  | 27, _ => exact hs (.eq (.elem (Jvm.Term.field (Jvm.Term.string "LateFalls$Tokens" (58 : Nat)) "java/lang/String" "value" "[B") (.int 27)) (.int 101)) (by decide +kernel)
  | 28, _ => exact hs (.eq (.elem (Jvm.Term.field (Jvm.Term.string "LateFalls$Tokens" (58 : Nat)) "java/lang/String" "value" "[B") (.int 28)) (.int 115)) (by decide +kernel)
  | 29, _ => exact hs (.eq (.elem (Jvm.Term.field (Jvm.Term.string "LateFalls$Tokens" (58 : Nat)) "java/lang/String" "value" "[B") (.int 29)) (.int 32)) (by decide +kernel)
  | 30, _ => exact hs (.eq (.elem (Jvm.Term.field (Jvm.Term.string "LateFalls$Tokens" (58 : Nat)) "java/lang/String" "value" "[B") (.int 30)) (.int 104)) (by decide +kernel)
  | 31, _ => exact hs (.eq (.elem (Jvm.Term.field (Jvm.Term.string "LateFalls$Tokens" (58 : Nat)) "java/lang/String" "value" "[B") (.int 31)) (.int 111)) (by decide +kernel)
  | 32, _ => exact hs (.eq (.elem (Jvm.Term.field (Jvm.Term.string "LateFalls$Tokens" (58 : Nat)) "java/lang/String" "value" "[B") (.int 32)) (.int 117)) (by decide +kernel)
  | 33, _ => exact hs (.eq (.elem (Jvm.Term.field (Jvm.Term.string "LateFalls$Tokens" (58 : Nat)) "java/lang/String" "value" "[B") (.int 33)) (.int 114)) (by decide +kernel)
  | 34, _ => exact hs (.eq (.elem (Jvm.Term.field (Jvm.Term.string "LateFalls$Tokens" (58 : Nat)) "java/lang/String" "value" "[B") (.int 34)) (.int 32)) (by decide +kernel)
  | 35, _ => exact hs (.eq (.elem (Jvm.Term.field (Jvm.Term.string "LateFalls$Tokens" (58 : Nat)) "java/lang/String" "value" "[B") (.int 35)) (.int 104)) (by decide +kernel)
  | 36, _ => exact hs (.eq (.elem (Jvm.Term.field (Jvm.Term.string "LateFalls$Tokens" (58 : Nat)) "java/lang/String" "value" "[B") (.int 36)) (.int 101)) (by decide +kernel)
  | 37, _ => exact hs (.eq (.elem (Jvm.Term.field (Jvm.Term.string "LateFalls$Tokens" (58 : Nat)) "java/lang/String" "value" "[B") (.int 37)) (.int 108)) (by decide +kernel)
  | 38, _ => exact hs (.eq (.elem (Jvm.Term.field (Jvm.Term.string "LateFalls$Tokens" (58 : Nat)) "java/lang/String" "value" "[B") (.int 38)) (.int 100)) (by decide +kernel)
  | 39, _ => exact hs (.eq (.elem (Jvm.Term.field (Jvm.Term.string "LateFalls$Tokens" (58 : Nat)) "java/lang/String" "value" "[B") (.int 39)) (.int 32)) (by decide +kernel)
  | 40, _ => exact hs (.eq (.elem (Jvm.Term.field (Jvm.Term.string "LateFalls$Tokens" (58 : Nat)) "java/lang/String" "value" "[B") (.int 40)) (.int 117)) (by decide +kernel)
  | 41, _ => exact hs (.eq (.elem (Jvm.Term.field (Jvm.Term.string "LateFalls$Tokens" (58 : Nat)) "java/lang/String" "value" "[B") (.int 41)) (.int 112)) (by decide +kernel)
  | 42, _ => exact hs (.eq (.elem (Jvm.Term.field (Jvm.Term.string "LateFalls$Tokens" (58 : Nat)) "java/lang/String" "value" "[B") (.int 42)) (.int 32)) (by decide +kernel)
  | 43, _ => exact hs (.eq (.elem (Jvm.Term.field (Jvm.Term.string "LateFalls$Tokens" (58 : Nat)) "java/lang/String" "value" "[B") (.int 43)) (.int 102)) (by decide +kernel)
  | 44, _ => exact hs (.eq (.elem (Jvm.Term.field (Jvm.Term.string "LateFalls$Tokens" (58 : Nat)) "java/lang/String" "value" "[B") (.int 44)) (.int 111)) (by decide +kernel)
  | 45, _ => exact hs (.eq (.elem (Jvm.Term.field (Jvm.Term.string "LateFalls$Tokens" (58 : Nat)) "java/lang/String" "value" "[B") (.int 45)) (.int 114)) (by decide +kernel)
  | 46, _ => exact hs (.eq (.elem (Jvm.Term.field (Jvm.Term.string "LateFalls$Tokens" (58 : Nat)) "java/lang/String" "value" "[B") (.int 46)) (.int 32)) (by decide +kernel)
  | 47, _ => exact hs (.eq (.elem (Jvm.Term.field (Jvm.Term.string "LateFalls$Tokens" (58 : Nat)) "java/lang/String" "value" "[B") (.int 47)) (.int 111)) (by decide +kernel)
  | 48, _ => exact hs (.eq (.elem (Jvm.Term.field (Jvm.Term.string "LateFalls$Tokens" (58 : Nat)) "java/lang/String" "value" "[B") (.int 48)) (.int 110)) (by decide +kernel)
  | 49, _ => exact hs (.eq (.elem (Jvm.Term.field (Jvm.Term.string "LateFalls$Tokens" (58 : Nat)) "java/lang/String" "value" "[B") (.int 49)) (.int 32)) (by decide +kernel)
  | 50, _ => exact hs (.eq (.elem (Jvm.Term.field (Jvm.Term.string "LateFalls$Tokens" (58 : Nat)) "java/lang/String" "value" "[B") (.int 50)) (.int 110)) (by decide +kernel)
  | 51, _ => exact hs (.eq (.elem (Jvm.Term.field (Jvm.Term.string "LateFalls$Tokens" (58 : Nat)) "java/lang/String" "value" "[B") (.int 51)) (.int 111)) (by decide +kernel)
  | 52, _ => exact hs (.eq (.elem (Jvm.Term.field (Jvm.Term.string "LateFalls$Tokens" (58 : Nat)) "java/lang/String" "value" "[B") (.int 52)) (.int 116)) (by decide +kernel)
  | 53, _ => exact hs (.eq (.elem (Jvm.Term.field (Jvm.Term.string "LateFalls$Tokens" (58 : Nat)) "java/lang/String" "value" "[B") (.int 53)) (.int 32)) (by decide +kernel)
  | 54, _ => exact hs (.eq (.elem (Jvm.Term.field (Jvm.Term.string "LateFalls$Tokens" (58 : Nat)) "java/lang/String" "value" "[B") (.int 54)) (.int 97)) (by decide +kernel)
  | 55, _ => exact hs (.eq (.elem (Jvm.Term.field (Jvm.Term.string "LateFalls$Tokens" (58 : Nat)) "java/lang/String" "value" "[B") (.int 55)) (.int 110)) (by decide +kernel)
  | 56, _ => exact hs (.eq (.elem (Jvm.Term.field (Jvm.Term.string "LateFalls$Tokens" (58 : Nat)) "java/lang/String" "value" "[B") (.int 56)) (.int 100)) (by decide +kernel)
  | 57, _ => exact hs (.eq (.elem (Jvm.Term.field (Jvm.Term.string "LateFalls$Tokens" (58 : Nat)) "java/lang/String" "value" "[B") (.int 57)) (.int 32)) (by decide +kernel)
  | 58, _ => exact hs (.eq (.elem (Jvm.Term.field (Jvm.Term.string "LateFalls$Tokens" (58 : Nat)) "java/lang/String" "value" "[B") (.int 58)) (.int 111)) (by decide +kernel)
  | 59, _ => exact hs (.eq (.elem (Jvm.Term.field (Jvm.Term.string "LateFalls$Tokens" (58 : Nat)) "java/lang/String" "value" "[B") (.int 59)) (.int 114)) (by decide +kernel)
  | 60, _ => exact hs (.eq (.elem (Jvm.Term.field (Jvm.Term.string "LateFalls$Tokens" (58 : Nat)) "java/lang/String" "value" "[B") (.int 60)) (.int 32)) (by decide +kernel)
  | 61, _ => exact hs (.eq (.elem (Jvm.Term.field (Jvm.Term.string "LateFalls$Tokens" (58 : Nat)) "java/lang/String" "value" "[B") (.int 61)) (.int 119)) (by decide +kernel)
  | 62, _ => exact hs (.eq (.elem (Jvm.Term.field (Jvm.Term.string "LateFalls$Tokens" (58 : Nat)) "java/lang/String" "value" "[B") (.int 62)) (.int 101)) (by decide +kernel)
  | 63, _ => exact hs (.eq (.elem (Jvm.Term.field (Jvm.Term.string "LateFalls$Tokens" (58 : Nat)) "java/lang/String" "value" "[B") (.int 63)) (.int 105)) (by decide +kernel)
  | 64, _ => exact hs (.eq (.elem (Jvm.Term.field (Jvm.Term.string "LateFalls$Tokens" (58 : Nat)) "java/lang/String" "value" "[B") (.int 64)) (.int 103)) (by decide +kernel)
  | 65, _ => exact hs (.eq (.elem (Jvm.Term.field (Jvm.Term.string "LateFalls$Tokens" (58 : Nat)) "java/lang/String" "value" "[B") (.int 65)) (.int 104)) (by decide +kernel)
  | 66, _ => exact hs (.eq (.elem (Jvm.Term.field (Jvm.Term.string "LateFalls$Tokens" (58 : Nat)) "java/lang/String" "value" "[B") (.int 66)) (.int 116)) (by decide +kernel)
  | 67, _ => exact hs (.eq (.elem (Jvm.Term.field (Jvm.Term.string "LateFalls$Tokens" (58 : Nat)) "java/lang/String" "value" "[B") (.int 67)) (.int 32)) (by decide +kernel)
  | 68, _ => exact hs (.eq (.elem (Jvm.Term.field (Jvm.Term.string "LateFalls$Tokens" (58 : Nat)) "java/lang/String" "value" "[B") (.int 68)) (.int 99)) (by decide +kernel)
  | 69, _ => exact hs (.eq (.elem (Jvm.Term.field (Jvm.Term.string "LateFalls$Tokens" (58 : Nat)) "java/lang/String" "value" "[B") (.int 69)) (.int 111)) (by decide +kernel)
  | 70, _ => exact hs (.eq (.elem (Jvm.Term.field (Jvm.Term.string "LateFalls$Tokens" (58 : Nat)) "java/lang/String" "value" "[B") (.int 70)) (.int 108)) (by decide +kernel)
  | 71, _ => exact hs (.eq (.elem (Jvm.Term.field (Jvm.Term.string "LateFalls$Tokens" (58 : Nat)) "java/lang/String" "value" "[B") (.int 71)) (.int 117)) (by decide +kernel)
  | 72, _ => exact hs (.eq (.elem (Jvm.Term.field (Jvm.Term.string "LateFalls$Tokens" (58 : Nat)) "java/lang/String" "value" "[B") (.int 72)) (.int 109)) (by decide +kernel)
  | 73, _ => exact hs (.eq (.elem (Jvm.Term.field (Jvm.Term.string "LateFalls$Tokens" (58 : Nat)) "java/lang/String" "value" "[B") (.int 73)) (.int 110)) (by decide +kernel)
  | 74, _ => exact hs (.eq (.elem (Jvm.Term.field (Jvm.Term.string "LateFalls$Tokens" (58 : Nat)) "java/lang/String" "value" "[B") (.int 74)) (.int 32)) (by decide +kernel)
  | 75, _ => exact hs (.eq (.elem (Jvm.Term.field (Jvm.Term.string "LateFalls$Tokens" (58 : Nat)) "java/lang/String" "value" "[B") (.int 75)) (.int 108)) (by decide +kernel)
  | 76, _ => exact hs (.eq (.elem (Jvm.Term.field (Jvm.Term.string "LateFalls$Tokens" (58 : Nat)) "java/lang/String" "value" "[B") (.int 76)) (.int 101)) (by decide +kernel)
  | 77, _ => exact hs (.eq (.elem (Jvm.Term.field (Jvm.Term.string "LateFalls$Tokens" (58 : Nat)) "java/lang/String" "value" "[B") (.int 77)) (.int 118)) (by decide +kernel)
  | 78, _ => exact hs (.eq (.elem (Jvm.Term.field (Jvm.Term.string "LateFalls$Tokens" (58 : Nat)) "java/lang/String" "value" "[B") (.int 78)) (.int 101)) (by decide +kernel)
  | 79, _ => exact hs (.eq (.elem (Jvm.Term.field (Jvm.Term.string "LateFalls$Tokens" (58 : Nat)) "java/lang/String" "value" "[B") (.int 79)) (.int 108)) (by decide +kernel)
  | 80, _ => exact hs (.eq (.elem (Jvm.Term.field (Jvm.Term.string "LateFalls$Tokens" (58 : Nat)) "java/lang/String" "value" "[B") (.int 80)) (.int 32)) (by decide +kernel)
  | 81, _ => exact hs (.eq (.elem (Jvm.Term.field (Jvm.Term.string "LateFalls$Tokens" (58 : Nat)) "java/lang/String" "value" "[B") (.int 81)) (.int 108)) (by decide +kernel)
  | 82, _ => exact hs (.eq (.elem (Jvm.Term.field (Jvm.Term.string "LateFalls$Tokens" (58 : Nat)) "java/lang/String" "value" "[B") (.int 82)) (.int 121)) (by decide +kernel)
  | 83, _ => exact hs (.eq (.elem (Jvm.Term.field (Jvm.Term.string "LateFalls$Tokens" (58 : Nat)) "java/lang/String" "value" "[B") (.int 83)) (.int 105)) (by decide +kernel)
  | 84, _ => exact hs (.eq (.elem (Jvm.Term.field (Jvm.Term.string "LateFalls$Tokens" (58 : Nat)) "java/lang/String" "value" "[B") (.int 84)) (.int 110)) (by decide +kernel)
  | 85, _ => exact hs (.eq (.elem (Jvm.Term.field (Jvm.Term.string "LateFalls$Tokens" (58 : Nat)) "java/lang/String" "value" "[B") (.int 85)) (.int 103)) (by decide +kernel)
  | 86, _ => exact hs (.eq (.elem (Jvm.Term.field (Jvm.Term.string "LateFalls$Tokens" (58 : Nat)) "java/lang/String" "value" "[B") (.int 86)) (.int 32)) (by decide +kernel)
  | 87, _ => exact hs (.eq (.elem (Jvm.Term.field (Jvm.Term.string "LateFalls$Tokens" (58 : Nat)) "java/lang/String" "value" "[B") (.int 87)) (.int 119)) (by decide +kernel)
  | 88, _ => exact hs (.eq (.elem (Jvm.Term.field (Jvm.Term.string "LateFalls$Tokens" (58 : Nat)) "java/lang/String" "value" "[B") (.int 88)) (.int 97)) (by decide +kernel)
  | 89, _ => exact hs (.eq (.elem (Jvm.Term.field (Jvm.Term.string "LateFalls$Tokens" (58 : Nat)) "java/lang/String" "value" "[B") (.int 89)) (.int 32)) (by decide +kernel)
  | 90, _ => exact hs (.eq (.elem (Jvm.Term.field (Jvm.Term.string "LateFalls$Tokens" (58 : Nat)) "java/lang/String" "value" "[B") (.int 90)) (.int 119)) (by decide +kernel)
  | 91, _ => exact hs (.eq (.elem (Jvm.Term.field (Jvm.Term.string "LateFalls$Tokens" (58 : Nat)) "java/lang/String" "value" "[B") (.int 91)) (.int 98)) (by decide +kernel)
  | 92, _ => exact hs (.eq (.elem (Jvm.Term.field (Jvm.Term.string "LateFalls$Tokens" (58 : Nat)) "java/lang/String" "value" "[B") (.int 92)) (.int 32)) (by decide +kernel)
  | 93, _ => exact hs (.eq (.elem (Jvm.Term.field (Jvm.Term.string "LateFalls$Tokens" (58 : Nat)) "java/lang/String" "value" "[B") (.int 93)) (.int 108)) (by decide +kernel)
  | 94, _ => exact hs (.eq (.elem (Jvm.Term.field (Jvm.Term.string "LateFalls$Tokens" (58 : Nat)) "java/lang/String" "value" "[B") (.int 94)) (.int 97)) (by decide +kernel)
  | 95, _ => exact hs (.eq (.elem (Jvm.Term.field (Jvm.Term.string "LateFalls$Tokens" (58 : Nat)) "java/lang/String" "value" "[B") (.int 95)) (.int 32)) (by decide +kernel)
  | 96, _ => exact hs (.eq (.elem (Jvm.Term.field (Jvm.Term.string "LateFalls$Tokens" (58 : Nat)) "java/lang/String" "value" "[B") (.int 96)) (.int 108)) (by decide +kernel)
  | 97, _ => exact hs (.eq (.elem (Jvm.Term.field (Jvm.Term.string "LateFalls$Tokens" (58 : Nat)) "java/lang/String" "value" "[B") (.int 97)) (.int 98)) (by decide +kernel)
  | 98, _ => exact hs (.eq (.elem (Jvm.Term.field (Jvm.Term.string "LateFalls$Tokens" (58 : Nat)) "java/lang/String" "value" "[B") (.int 98)) (.int 32)) (by decide +kernel)
  | j + 99, hj => exact absurd hj (by omega)
set_option maxRecDepth 100000 in
theorem ls_tx1 {s : State} {b : Nat} {A : Nat → Prop} (hA : ∀ a : Nat, a < s.heap.size → ¬ A a) (hs : ∀ w ∈ flatC (Jvm.Cond.and given_1 narrow_1), w.before #[Value.ref b] s = true) (a : Nat) (hr : vk_R "LateFalls$Tokens" 37 ";:+-*()[]=<>" a s) : xTs 12 a A s s.heap := by
  have ht : (Jvm.Term.string "LateFalls$Tokens" 37).eval #[Value.ref b] s none [] s = some (.ref a) := hr.2
  refine xTs_of (f := fun j => [59, 58, 43, 45, 42, 40, 41, 91, 93, 61, 60, 62].getD j 0) hA ht (by decide) (hs (.exactly (Jvm.Term.string "LateFalls$Tokens" (37 : Nat)) "java/lang/String") (by decide +kernel)) (hs (.eq (.field (Jvm.Term.string "LateFalls$Tokens" (37 : Nat)) "java/lang/String" "coder" "B") (.int 0)) (by decide +kernel)) (hs (.arrayOf (Jvm.Term.field (Jvm.Term.string "LateFalls$Tokens" (37 : Nat)) "java/lang/String" "value" "[B") .byte) (by decide +kernel)) (hs (.eq (.length (Jvm.Term.field (Jvm.Term.string "LateFalls$Tokens" (37 : Nat)) "java/lang/String" "value" "[B")) (.int 12)) (by decide +kernel)) (fun j hj => ?_)
  match j, hj with
  | 0, _ => exact hs (.eq (.elem (Jvm.Term.field (Jvm.Term.string "LateFalls$Tokens" (37 : Nat)) "java/lang/String" "value" "[B") (.int 0)) (.int 59)) (by decide +kernel)
  | 1, _ => exact hs (.eq (.elem (Jvm.Term.field (Jvm.Term.string "LateFalls$Tokens" (37 : Nat)) "java/lang/String" "value" "[B") (.int 1)) (.int 58)) (by decide +kernel)
  | 2, _ => exact hs (.eq (.elem (Jvm.Term.field (Jvm.Term.string "LateFalls$Tokens" (37 : Nat)) "java/lang/String" "value" "[B") (.int 2)) (.int 43)) (by decide +kernel)
  | 3, _ => exact hs (.eq (.elem (Jvm.Term.field (Jvm.Term.string "LateFalls$Tokens" (37 : Nat)) "java/lang/String" "value" "[B") (.int 3)) (.int 45)) (by decide +kernel)
  | 4, _ => exact hs (.eq (.elem (Jvm.Term.field (Jvm.Term.string "LateFalls$Tokens" (37 : Nat)) "java/lang/String" "value" "[B") (.int 4)) (.int 42)) (by decide +kernel)
  | 5, _ => exact hs (.eq (.elem (Jvm.Term.field (Jvm.Term.string "LateFalls$Tokens" (37 : Nat)) "java/lang/String" "value" "[B") (.int 5)) (.int 40)) (by decide +kernel)
  | 6, _ => exact hs (.eq (.elem (Jvm.Term.field (Jvm.Term.string "LateFalls$Tokens" (37 : Nat)) "java/lang/String" "value" "[B") (.int 6)) (.int 41)) (by decide +kernel)
  | 7, _ => exact hs (.eq (.elem (Jvm.Term.field (Jvm.Term.string "LateFalls$Tokens" (37 : Nat)) "java/lang/String" "value" "[B") (.int 7)) (.int 91)) (by decide +kernel)
  | 8, _ => exact hs (.eq (.elem (Jvm.Term.field (Jvm.Term.string "LateFalls$Tokens" (37 : Nat)) "java/lang/String" "value" "[B") (.int 8)) (.int 93)) (by decide +kernel)
  | 9, _ => exact hs (.eq (.elem (Jvm.Term.field (Jvm.Term.string "LateFalls$Tokens" (37 : Nat)) "java/lang/String" "value" "[B") (.int 9)) (.int 61)) (by decide +kernel)
  | 10, _ => exact hs (.eq (.elem (Jvm.Term.field (Jvm.Term.string "LateFalls$Tokens" (37 : Nat)) "java/lang/String" "value" "[B") (.int 10)) (.int 60)) (by decide +kernel)
  | 11, _ => exact hs (.eq (.elem (Jvm.Term.field (Jvm.Term.string "LateFalls$Tokens" (37 : Nat)) "java/lang/String" "value" "[B") (.int 11)) (.int 62)) (by decide +kernel)
  | j + 12, hj => exact absurd hj (by omega)
set_option maxRecDepth 100000 in
theorem ls_tx2 {s : State} {b : Nat} {A : Nat → Prop} (hA : ∀ a : Nat, a < s.heap.size → ¬ A a) (hs : ∀ w ∈ flatC (Jvm.Cond.and given_1 narrow_1), w.before #[Value.ref b] s = true) (a : Nat) (hr : vk_R "LateFallsModel" 272 "fall" a s) : xTs 4 a A s s.heap := by
  have ht : (Jvm.Term.string "LateFallsModel" 272).eval #[Value.ref b] s none [] s = some (.ref a) := hr.2
  refine xTs_of (f := fun j => [102, 97, 108, 108].getD j 0) hA ht (by decide) (hs (.exactly (Jvm.Term.string "LateFallsModel" (272 : Nat)) "java/lang/String") (by decide +kernel)) (hs (.eq (.field (Jvm.Term.string "LateFallsModel" (272 : Nat)) "java/lang/String" "coder" "B") (.int 0)) (by decide +kernel)) (hs (.arrayOf (Jvm.Term.field (Jvm.Term.string "LateFallsModel" (272 : Nat)) "java/lang/String" "value" "[B") .byte) (by decide +kernel)) (hs (.eq (.length (Jvm.Term.field (Jvm.Term.string "LateFallsModel" (272 : Nat)) "java/lang/String" "value" "[B")) (.int 4)) (by decide +kernel)) (fun j hj => ?_)
  match j, hj with
  | 0, _ => exact hs (.eq (.elem (Jvm.Term.field (Jvm.Term.string "LateFallsModel" (272 : Nat)) "java/lang/String" "value" "[B") (.int 0)) (.int 102)) (by decide +kernel)
  | 1, _ => exact hs (.eq (.elem (Jvm.Term.field (Jvm.Term.string "LateFallsModel" (272 : Nat)) "java/lang/String" "value" "[B") (.int 1)) (.int 97)) (by decide +kernel)
  | 2, _ => exact hs (.eq (.elem (Jvm.Term.field (Jvm.Term.string "LateFallsModel" (272 : Nat)) "java/lang/String" "value" "[B") (.int 2)) (.int 108)) (by decide +kernel)
  | 3, _ => exact hs (.eq (.elem (Jvm.Term.field (Jvm.Term.string "LateFallsModel" (272 : Nat)) "java/lang/String" "value" "[B") (.int 3)) (.int 108)) (by decide +kernel)
  | j + 4, hj => exact absurd hj (by omega)
set_option maxRecDepth 100000 in
theorem ls_tx3 {s : State} {b : Nat} {A : Nat → Prop} (hA : ∀ a : Nat, a < s.heap.size → ¬ A a) (hs : ∀ w ∈ flatC (Jvm.Cond.and given_1 narrow_1), w.before #[Value.ref b] s = true) (a : Nat) (hr : vk_R "LateFallsModel" 248 "thing" a s) : xTs 5 a A s s.heap := by
  have ht : (Jvm.Term.string "LateFallsModel" 248).eval #[Value.ref b] s none [] s = some (.ref a) := hr.2
  refine xTs_of (f := fun j => [116, 104, 105, 110, 103].getD j 0) hA ht (by decide) (hs (.exactly (Jvm.Term.string "LateFallsModel" (248 : Nat)) "java/lang/String") (by decide +kernel)) (hs (.eq (.field (Jvm.Term.string "LateFallsModel" (248 : Nat)) "java/lang/String" "coder" "B") (.int 0)) (by decide +kernel)) (hs (.arrayOf (Jvm.Term.field (Jvm.Term.string "LateFallsModel" (248 : Nat)) "java/lang/String" "value" "[B") .byte) (by decide +kernel)) (hs (.eq (.length (Jvm.Term.field (Jvm.Term.string "LateFallsModel" (248 : Nat)) "java/lang/String" "value" "[B")) (.int 5)) (by decide +kernel)) (fun j hj => ?_)
  match j, hj with
  | 0, _ => exact hs (.eq (.elem (Jvm.Term.field (Jvm.Term.string "LateFallsModel" (248 : Nat)) "java/lang/String" "value" "[B") (.int 0)) (.int 116)) (by decide +kernel)
  | 1, _ => exact hs (.eq (.elem (Jvm.Term.field (Jvm.Term.string "LateFallsModel" (248 : Nat)) "java/lang/String" "value" "[B") (.int 1)) (.int 104)) (by decide +kernel)
  | 2, _ => exact hs (.eq (.elem (Jvm.Term.field (Jvm.Term.string "LateFallsModel" (248 : Nat)) "java/lang/String" "value" "[B") (.int 2)) (.int 105)) (by decide +kernel)
  | 3, _ => exact hs (.eq (.elem (Jvm.Term.field (Jvm.Term.string "LateFallsModel" (248 : Nat)) "java/lang/String" "value" "[B") (.int 3)) (.int 110)) (by decide +kernel)
  | 4, _ => exact hs (.eq (.elem (Jvm.Term.field (Jvm.Term.string "LateFallsModel" (248 : Nat)) "java/lang/String" "value" "[B") (.int 4)) (.int 103)) (by decide +kernel)
  | j + 5, hj => exact absurd hj (by omega)
set_option maxRecDepth 100000 in
theorem ls_tx4 {s : State} {b : Nat} {A : Nat → Prop} (hA : ∀ a : Nat, a < s.heap.size → ¬ A a) (hs : ∀ w ∈ flatC (Jvm.Cond.and given_1 narrow_1), w.before #[Value.ref b] s = true) (a : Nat) (hr : vk_R "LateFallsModel" 183 "held" a s) : xTs 4 a A s s.heap := by
  have ht : (Jvm.Term.string "LateFallsModel" 183).eval #[Value.ref b] s none [] s = some (.ref a) := hr.2
  refine xTs_of (f := fun j => [104, 101, 108, 100].getD j 0) hA ht (by decide) (hs (.exactly (Jvm.Term.string "LateFallsModel" (183 : Nat)) "java/lang/String") (by decide +kernel)) (hs (.eq (.field (Jvm.Term.string "LateFallsModel" (183 : Nat)) "java/lang/String" "coder" "B") (.int 0)) (by decide +kernel)) (hs (.arrayOf (Jvm.Term.field (Jvm.Term.string "LateFallsModel" (183 : Nat)) "java/lang/String" "value" "[B") .byte) (by decide +kernel)) (hs (.eq (.length (Jvm.Term.field (Jvm.Term.string "LateFallsModel" (183 : Nat)) "java/lang/String" "value" "[B")) (.int 4)) (by decide +kernel)) (fun j hj => ?_)
  match j, hj with
  | 0, _ => exact hs (.eq (.elem (Jvm.Term.field (Jvm.Term.string "LateFallsModel" (183 : Nat)) "java/lang/String" "value" "[B") (.int 0)) (.int 104)) (by decide +kernel)
  | 1, _ => exact hs (.eq (.elem (Jvm.Term.field (Jvm.Term.string "LateFallsModel" (183 : Nat)) "java/lang/String" "value" "[B") (.int 1)) (.int 101)) (by decide +kernel)
  | 2, _ => exact hs (.eq (.elem (Jvm.Term.field (Jvm.Term.string "LateFallsModel" (183 : Nat)) "java/lang/String" "value" "[B") (.int 2)) (.int 108)) (by decide +kernel)
  | 3, _ => exact hs (.eq (.elem (Jvm.Term.field (Jvm.Term.string "LateFallsModel" (183 : Nat)) "java/lang/String" "value" "[B") (.int 3)) (.int 100)) (by decide +kernel)
  | j + 4, hj => exact absurd hj (by omega)
set_option maxRecDepth 100000 in
theorem ls_tx5 {s : State} {b : Nat} {A : Nat → Prop} (hA : ∀ a : Nat, a < s.heap.size → ¬ A a) (hs : ∀ w ∈ flatC (Jvm.Cond.and given_1 narrow_1), w.before #[Value.ref b] s = true) (a : Nat) (hr : vk_R "LateFallsModel" 238 "up" a s) : xTs 2 a A s s.heap := by
  have ht : (Jvm.Term.string "LateFallsModel" 238).eval #[Value.ref b] s none [] s = some (.ref a) := hr.2
  refine xTs_of (f := fun j => [117, 112].getD j 0) hA ht (by decide) (hs (.exactly (Jvm.Term.string "LateFallsModel" (238 : Nat)) "java/lang/String") (by decide +kernel)) (hs (.eq (.field (Jvm.Term.string "LateFallsModel" (238 : Nat)) "java/lang/String" "coder" "B") (.int 0)) (by decide +kernel)) (hs (.arrayOf (Jvm.Term.field (Jvm.Term.string "LateFallsModel" (238 : Nat)) "java/lang/String" "value" "[B") .byte) (by decide +kernel)) (hs (.eq (.length (Jvm.Term.field (Jvm.Term.string "LateFallsModel" (238 : Nat)) "java/lang/String" "value" "[B")) (.int 2)) (by decide +kernel)) (fun j hj => ?_)
  match j, hj with
  | 0, _ => exact hs (.eq (.elem (Jvm.Term.field (Jvm.Term.string "LateFallsModel" (238 : Nat)) "java/lang/String" "value" "[B") (.int 0)) (.int 117)) (by decide +kernel)
  | 1, _ => exact hs (.eq (.elem (Jvm.Term.field (Jvm.Term.string "LateFallsModel" (238 : Nat)) "java/lang/String" "value" "[B") (.int 1)) (.int 112)) (by decide +kernel)
  | j + 2, hj => exact absurd hj (by omega)
set_option maxRecDepth 100000 in
theorem ls_tx6 {s : State} {b : Nat} {A : Nat → Prop} (hA : ∀ a : Nat, a < s.heap.size → ¬ A a) (hs : ∀ w ∈ flatC (Jvm.Cond.and given_1 narrow_1), w.before #[Value.ref b] s = true) (a : Nat) (hr : vk_R "LateFallsModel" 220 "for" a s) : xTs 3 a A s s.heap := by
  have ht : (Jvm.Term.string "LateFallsModel" 220).eval #[Value.ref b] s none [] s = some (.ref a) := hr.2
  refine xTs_of (f := fun j => [102, 111, 114].getD j 0) hA ht (by decide) (hs (.exactly (Jvm.Term.string "LateFallsModel" (220 : Nat)) "java/lang/String") (by decide +kernel)) (hs (.eq (.field (Jvm.Term.string "LateFallsModel" (220 : Nat)) "java/lang/String" "coder" "B") (.int 0)) (by decide +kernel)) (hs (.arrayOf (Jvm.Term.field (Jvm.Term.string "LateFallsModel" (220 : Nat)) "java/lang/String" "value" "[B") .byte) (by decide +kernel)) (hs (.eq (.length (Jvm.Term.field (Jvm.Term.string "LateFallsModel" (220 : Nat)) "java/lang/String" "value" "[B")) (.int 3)) (by decide +kernel)) (fun j hj => ?_)
  match j, hj with
  | 0, _ => exact hs (.eq (.elem (Jvm.Term.field (Jvm.Term.string "LateFallsModel" (220 : Nat)) "java/lang/String" "value" "[B") (.int 0)) (.int 102)) (by decide +kernel)
  | 1, _ => exact hs (.eq (.elem (Jvm.Term.field (Jvm.Term.string "LateFallsModel" (220 : Nat)) "java/lang/String" "value" "[B") (.int 1)) (.int 111)) (by decide +kernel)
  | 2, _ => exact hs (.eq (.elem (Jvm.Term.field (Jvm.Term.string "LateFallsModel" (220 : Nat)) "java/lang/String" "value" "[B") (.int 2)) (.int 114)) (by decide +kernel)
  | j + 3, hj => exact absurd hj (by omega)
set_option maxRecDepth 100000 in
theorem ls_tx7 {s : State} {b : Nat} {A : Nat → Prop} (hA : ∀ a : Nat, a < s.heap.size → ¬ A a) (hs : ∀ w ∈ flatC (Jvm.Cond.and given_1 narrow_1), w.before #[Value.ref b] s = true) (a : Nat) (hr : vk_R "LateFallsModel" 243 "on" a s) : xTs 2 a A s s.heap := by
  have ht : (Jvm.Term.string "LateFallsModel" 243).eval #[Value.ref b] s none [] s = some (.ref a) := hr.2
  refine xTs_of (f := fun j => [111, 110].getD j 0) hA ht (by decide) (hs (.exactly (Jvm.Term.string "LateFallsModel" (243 : Nat)) "java/lang/String") (by decide +kernel)) (hs (.eq (.field (Jvm.Term.string "LateFallsModel" (243 : Nat)) "java/lang/String" "coder" "B") (.int 0)) (by decide +kernel)) (hs (.arrayOf (Jvm.Term.field (Jvm.Term.string "LateFallsModel" (243 : Nat)) "java/lang/String" "value" "[B") .byte) (by decide +kernel)) (hs (.eq (.length (Jvm.Term.field (Jvm.Term.string "LateFallsModel" (243 : Nat)) "java/lang/String" "value" "[B")) (.int 2)) (by decide +kernel)) (fun j hj => ?_)
  match j, hj with
  | 0, _ => exact hs (.eq (.elem (Jvm.Term.field (Jvm.Term.string "LateFallsModel" (243 : Nat)) "java/lang/String" "value" "[B") (.int 0)) (.int 111)) (by decide +kernel)
  | 1, _ => exact hs (.eq (.elem (Jvm.Term.field (Jvm.Term.string "LateFallsModel" (243 : Nat)) "java/lang/String" "value" "[B") (.int 1)) (.int 110)) (by decide +kernel)
  | j + 2, hj => exact absurd hj (by omega)
set_option maxRecDepth 100000 in
theorem ls_tx8 {s : State} {b : Nat} {A : Nat → Prop} (hA : ∀ a : Nat, a < s.heap.size → ¬ A a) (hs : ∀ w ∈ flatC (Jvm.Cond.and given_1 narrow_1), w.before #[Value.ref b] s = true) (a : Nat) (hr : vk_R "LateFallsModel" 253 "walker" a s) : xTs 6 a A s s.heap := by
  have ht : (Jvm.Term.string "LateFallsModel" 253).eval #[Value.ref b] s none [] s = some (.ref a) := hr.2
  refine xTs_of (f := fun j => [119, 97, 108, 107, 101, 114].getD j 0) hA ht (by decide) (hs (.exactly (Jvm.Term.string "LateFallsModel" (253 : Nat)) "java/lang/String") (by decide +kernel)) (hs (.eq (.field (Jvm.Term.string "LateFallsModel" (253 : Nat)) "java/lang/String" "coder" "B") (.int 0)) (by decide +kernel)) (hs (.arrayOf (Jvm.Term.field (Jvm.Term.string "LateFallsModel" (253 : Nat)) "java/lang/String" "value" "[B") .byte) (by decide +kernel)) (hs (.eq (.length (Jvm.Term.field (Jvm.Term.string "LateFallsModel" (253 : Nat)) "java/lang/String" "value" "[B")) (.int 6)) (by decide +kernel)) (fun j hj => ?_)
  match j, hj with
  | 0, _ => exact hs (.eq (.elem (Jvm.Term.field (Jvm.Term.string "LateFallsModel" (253 : Nat)) "java/lang/String" "value" "[B") (.int 0)) (.int 119)) (by decide +kernel)
  | 1, _ => exact hs (.eq (.elem (Jvm.Term.field (Jvm.Term.string "LateFallsModel" (253 : Nat)) "java/lang/String" "value" "[B") (.int 1)) (.int 97)) (by decide +kernel)
  | 2, _ => exact hs (.eq (.elem (Jvm.Term.field (Jvm.Term.string "LateFallsModel" (253 : Nat)) "java/lang/String" "value" "[B") (.int 2)) (.int 108)) (by decide +kernel)
  | 3, _ => exact hs (.eq (.elem (Jvm.Term.field (Jvm.Term.string "LateFallsModel" (253 : Nat)) "java/lang/String" "value" "[B") (.int 3)) (.int 107)) (by decide +kernel)
  | 4, _ => exact hs (.eq (.elem (Jvm.Term.field (Jvm.Term.string "LateFallsModel" (253 : Nat)) "java/lang/String" "value" "[B") (.int 4)) (.int 101)) (by decide +kernel)
  | 5, _ => exact hs (.eq (.elem (Jvm.Term.field (Jvm.Term.string "LateFallsModel" (253 : Nat)) "java/lang/String" "value" "[B") (.int 5)) (.int 114)) (by decide +kernel)
  | j + 6, hj => exact absurd hj (by omega)
set_option maxRecDepth 100000 in
theorem ls_tx9 {s : State} {b : Nat} {A : Nat → Prop} (hA : ∀ a : Nat, a < s.heap.size → ¬ A a) (hs : ∀ w ∈ flatC (Jvm.Cond.and given_1 narrow_1), w.before #[Value.ref b] s = true) (a : Nat) (hr : vk_R "LateFallsModel" 191 "hour" a s) : xTs 4 a A s s.heap := by
  have ht : (Jvm.Term.string "LateFallsModel" 191).eval #[Value.ref b] s none [] s = some (.ref a) := hr.2
  refine xTs_of (f := fun j => [104, 111, 117, 114].getD j 0) hA ht (by decide) (hs (.exactly (Jvm.Term.string "LateFallsModel" (191 : Nat)) "java/lang/String") (by decide +kernel)) (hs (.eq (.field (Jvm.Term.string "LateFallsModel" (191 : Nat)) "java/lang/String" "coder" "B") (.int 0)) (by decide +kernel)) (hs (.arrayOf (Jvm.Term.field (Jvm.Term.string "LateFallsModel" (191 : Nat)) "java/lang/String" "value" "[B") .byte) (by decide +kernel)) (hs (.eq (.length (Jvm.Term.field (Jvm.Term.string "LateFallsModel" (191 : Nat)) "java/lang/String" "value" "[B")) (.int 4)) (by decide +kernel)) (fun j hj => ?_)
  match j, hj with
  | 0, _ => exact hs (.eq (.elem (Jvm.Term.field (Jvm.Term.string "LateFallsModel" (191 : Nat)) "java/lang/String" "value" "[B") (.int 0)) (.int 104)) (by decide +kernel)
  | 1, _ => exact hs (.eq (.elem (Jvm.Term.field (Jvm.Term.string "LateFallsModel" (191 : Nat)) "java/lang/String" "value" "[B") (.int 1)) (.int 111)) (by decide +kernel)
  | 2, _ => exact hs (.eq (.elem (Jvm.Term.field (Jvm.Term.string "LateFallsModel" (191 : Nat)) "java/lang/String" "value" "[B") (.int 2)) (.int 117)) (by decide +kernel)
  | 3, _ => exact hs (.eq (.elem (Jvm.Term.field (Jvm.Term.string "LateFallsModel" (191 : Nat)) "java/lang/String" "value" "[B") (.int 3)) (.int 114)) (by decide +kernel)
  | j + 4, hj => exact absurd hj (by omega)
set_option maxRecDepth 100000 in
theorem ls_tx10 {s : State} {b : Nat} {A : Nat → Prop} (hA : ∀ a : Nat, a < s.heap.size → ¬ A a) (hs : ∀ w ∈ flatC (Jvm.Cond.and given_1 narrow_1), w.before #[Value.ref b] s = true) (a : Nat) (hr : vk_R "LateFallsModel" 258 "hangs" a s) : xTs 5 a A s s.heap := by
  have ht : (Jvm.Term.string "LateFallsModel" 258).eval #[Value.ref b] s none [] s = some (.ref a) := hr.2
  refine xTs_of (f := fun j => [104, 97, 110, 103, 115].getD j 0) hA ht (by decide) (hs (.exactly (Jvm.Term.string "LateFallsModel" (258 : Nat)) "java/lang/String") (by decide +kernel)) (hs (.eq (.field (Jvm.Term.string "LateFallsModel" (258 : Nat)) "java/lang/String" "coder" "B") (.int 0)) (by decide +kernel)) (hs (.arrayOf (Jvm.Term.field (Jvm.Term.string "LateFallsModel" (258 : Nat)) "java/lang/String" "value" "[B") .byte) (by decide +kernel)) (hs (.eq (.length (Jvm.Term.field (Jvm.Term.string "LateFallsModel" (258 : Nat)) "java/lang/String" "value" "[B")) (.int 5)) (by decide +kernel)) (fun j hj => ?_)
  match j, hj with
  | 0, _ => exact hs (.eq (.elem (Jvm.Term.field (Jvm.Term.string "LateFallsModel" (258 : Nat)) "java/lang/String" "value" "[B") (.int 0)) (.int 104)) (by decide +kernel)
  | 1, _ => exact hs (.eq (.elem (Jvm.Term.field (Jvm.Term.string "LateFallsModel" (258 : Nat)) "java/lang/String" "value" "[B") (.int 1)) (.int 97)) (by decide +kernel)
  | 2, _ => exact hs (.eq (.elem (Jvm.Term.field (Jvm.Term.string "LateFallsModel" (258 : Nat)) "java/lang/String" "value" "[B") (.int 2)) (.int 110)) (by decide +kernel)
  | 3, _ => exact hs (.eq (.elem (Jvm.Term.field (Jvm.Term.string "LateFallsModel" (258 : Nat)) "java/lang/String" "value" "[B") (.int 3)) (.int 103)) (by decide +kernel)
  | 4, _ => exact hs (.eq (.elem (Jvm.Term.field (Jvm.Term.string "LateFallsModel" (258 : Nat)) "java/lang/String" "value" "[B") (.int 4)) (.int 115)) (by decide +kernel)
  | j + 5, hj => exact absurd hj (by omega)
set_option maxRecDepth 100000 in
theorem ls_tx11 {s : State} {b : Nat} {A : Nat → Prop} (hA : ∀ a : Nat, a < s.heap.size → ¬ A a) (hs : ∀ w ∈ flatC (Jvm.Cond.and given_1 narrow_1), w.before #[Value.ref b] s = true) (a : Nat) (hr : vk_R "LateFallsModel" 185 "weight" a s) : xTs 6 a A s s.heap := by
  have ht : (Jvm.Term.string "LateFallsModel" 185).eval #[Value.ref b] s none [] s = some (.ref a) := hr.2
  refine xTs_of (f := fun j => [119, 101, 105, 103, 104, 116].getD j 0) hA ht (by decide) (hs (.exactly (Jvm.Term.string "LateFallsModel" (185 : Nat)) "java/lang/String") (by decide +kernel)) (hs (.eq (.field (Jvm.Term.string "LateFallsModel" (185 : Nat)) "java/lang/String" "coder" "B") (.int 0)) (by decide +kernel)) (hs (.arrayOf (Jvm.Term.field (Jvm.Term.string "LateFallsModel" (185 : Nat)) "java/lang/String" "value" "[B") .byte) (by decide +kernel)) (hs (.eq (.length (Jvm.Term.field (Jvm.Term.string "LateFallsModel" (185 : Nat)) "java/lang/String" "value" "[B")) (.int 6)) (by decide +kernel)) (fun j hj => ?_)
  match j, hj with
  | 0, _ => exact hs (.eq (.elem (Jvm.Term.field (Jvm.Term.string "LateFallsModel" (185 : Nat)) "java/lang/String" "value" "[B") (.int 0)) (.int 119)) (by decide +kernel)
  | 1, _ => exact hs (.eq (.elem (Jvm.Term.field (Jvm.Term.string "LateFallsModel" (185 : Nat)) "java/lang/String" "value" "[B") (.int 1)) (.int 101)) (by decide +kernel)
  | 2, _ => exact hs (.eq (.elem (Jvm.Term.field (Jvm.Term.string "LateFallsModel" (185 : Nat)) "java/lang/String" "value" "[B") (.int 2)) (.int 105)) (by decide +kernel)
  | 3, _ => exact hs (.eq (.elem (Jvm.Term.field (Jvm.Term.string "LateFallsModel" (185 : Nat)) "java/lang/String" "value" "[B") (.int 3)) (.int 103)) (by decide +kernel)
  | 4, _ => exact hs (.eq (.elem (Jvm.Term.field (Jvm.Term.string "LateFallsModel" (185 : Nat)) "java/lang/String" "value" "[B") (.int 4)) (.int 104)) (by decide +kernel)
  | 5, _ => exact hs (.eq (.elem (Jvm.Term.field (Jvm.Term.string "LateFallsModel" (185 : Nat)) "java/lang/String" "value" "[B") (.int 5)) (.int 116)) (by decide +kernel)
  | j + 6, hj => exact absurd hj (by omega)
set_option maxRecDepth 100000 in
theorem ls_tx12 {s : State} {b : Nat} {A : Nat → Prop} (hA : ∀ a : Nat, a < s.heap.size → ¬ A a) (hs : ∀ w ∈ flatC (Jvm.Cond.and given_1 narrow_1), w.before #[Value.ref b] s = true) (a : Nat) (hr : vk_R "LateFallsModel" 187 "column" a s) : xTs 6 a A s s.heap := by
  have ht : (Jvm.Term.string "LateFallsModel" 187).eval #[Value.ref b] s none [] s = some (.ref a) := hr.2
  refine xTs_of (f := fun j => [99, 111, 108, 117, 109, 110].getD j 0) hA ht (by decide) (hs (.exactly (Jvm.Term.string "LateFallsModel" (187 : Nat)) "java/lang/String") (by decide +kernel)) (hs (.eq (.field (Jvm.Term.string "LateFallsModel" (187 : Nat)) "java/lang/String" "coder" "B") (.int 0)) (by decide +kernel)) (hs (.arrayOf (Jvm.Term.field (Jvm.Term.string "LateFallsModel" (187 : Nat)) "java/lang/String" "value" "[B") .byte) (by decide +kernel)) (hs (.eq (.length (Jvm.Term.field (Jvm.Term.string "LateFallsModel" (187 : Nat)) "java/lang/String" "value" "[B")) (.int 6)) (by decide +kernel)) (fun j hj => ?_)
  match j, hj with
  | 0, _ => exact hs (.eq (.elem (Jvm.Term.field (Jvm.Term.string "LateFallsModel" (187 : Nat)) "java/lang/String" "value" "[B") (.int 0)) (.int 99)) (by decide +kernel)
  | 1, _ => exact hs (.eq (.elem (Jvm.Term.field (Jvm.Term.string "LateFallsModel" (187 : Nat)) "java/lang/String" "value" "[B") (.int 1)) (.int 111)) (by decide +kernel)
  | 2, _ => exact hs (.eq (.elem (Jvm.Term.field (Jvm.Term.string "LateFallsModel" (187 : Nat)) "java/lang/String" "value" "[B") (.int 2)) (.int 108)) (by decide +kernel)
  | 3, _ => exact hs (.eq (.elem (Jvm.Term.field (Jvm.Term.string "LateFallsModel" (187 : Nat)) "java/lang/String" "value" "[B") (.int 3)) (.int 117)) (by decide +kernel)
  | 4, _ => exact hs (.eq (.elem (Jvm.Term.field (Jvm.Term.string "LateFallsModel" (187 : Nat)) "java/lang/String" "value" "[B") (.int 4)) (.int 109)) (by decide +kernel)
  | 5, _ => exact hs (.eq (.elem (Jvm.Term.field (Jvm.Term.string "LateFallsModel" (187 : Nat)) "java/lang/String" "value" "[B") (.int 5)) (.int 110)) (by decide +kernel)
  | j + 6, hj => exact absurd hj (by omega)
set_option maxRecDepth 100000 in
theorem ls_tx13 {s : State} {b : Nat} {A : Nat → Prop} (hA : ∀ a : Nat, a < s.heap.size → ¬ A a) (hs : ∀ w ∈ flatC (Jvm.Cond.and given_1 narrow_1), w.before #[Value.ref b] s = true) (a : Nat) (hr : vk_R "LateFallsModel" 189 "level" a s) : xTs 5 a A s s.heap := by
  have ht : (Jvm.Term.string "LateFallsModel" 189).eval #[Value.ref b] s none [] s = some (.ref a) := hr.2
  refine xTs_of (f := fun j => [108, 101, 118, 101, 108].getD j 0) hA ht (by decide) (hs (.exactly (Jvm.Term.string "LateFallsModel" (189 : Nat)) "java/lang/String") (by decide +kernel)) (hs (.eq (.field (Jvm.Term.string "LateFallsModel" (189 : Nat)) "java/lang/String" "coder" "B") (.int 0)) (by decide +kernel)) (hs (.arrayOf (Jvm.Term.field (Jvm.Term.string "LateFallsModel" (189 : Nat)) "java/lang/String" "value" "[B") .byte) (by decide +kernel)) (hs (.eq (.length (Jvm.Term.field (Jvm.Term.string "LateFallsModel" (189 : Nat)) "java/lang/String" "value" "[B")) (.int 5)) (by decide +kernel)) (fun j hj => ?_)
  match j, hj with
  | 0, _ => exact hs (.eq (.elem (Jvm.Term.field (Jvm.Term.string "LateFallsModel" (189 : Nat)) "java/lang/String" "value" "[B") (.int 0)) (.int 108)) (by decide +kernel)
  | 1, _ => exact hs (.eq (.elem (Jvm.Term.field (Jvm.Term.string "LateFallsModel" (189 : Nat)) "java/lang/String" "value" "[B") (.int 1)) (.int 101)) (by decide +kernel)
  | 2, _ => exact hs (.eq (.elem (Jvm.Term.field (Jvm.Term.string "LateFallsModel" (189 : Nat)) "java/lang/String" "value" "[B") (.int 2)) (.int 118)) (by decide +kernel)
  | 3, _ => exact hs (.eq (.elem (Jvm.Term.field (Jvm.Term.string "LateFallsModel" (189 : Nat)) "java/lang/String" "value" "[B") (.int 3)) (.int 101)) (by decide +kernel)
  | 4, _ => exact hs (.eq (.elem (Jvm.Term.field (Jvm.Term.string "LateFallsModel" (189 : Nat)) "java/lang/String" "value" "[B") (.int 4)) (.int 108)) (by decide +kernel)
  | j + 5, hj => exact absurd hj (by omega)
set_option maxRecDepth 100000 in
theorem ls_tx14 {s : State} {b : Nat} {A : Nat → Prop} (hA : ∀ a : Nat, a < s.heap.size → ¬ A a) (hs : ∀ w ∈ flatC (Jvm.Cond.and given_1 narrow_1), w.before #[Value.ref b] s = true) (a : Nat) (hr : vk_R "LateFallsModel" 193 "lying" a s) : xTs 5 a A s s.heap := by
  have ht : (Jvm.Term.string "LateFallsModel" 193).eval #[Value.ref b] s none [] s = some (.ref a) := hr.2
  refine xTs_of (f := fun j => [108, 121, 105, 110, 103].getD j 0) hA ht (by decide) (hs (.exactly (Jvm.Term.string "LateFallsModel" (193 : Nat)) "java/lang/String") (by decide +kernel)) (hs (.eq (.field (Jvm.Term.string "LateFallsModel" (193 : Nat)) "java/lang/String" "coder" "B") (.int 0)) (by decide +kernel)) (hs (.arrayOf (Jvm.Term.field (Jvm.Term.string "LateFallsModel" (193 : Nat)) "java/lang/String" "value" "[B") .byte) (by decide +kernel)) (hs (.eq (.length (Jvm.Term.field (Jvm.Term.string "LateFallsModel" (193 : Nat)) "java/lang/String" "value" "[B")) (.int 5)) (by decide +kernel)) (fun j hj => ?_)
  match j, hj with
  | 0, _ => exact hs (.eq (.elem (Jvm.Term.field (Jvm.Term.string "LateFallsModel" (193 : Nat)) "java/lang/String" "value" "[B") (.int 0)) (.int 108)) (by decide +kernel)
  | 1, _ => exact hs (.eq (.elem (Jvm.Term.field (Jvm.Term.string "LateFallsModel" (193 : Nat)) "java/lang/String" "value" "[B") (.int 1)) (.int 121)) (by decide +kernel)
  | 2, _ => exact hs (.eq (.elem (Jvm.Term.field (Jvm.Term.string "LateFallsModel" (193 : Nat)) "java/lang/String" "value" "[B") (.int 2)) (.int 105)) (by decide +kernel)
  | 3, _ => exact hs (.eq (.elem (Jvm.Term.field (Jvm.Term.string "LateFallsModel" (193 : Nat)) "java/lang/String" "value" "[B") (.int 3)) (.int 110)) (by decide +kernel)
  | 4, _ => exact hs (.eq (.elem (Jvm.Term.field (Jvm.Term.string "LateFallsModel" (193 : Nat)) "java/lang/String" "value" "[B") (.int 4)) (.int 103)) (by decide +kernel)
  | j + 5, hj => exact absurd hj (by omega)
set_option maxRecDepth 100000 in
theorem ls_tx15 {s : State} {b : Nat} {A : Nat → Prop} (hA : ∀ a : Nat, a < s.heap.size → ¬ A a) (hs : ∀ w ∈ flatC (Jvm.Cond.and given_1 narrow_1), w.before #[Value.ref b] s = true) (a : Nat) (hr : vk_R "LateFallsModel" 195 "wa" a s) : xTs 2 a A s s.heap := by
  have ht : (Jvm.Term.string "LateFallsModel" 195).eval #[Value.ref b] s none [] s = some (.ref a) := hr.2
  refine xTs_of (f := fun j => [119, 97].getD j 0) hA ht (by decide) (hs (.exactly (Jvm.Term.string "LateFallsModel" (195 : Nat)) "java/lang/String") (by decide +kernel)) (hs (.eq (.field (Jvm.Term.string "LateFallsModel" (195 : Nat)) "java/lang/String" "coder" "B") (.int 0)) (by decide +kernel)) (hs (.arrayOf (Jvm.Term.field (Jvm.Term.string "LateFallsModel" (195 : Nat)) "java/lang/String" "value" "[B") .byte) (by decide +kernel)) (hs (.eq (.length (Jvm.Term.field (Jvm.Term.string "LateFallsModel" (195 : Nat)) "java/lang/String" "value" "[B")) (.int 2)) (by decide +kernel)) (fun j hj => ?_)
  match j, hj with
  | 0, _ => exact hs (.eq (.elem (Jvm.Term.field (Jvm.Term.string "LateFallsModel" (195 : Nat)) "java/lang/String" "value" "[B") (.int 0)) (.int 119)) (by decide +kernel)
  | 1, _ => exact hs (.eq (.elem (Jvm.Term.field (Jvm.Term.string "LateFallsModel" (195 : Nat)) "java/lang/String" "value" "[B") (.int 1)) (.int 97)) (by decide +kernel)
  | j + 2, hj => exact absurd hj (by omega)
set_option maxRecDepth 100000 in
theorem ls_tx16 {s : State} {b : Nat} {A : Nat → Prop} (hA : ∀ a : Nat, a < s.heap.size → ¬ A a) (hs : ∀ w ∈ flatC (Jvm.Cond.and given_1 narrow_1), w.before #[Value.ref b] s = true) (a : Nat) (hr : vk_R "LateFallsModel" 197 "wb" a s) : xTs 2 a A s s.heap := by
  have ht : (Jvm.Term.string "LateFallsModel" 197).eval #[Value.ref b] s none [] s = some (.ref a) := hr.2
  refine xTs_of (f := fun j => [119, 98].getD j 0) hA ht (by decide) (hs (.exactly (Jvm.Term.string "LateFallsModel" (197 : Nat)) "java/lang/String") (by decide +kernel)) (hs (.eq (.field (Jvm.Term.string "LateFallsModel" (197 : Nat)) "java/lang/String" "coder" "B") (.int 0)) (by decide +kernel)) (hs (.arrayOf (Jvm.Term.field (Jvm.Term.string "LateFallsModel" (197 : Nat)) "java/lang/String" "value" "[B") .byte) (by decide +kernel)) (hs (.eq (.length (Jvm.Term.field (Jvm.Term.string "LateFallsModel" (197 : Nat)) "java/lang/String" "value" "[B")) (.int 2)) (by decide +kernel)) (fun j hj => ?_)
  match j, hj with
  | 0, _ => exact hs (.eq (.elem (Jvm.Term.field (Jvm.Term.string "LateFallsModel" (197 : Nat)) "java/lang/String" "value" "[B") (.int 0)) (.int 119)) (by decide +kernel)
  | 1, _ => exact hs (.eq (.elem (Jvm.Term.field (Jvm.Term.string "LateFallsModel" (197 : Nat)) "java/lang/String" "value" "[B") (.int 1)) (.int 98)) (by decide +kernel)
  | j + 2, hj => exact absurd hj (by omega)
set_option maxRecDepth 100000 in
theorem ls_tx17 {s : State} {b : Nat} {A : Nat → Prop} (hA : ∀ a : Nat, a < s.heap.size → ¬ A a) (hs : ∀ w ∈ flatC (Jvm.Cond.and given_1 narrow_1), w.before #[Value.ref b] s = true) (a : Nat) (hr : vk_R "LateFallsModel" 199 "la" a s) : xTs 2 a A s s.heap := by
  have ht : (Jvm.Term.string "LateFallsModel" 199).eval #[Value.ref b] s none [] s = some (.ref a) := hr.2
  refine xTs_of (f := fun j => [108, 97].getD j 0) hA ht (by decide) (hs (.exactly (Jvm.Term.string "LateFallsModel" (199 : Nat)) "java/lang/String") (by decide +kernel)) (hs (.eq (.field (Jvm.Term.string "LateFallsModel" (199 : Nat)) "java/lang/String" "coder" "B") (.int 0)) (by decide +kernel)) (hs (.arrayOf (Jvm.Term.field (Jvm.Term.string "LateFallsModel" (199 : Nat)) "java/lang/String" "value" "[B") .byte) (by decide +kernel)) (hs (.eq (.length (Jvm.Term.field (Jvm.Term.string "LateFallsModel" (199 : Nat)) "java/lang/String" "value" "[B")) (.int 2)) (by decide +kernel)) (fun j hj => ?_)
  match j, hj with
  | 0, _ => exact hs (.eq (.elem (Jvm.Term.field (Jvm.Term.string "LateFallsModel" (199 : Nat)) "java/lang/String" "value" "[B") (.int 0)) (.int 108)) (by decide +kernel)
  | 1, _ => exact hs (.eq (.elem (Jvm.Term.field (Jvm.Term.string "LateFallsModel" (199 : Nat)) "java/lang/String" "value" "[B") (.int 1)) (.int 97)) (by decide +kernel)
  | j + 2, hj => exact absurd hj (by omega)
set_option maxRecDepth 100000 in
theorem ls_tx18 {s : State} {b : Nat} {A : Nat → Prop} (hA : ∀ a : Nat, a < s.heap.size → ¬ A a) (hs : ∀ w ∈ flatC (Jvm.Cond.and given_1 narrow_1), w.before #[Value.ref b] s = true) (a : Nat) (hr : vk_R "LateFallsModel" 201 "lb" a s) : xTs 2 a A s s.heap := by
  have ht : (Jvm.Term.string "LateFallsModel" 201).eval #[Value.ref b] s none [] s = some (.ref a) := hr.2
  refine xTs_of (f := fun j => [108, 98].getD j 0) hA ht (by decide) (hs (.exactly (Jvm.Term.string "LateFallsModel" (201 : Nat)) "java/lang/String") (by decide +kernel)) (hs (.eq (.field (Jvm.Term.string "LateFallsModel" (201 : Nat)) "java/lang/String" "coder" "B") (.int 0)) (by decide +kernel)) (hs (.arrayOf (Jvm.Term.field (Jvm.Term.string "LateFallsModel" (201 : Nat)) "java/lang/String" "value" "[B") .byte) (by decide +kernel)) (hs (.eq (.length (Jvm.Term.field (Jvm.Term.string "LateFallsModel" (201 : Nat)) "java/lang/String" "value" "[B")) (.int 2)) (by decide +kernel)) (fun j hj => ?_)
  match j, hj with
  | 0, _ => exact hs (.eq (.elem (Jvm.Term.field (Jvm.Term.string "LateFallsModel" (201 : Nat)) "java/lang/String" "value" "[B") (.int 0)) (.int 108)) (by decide +kernel)
  | 1, _ => exact hs (.eq (.elem (Jvm.Term.field (Jvm.Term.string "LateFallsModel" (201 : Nat)) "java/lang/String" "value" "[B") (.int 1)) (.int 98)) (by decide +kernel)
  | j + 2, hj => exact absurd hj (by omega)
set_option maxRecDepth 100000 in
theorem ls_tx19 {s : State} {b : Nat} {A : Nat → Prop} (hA : ∀ a : Nat, a < s.heap.size → ¬ A a) (hs : ∀ w ∈ flatC (Jvm.Cond.and given_1 narrow_1), w.before #[Value.ref b] s = true) (a : Nat) (hr : vk_R "LateFallsModel" 264 "frees" a s) : xTs 5 a A s s.heap := by
  have ht : (Jvm.Term.string "LateFallsModel" 264).eval #[Value.ref b] s none [] s = some (.ref a) := hr.2
  refine xTs_of (f := fun j => [102, 114, 101, 101, 115].getD j 0) hA ht (by decide) (hs (.exactly (Jvm.Term.string "LateFallsModel" (264 : Nat)) "java/lang/String") (by decide +kernel)) (hs (.eq (.field (Jvm.Term.string "LateFallsModel" (264 : Nat)) "java/lang/String" "coder" "B") (.int 0)) (by decide +kernel)) (hs (.arrayOf (Jvm.Term.field (Jvm.Term.string "LateFallsModel" (264 : Nat)) "java/lang/String" "value" "[B") .byte) (by decide +kernel)) (hs (.eq (.length (Jvm.Term.field (Jvm.Term.string "LateFallsModel" (264 : Nat)) "java/lang/String" "value" "[B")) (.int 5)) (by decide +kernel)) (fun j hj => ?_)
  match j, hj with
  | 0, _ => exact hs (.eq (.elem (Jvm.Term.field (Jvm.Term.string "LateFallsModel" (264 : Nat)) "java/lang/String" "value" "[B") (.int 0)) (.int 102)) (by decide +kernel)
  | 1, _ => exact hs (.eq (.elem (Jvm.Term.field (Jvm.Term.string "LateFallsModel" (264 : Nat)) "java/lang/String" "value" "[B") (.int 1)) (.int 114)) (by decide +kernel)
  | 2, _ => exact hs (.eq (.elem (Jvm.Term.field (Jvm.Term.string "LateFallsModel" (264 : Nat)) "java/lang/String" "value" "[B") (.int 2)) (.int 101)) (by decide +kernel)
  | 3, _ => exact hs (.eq (.elem (Jvm.Term.field (Jvm.Term.string "LateFallsModel" (264 : Nat)) "java/lang/String" "value" "[B") (.int 3)) (.int 101)) (by decide +kernel)
  | 4, _ => exact hs (.eq (.elem (Jvm.Term.field (Jvm.Term.string "LateFallsModel" (264 : Nat)) "java/lang/String" "value" "[B") (.int 4)) (.int 115)) (by decide +kernel)
  | j + 5, hj => exact absurd hj (by omega)
set_option maxRecDepth 100000 in
theorem ls_tx20 {s : State} {b : Nat} {A : Nat → Prop} (hA : ∀ a : Nat, a < s.heap.size → ¬ A a) (hs : ∀ w ∈ flatC (Jvm.Cond.and given_1 narrow_1), w.before #[Value.ref b] s = true) (a : Nat) (hr : vk_R "LateFallsModel" 160 "not" a s) : xTs 3 a A s s.heap := by
  have ht : (Jvm.Term.string "LateFallsModel" 160).eval #[Value.ref b] s none [] s = some (.ref a) := hr.2
  refine xTs_of (f := fun j => [110, 111, 116].getD j 0) hA ht (by decide) (hs (.exactly (Jvm.Term.string "LateFallsModel" (160 : Nat)) "java/lang/String") (by decide +kernel)) (hs (.eq (.field (Jvm.Term.string "LateFallsModel" (160 : Nat)) "java/lang/String" "coder" "B") (.int 0)) (by decide +kernel)) (hs (.arrayOf (Jvm.Term.field (Jvm.Term.string "LateFallsModel" (160 : Nat)) "java/lang/String" "value" "[B") .byte) (by decide +kernel)) (hs (.eq (.length (Jvm.Term.field (Jvm.Term.string "LateFallsModel" (160 : Nat)) "java/lang/String" "value" "[B")) (.int 3)) (by decide +kernel)) (fun j hj => ?_)
  match j, hj with
  | 0, _ => exact hs (.eq (.elem (Jvm.Term.field (Jvm.Term.string "LateFallsModel" (160 : Nat)) "java/lang/String" "value" "[B") (.int 0)) (.int 110)) (by decide +kernel)
  | 1, _ => exact hs (.eq (.elem (Jvm.Term.field (Jvm.Term.string "LateFallsModel" (160 : Nat)) "java/lang/String" "value" "[B") (.int 1)) (.int 111)) (by decide +kernel)
  | 2, _ => exact hs (.eq (.elem (Jvm.Term.field (Jvm.Term.string "LateFallsModel" (160 : Nat)) "java/lang/String" "value" "[B") (.int 2)) (.int 116)) (by decide +kernel)
  | j + 3, hj => exact absurd hj (by omega)
set_option maxRecDepth 100000 in
theorem ls_tx21 {s : State} {b : Nat} {A : Nat → Prop} (hA : ∀ a : Nat, a < s.heap.size → ¬ A a) (hs : ∀ w ∈ flatC (Jvm.Cond.and given_1 narrow_1), w.before #[Value.ref b] s = true) (a : Nat) (hr : vk_R "LateFallsModel" 158 "and" a s) : xTs 3 a A s s.heap := by
  have ht : (Jvm.Term.string "LateFallsModel" 158).eval #[Value.ref b] s none [] s = some (.ref a) := hr.2
  refine xTs_of (f := fun j => [97, 110, 100].getD j 0) hA ht (by decide) (hs (.exactly (Jvm.Term.string "LateFallsModel" (158 : Nat)) "java/lang/String") (by decide +kernel)) (hs (.eq (.field (Jvm.Term.string "LateFallsModel" (158 : Nat)) "java/lang/String" "coder" "B") (.int 0)) (by decide +kernel)) (hs (.arrayOf (Jvm.Term.field (Jvm.Term.string "LateFallsModel" (158 : Nat)) "java/lang/String" "value" "[B") .byte) (by decide +kernel)) (hs (.eq (.length (Jvm.Term.field (Jvm.Term.string "LateFallsModel" (158 : Nat)) "java/lang/String" "value" "[B")) (.int 3)) (by decide +kernel)) (fun j hj => ?_)
  match j, hj with
  | 0, _ => exact hs (.eq (.elem (Jvm.Term.field (Jvm.Term.string "LateFallsModel" (158 : Nat)) "java/lang/String" "value" "[B") (.int 0)) (.int 97)) (by decide +kernel)
  | 1, _ => exact hs (.eq (.elem (Jvm.Term.field (Jvm.Term.string "LateFallsModel" (158 : Nat)) "java/lang/String" "value" "[B") (.int 1)) (.int 110)) (by decide +kernel)
  | 2, _ => exact hs (.eq (.elem (Jvm.Term.field (Jvm.Term.string "LateFallsModel" (158 : Nat)) "java/lang/String" "value" "[B") (.int 2)) (.int 100)) (by decide +kernel)
  | j + 3, hj => exact absurd hj (by omega)
set_option maxRecDepth 100000 in
theorem ls_tx22 {s : State} {b : Nat} {A : Nat → Prop} (hA : ∀ a : Nat, a < s.heap.size → ¬ A a) (hs : ∀ w ∈ flatC (Jvm.Cond.and given_1 narrow_1), w.before #[Value.ref b] s = true) (a : Nat) (hr : vk_R "LateFallsModel" 150 "or" a s) : xTs 2 a A s s.heap := by
  have ht : (Jvm.Term.string "LateFallsModel" 150).eval #[Value.ref b] s none [] s = some (.ref a) := hr.2
  refine xTs_of (f := fun j => [111, 114].getD j 0) hA ht (by decide) (hs (.exactly (Jvm.Term.string "LateFallsModel" (150 : Nat)) "java/lang/String") (by decide +kernel)) (hs (.eq (.field (Jvm.Term.string "LateFallsModel" (150 : Nat)) "java/lang/String" "coder" "B") (.int 0)) (by decide +kernel)) (hs (.arrayOf (Jvm.Term.field (Jvm.Term.string "LateFallsModel" (150 : Nat)) "java/lang/String" "value" "[B") .byte) (by decide +kernel)) (hs (.eq (.length (Jvm.Term.field (Jvm.Term.string "LateFallsModel" (150 : Nat)) "java/lang/String" "value" "[B")) (.int 2)) (by decide +kernel)) (fun j hj => ?_)
  match j, hj with
  | 0, _ => exact hs (.eq (.elem (Jvm.Term.field (Jvm.Term.string "LateFallsModel" (150 : Nat)) "java/lang/String" "value" "[B") (.int 0)) (.int 111)) (by decide +kernel)
  | 1, _ => exact hs (.eq (.elem (Jvm.Term.field (Jvm.Term.string "LateFallsModel" (150 : Nat)) "java/lang/String" "value" "[B") (.int 1)) (.int 114)) (by decide +kernel)
  | j + 2, hj => exact absurd hj (by omega)
theorem ls_xT {s : State} {b : Nat} (hts : ∀ w ∈ lw_tbl, w.before #[Value.ref b] s = true) (hgv : (Jvm.Cond.and given_1 narrow_1).before #[Value.ref b] s = true) : xT (fun q : Nat => s.heap.size ≤ q) s s.heap := by
  have hs := flat_of_before _ hgv
  have hA : ∀ a : Nat, a < s.heap.size → ¬ (fun q : Nat => s.heap.size ≤ q) a := fun a h => Nat.not_le.mpr h
  have hx := ls_xS hts
  refine ⟨va_Zof (hts (.laysStatic "java/lang/String" "COMPACT_STRINGS" "Z") (tb_of 632 rfl)) (hts (.initialized "java/lang/String") (tb_of 15 rfl)) (eq_ev (hs (.eq (.static "java/lang/String" "COMPACT_STRINGS" "Z") (.int 1)) (by decide +kernel))) hA, ?_, va_Zqof (hts (.laysStatic "jdk/internal/util/Preconditions" "SIOOBE_FORMATTER" "Ljava/util/function/BiFunction;") (tb_of 648 rfl)) (hts (.initialized "jdk/internal/util/Preconditions") (tb_of 17 rfl)) (hs (.isRef (.static "jdk/internal/util/Preconditions" "SIOOBE_FORMATTER" "Ljava/util/function/BiFunction;")) (by decide +kernel)) hA⟩
  exact fl_c (P := fun q : String × Nat × String × Nat => ∃ a : Nat, vk_R q.1 q.2.1 q.2.2.1 a s ∧ xTs q.2.2.2 a (fun q : Nat => s.heap.size ≤ q) s s.heap) ((hx ("LateFalls$Tokens", 58, "fall thing walker hangs frees hour held up for on not and or weight column level lying wa wb la lb ") (by decide +kernel)).elim (fun a ha => ⟨a, ha, ls_tx0 hA hs a ha⟩)) (fl_c (P := fun q : String × Nat × String × Nat => ∃ a : Nat, vk_R q.1 q.2.1 q.2.2.1 a s ∧ xTs q.2.2.2 a (fun q : Nat => s.heap.size ≤ q) s s.heap) ((hx ("LateFalls$Tokens", 37, ";:+-*()[]=<>") (by decide +kernel)).elim (fun a ha => ⟨a, ha, ls_tx1 hA hs a ha⟩)) (fl_c (P := fun q : String × Nat × String × Nat => ∃ a : Nat, vk_R q.1 q.2.1 q.2.2.1 a s ∧ xTs q.2.2.2 a (fun q : Nat => s.heap.size ≤ q) s s.heap) ((hx ("LateFallsModel", 272, "fall") (by decide +kernel)).elim (fun a ha => ⟨a, ha, ls_tx2 hA hs a ha⟩)) (fl_c (P := fun q : String × Nat × String × Nat => ∃ a : Nat, vk_R q.1 q.2.1 q.2.2.1 a s ∧ xTs q.2.2.2 a (fun q : Nat => s.heap.size ≤ q) s s.heap) ((hx ("LateFallsModel", 248, "thing") (by decide +kernel)).elim (fun a ha => ⟨a, ha, ls_tx3 hA hs a ha⟩)) (fl_c (P := fun q : String × Nat × String × Nat => ∃ a : Nat, vk_R q.1 q.2.1 q.2.2.1 a s ∧ xTs q.2.2.2 a (fun q : Nat => s.heap.size ≤ q) s s.heap) ((hx ("LateFallsModel", 183, "held") (by decide +kernel)).elim (fun a ha => ⟨a, ha, ls_tx4 hA hs a ha⟩)) (fl_c (P := fun q : String × Nat × String × Nat => ∃ a : Nat, vk_R q.1 q.2.1 q.2.2.1 a s ∧ xTs q.2.2.2 a (fun q : Nat => s.heap.size ≤ q) s s.heap) ((hx ("LateFallsModel", 238, "up") (by decide +kernel)).elim (fun a ha => ⟨a, ha, ls_tx5 hA hs a ha⟩)) (fl_c (P := fun q : String × Nat × String × Nat => ∃ a : Nat, vk_R q.1 q.2.1 q.2.2.1 a s ∧ xTs q.2.2.2 a (fun q : Nat => s.heap.size ≤ q) s s.heap) ((hx ("LateFallsModel", 220, "for") (by decide +kernel)).elim (fun a ha => ⟨a, ha, ls_tx6 hA hs a ha⟩)) (fl_c (P := fun q : String × Nat × String × Nat => ∃ a : Nat, vk_R q.1 q.2.1 q.2.2.1 a s ∧ xTs q.2.2.2 a (fun q : Nat => s.heap.size ≤ q) s s.heap) ((hx ("LateFallsModel", 243, "on") (by decide +kernel)).elim (fun a ha => ⟨a, ha, ls_tx7 hA hs a ha⟩)) (fl_c (P := fun q : String × Nat × String × Nat => ∃ a : Nat, vk_R q.1 q.2.1 q.2.2.1 a s ∧ xTs q.2.2.2 a (fun q : Nat => s.heap.size ≤ q) s s.heap) ((hx ("LateFallsModel", 253, "walker") (by decide +kernel)).elim (fun a ha => ⟨a, ha, ls_tx8 hA hs a ha⟩)) (fl_c (P := fun q : String × Nat × String × Nat => ∃ a : Nat, vk_R q.1 q.2.1 q.2.2.1 a s ∧ xTs q.2.2.2 a (fun q : Nat => s.heap.size ≤ q) s s.heap) ((hx ("LateFallsModel", 191, "hour") (by decide +kernel)).elim (fun a ha => ⟨a, ha, ls_tx9 hA hs a ha⟩)) (fl_c (P := fun q : String × Nat × String × Nat => ∃ a : Nat, vk_R q.1 q.2.1 q.2.2.1 a s ∧ xTs q.2.2.2 a (fun q : Nat => s.heap.size ≤ q) s s.heap) ((hx ("LateFallsModel", 258, "hangs") (by decide +kernel)).elim (fun a ha => ⟨a, ha, ls_tx10 hA hs a ha⟩)) (fl_c (P := fun q : String × Nat × String × Nat => ∃ a : Nat, vk_R q.1 q.2.1 q.2.2.1 a s ∧ xTs q.2.2.2 a (fun q : Nat => s.heap.size ≤ q) s s.heap) ((hx ("LateFallsModel", 185, "weight") (by decide +kernel)).elim (fun a ha => ⟨a, ha, ls_tx11 hA hs a ha⟩)) (fl_c (P := fun q : String × Nat × String × Nat => ∃ a : Nat, vk_R q.1 q.2.1 q.2.2.1 a s ∧ xTs q.2.2.2 a (fun q : Nat => s.heap.size ≤ q) s s.heap) ((hx ("LateFallsModel", 187, "column") (by decide +kernel)).elim (fun a ha => ⟨a, ha, ls_tx12 hA hs a ha⟩)) (fl_c (P := fun q : String × Nat × String × Nat => ∃ a : Nat, vk_R q.1 q.2.1 q.2.2.1 a s ∧ xTs q.2.2.2 a (fun q : Nat => s.heap.size ≤ q) s s.heap) ((hx ("LateFallsModel", 189, "level") (by decide +kernel)).elim (fun a ha => ⟨a, ha, ls_tx13 hA hs a ha⟩)) (fl_c (P := fun q : String × Nat × String × Nat => ∃ a : Nat, vk_R q.1 q.2.1 q.2.2.1 a s ∧ xTs q.2.2.2 a (fun q : Nat => s.heap.size ≤ q) s s.heap) ((hx ("LateFallsModel", 193, "lying") (by decide +kernel)).elim (fun a ha => ⟨a, ha, ls_tx14 hA hs a ha⟩)) (fl_c (P := fun q : String × Nat × String × Nat => ∃ a : Nat, vk_R q.1 q.2.1 q.2.2.1 a s ∧ xTs q.2.2.2 a (fun q : Nat => s.heap.size ≤ q) s s.heap) ((hx ("LateFallsModel", 195, "wa") (by decide +kernel)).elim (fun a ha => ⟨a, ha, ls_tx15 hA hs a ha⟩)) (fl_c (P := fun q : String × Nat × String × Nat => ∃ a : Nat, vk_R q.1 q.2.1 q.2.2.1 a s ∧ xTs q.2.2.2 a (fun q : Nat => s.heap.size ≤ q) s s.heap) ((hx ("LateFallsModel", 197, "wb") (by decide +kernel)).elim (fun a ha => ⟨a, ha, ls_tx16 hA hs a ha⟩)) (fl_c (P := fun q : String × Nat × String × Nat => ∃ a : Nat, vk_R q.1 q.2.1 q.2.2.1 a s ∧ xTs q.2.2.2 a (fun q : Nat => s.heap.size ≤ q) s s.heap) ((hx ("LateFallsModel", 199, "la") (by decide +kernel)).elim (fun a ha => ⟨a, ha, ls_tx17 hA hs a ha⟩)) (fl_c (P := fun q : String × Nat × String × Nat => ∃ a : Nat, vk_R q.1 q.2.1 q.2.2.1 a s ∧ xTs q.2.2.2 a (fun q : Nat => s.heap.size ≤ q) s s.heap) ((hx ("LateFallsModel", 201, "lb") (by decide +kernel)).elim (fun a ha => ⟨a, ha, ls_tx18 hA hs a ha⟩)) (fl_c (P := fun q : String × Nat × String × Nat => ∃ a : Nat, vk_R q.1 q.2.1 q.2.2.1 a s ∧ xTs q.2.2.2 a (fun q : Nat => s.heap.size ≤ q) s s.heap) ((hx ("LateFallsModel", 264, "frees") (by decide +kernel)).elim (fun a ha => ⟨a, ha, ls_tx19 hA hs a ha⟩)) (fl_c (P := fun q : String × Nat × String × Nat => ∃ a : Nat, vk_R q.1 q.2.1 q.2.2.1 a s ∧ xTs q.2.2.2 a (fun q : Nat => s.heap.size ≤ q) s s.heap) ((hx ("LateFallsModel", 160, "not") (by decide +kernel)).elim (fun a ha => ⟨a, ha, ls_tx20 hA hs a ha⟩)) (fl_c (P := fun q : String × Nat × String × Nat => ∃ a : Nat, vk_R q.1 q.2.1 q.2.2.1 a s ∧ xTs q.2.2.2 a (fun q : Nat => s.heap.size ≤ q) s s.heap) ((hx ("LateFallsModel", 158, "and") (by decide +kernel)).elim (fun a ha => ⟨a, ha, ls_tx21 hA hs a ha⟩)) (fl_c (P := fun q : String × Nat × String × Nat => ∃ a : Nat, vk_R q.1 q.2.1 q.2.2.1 a s ∧ xTs q.2.2.2 a (fun q : Nat => s.heap.size ≤ q) s s.heap) ((hx ("LateFallsModel", 150, "or") (by decide +kernel)).elim (fun a ha => ⟨a, ha, ls_tx22 hA hs a ha⟩)) (fl_n)))))))))))))))))))))))
set_option maxRecDepth 100000 in
theorem ls_start {s : State} {b : Nat} (hts : ∀ w ∈ lw_tbl, w.before #[Value.ref b] s = true) (hgv : (Jvm.Cond.and given_1 narrow_1).before #[Value.ref b] s = true) : ∃ (D : va_G) (cy : Nat → ClassId), Ew D cy (fun q : Nat => s.heap.size ≤ q) s := by
  have hs := flat_of_before _ hgv
  obtain ⟨D, hD⟩ := ls_Dx hts
  obtain ⟨c0, a0, r0⟩ := ls_pa (ty := .int) (hts _ (tb_of 63 rfl))
  obtain ⟨c1, a1, r1⟩ := ls_pa (ty := .byte) (hts _ (tb_of 62 rfl))
  obtain ⟨c2, a2, r2⟩ := ls_pa (ty := .long) (hts _ (tb_of 64 rfl))
  obtain ⟨c3, a3, r3⟩ := ls_pa (ty := .boolean) (hts _ (tb_of 1472 rfl))
  obtain ⟨c4, a4, r4⟩ := ls_qa (C := RX6) (va_AO.of (hts _ (tb_of 246 rfl)))
  obtain ⟨c5, a5, r5⟩ := ls_qa (C := RX8) (va_AO.of (hts _ (tb_of 66 rfl)))
  obtain ⟨c6, a6, r6⟩ := ls_qa (C := RX3) (va_AO.of (hts _ (tb_of 68 rfl)))
  have hz1 : vx_Zq Bundle.tN "UNASSIGNED_STACK" Bundle.steD (fun q : Nat => s.heap.size ≤ q) s s.heap := ls_Z (hts (.laysStatic Bundle.tN "UNASSIGNED_STACK" Bundle.steD) (tb_of 558 rfl)) (hts (.initialized Bundle.tN) (tb_of 11 rfl)) (hs (.isRef (.static Bundle.tN "UNASSIGNED_STACK" Bundle.steD)) (by decide +kernel)) (fun a h => Nat.not_le.mpr h)
  have hz2 : vx_Zq Bundle.tN "SUPPRESSED_SENTINEL" Bundle.listD (fun q : Nat => s.heap.size ≤ q) s s.heap := ls_Z (hts (.laysStatic Bundle.tN "SUPPRESSED_SENTINEL" Bundle.listD) (tb_of 560 rfl)) (hts (.initialized Bundle.tN) (tb_of 11 rfl)) (hs (.isRef (.static Bundle.tN "SUPPRESSED_SENTINEL" Bundle.listD)) (by decide +kernel)) (fun a h => Nat.not_le.mpr h)
  refine ⟨D, fun k => [c0, c1, c2, c3, c4, c5, c6].getD k c0, ⟨hD, fun k q hq => ?_⟩, fun q h => h, ⟨hz1, hz2, ls_xT hts hgv⟩, fun w hw => va_Nw.of (xE_on (xEW_k w hw)) (hts w (xEW_t w hw)), ls_xS hts, ls_xN hgv, ls_xA hts⟩
  match k, hq with
  | 0, hq => cases hq; exact ⟨a0, r0⟩
  | 1, hq => cases hq; exact ⟨a1, r1⟩
  | 2, hq => cases hq; exact ⟨a2, r2⟩
  | 3, hq => cases hq; exact ⟨a3, r3⟩
  | 4, hq => cases hq; exact ⟨a4, r4⟩
  | 5, hq => cases hq; exact ⟨a5, r5⟩
  | 6, hq => cases hq; exact ⟨a6, r6⟩
  | k + 7, hq => simp at hq
