def wA : List Cond := lw_tbl.filter goodWord
theorem wA_of {w : Cond} (i : Nat) (h : tables_1[i]? = some w) (h2 : goodWord w = true) : w ∈ wA := List.mem_filter.mpr ⟨List.mem_append_right _ (List.mem_of_getElem? h), h2⟩
theorem wA_ofP {w : Cond} (i : Nat) (h : (k2_sels lw_privs)[i]? = some w) (h2 : goodWord w = true) : w ∈ wA := List.mem_filter.mpr ⟨List.mem_append_left _ (List.mem_of_getElem? h), h2⟩
theorem wA_of_1 {w : Cond} (i : Nat) (h : tables_1_1[i]? = some w) (h2 : goodWord w = true) : w ∈ wA := by
  have h : w ∈ tables_1_1 := List.mem_of_getElem? h
  have h3 : w ∈ tables_1 := List.mem_append_left _ h
  exact List.mem_filter.mpr ⟨List.mem_append_right _ h3, h2⟩
theorem wA_of_2 {w : Cond} (i : Nat) (h : tables_1_2[i]? = some w) (h2 : goodWord w = true) : w ∈ wA := by
  have h : w ∈ tables_1_2 := List.mem_of_getElem? h
  have h3 : w ∈ tables_1 := List.mem_append_right _ (List.mem_append_left _ h)
  exact List.mem_filter.mpr ⟨List.mem_append_right _ h3, h2⟩
theorem wA_of_3 {w : Cond} (i : Nat) (h : tables_1_3[i]? = some w) (h2 : goodWord w = true) : w ∈ wA := by
  have h : w ∈ tables_1_3 := List.mem_of_getElem? h
  have h3 : w ∈ tables_1 := List.mem_append_right _ (List.mem_append_right _ (List.mem_append_left _ h))
  exact List.mem_filter.mpr ⟨List.mem_append_right _ h3, h2⟩
theorem wA_of_4 {w : Cond} (i : Nat) (h : tables_1_4[i]? = some w) (h2 : goodWord w = true) : w ∈ wA := by
  have h : w ∈ tables_1_4 := List.mem_of_getElem? h
  have h3 : w ∈ tables_1 := List.mem_append_right _ (List.mem_append_right _ (List.mem_append_right _ (List.mem_append_left _ h)))
  exact List.mem_filter.mpr ⟨List.mem_append_right _ h3, h2⟩
theorem wA_of_5 {w : Cond} (i : Nat) (h : tables_1_5[i]? = some w) (h2 : goodWord w = true) : w ∈ wA := by
  have h : w ∈ tables_1_5 := List.mem_of_getElem? h
  have h3 : w ∈ tables_1 := List.mem_append_right _ (List.mem_append_right _ (List.mem_append_right _ (List.mem_append_right _ (List.mem_append_left _ h))))
  exact List.mem_filter.mpr ⟨List.mem_append_right _ h3, h2⟩
theorem wA_of_6 {w : Cond} (i : Nat) (h : tables_1_6[i]? = some w) (h2 : goodWord w = true) : w ∈ wA := by
  have h : w ∈ tables_1_6 := List.mem_of_getElem? h
  have h3 : w ∈ tables_1 := List.mem_append_right _ (List.mem_append_right _ (List.mem_append_right _ (List.mem_append_right _ (List.mem_append_right _ (List.mem_append_left _ h)))))
  exact List.mem_filter.mpr ⟨List.mem_append_right _ h3, h2⟩
theorem wA_of_7 {w : Cond} (i : Nat) (h : tables_1_7[i]? = some w) (h2 : goodWord w = true) : w ∈ wA := by
  have h : w ∈ tables_1_7 := List.mem_of_getElem? h
  have h3 : w ∈ tables_1 := List.mem_append_right _ (List.mem_append_right _ (List.mem_append_right _ (List.mem_append_right _ (List.mem_append_right _ (List.mem_append_right _ (List.mem_append_left _ h))))))
  exact List.mem_filter.mpr ⟨List.mem_append_right _ h3, h2⟩
theorem wA_of_8 {w : Cond} (i : Nat) (h : tables_1_8[i]? = some w) (h2 : goodWord w = true) : w ∈ wA := by
  have h : w ∈ tables_1_8 := List.mem_of_getElem? h
  have h3 : w ∈ tables_1 := List.mem_append_right _ (List.mem_append_right _ (List.mem_append_right _ (List.mem_append_right _ (List.mem_append_right _ (List.mem_append_right _ (List.mem_append_right _ (List.mem_append_left _ h)))))))
  exact List.mem_filter.mpr ⟨List.mem_append_right _ h3, h2⟩
theorem wA_of_9 {w : Cond} (i : Nat) (h : tables_1_9[i]? = some w) (h2 : goodWord w = true) : w ∈ wA := by
  have h : w ∈ tables_1_9 := List.mem_of_getElem? h
  have h3 : w ∈ tables_1 := List.mem_append_right _ (List.mem_append_right _ (List.mem_append_right _ (List.mem_append_right _ (List.mem_append_right _ (List.mem_append_right _ (List.mem_append_right _ (List.mem_append_right _ (h))))))))
  exact List.mem_filter.mpr ⟨List.mem_append_right _ h3, h2⟩
set_option maxRecDepth 100000 in
theorem wd_0 : (Jvm.Cond.initialized "LateFallsLaw") ∈ wA := wA_of_1 0 rfl rfl
set_option maxRecDepth 100000 in
theorem wd_1 : (Jvm.Cond.initialized "LateFalls") ∈ wA := wA_of_1 1 rfl rfl
set_option maxRecDepth 100000 in
theorem wd_2 : (Jvm.Cond.initialized "LateFalls$Ways") ∈ wA := wA_of_1 2 rfl rfl
set_option maxRecDepth 100000 in
theorem wd_3 : (Jvm.Cond.initialized "LateFalls$District") ∈ wA := wA_of_1 3 rfl rfl
set_option maxRecDepth 100000 in
theorem wd_4 : (Jvm.Cond.initialized "LateFalls$Reader") ∈ wA := wA_of_1 4 rfl rfl
set_option maxRecDepth 100000 in
theorem wd_5 : (Jvm.Cond.initialized "LateFalls$Tokens") ∈ wA := wA_of_1 5 rfl rfl
set_option maxRecDepth 100000 in
theorem wd_6 : (Jvm.Cond.initialized "LateFalls$Scene") ∈ wA := wA_of_1 6 rfl rfl
set_option maxRecDepth 100000 in
theorem wd_7 : (Jvm.Cond.initialized "LateFalls$History") ∈ wA := wA_of_1 7 rfl rfl
set_option maxRecDepth 100000 in
theorem wd_8 : (Jvm.Cond.initialized "LateFalls$Forecast") ∈ wA := wA_of_1 8 rfl rfl
set_option maxRecDepth 100000 in
theorem wd_9 : (Jvm.Cond.initialized "LateFalls$Tray") ∈ wA := wA_of_1 9 rfl rfl
set_option maxRecDepth 100000 in
theorem wd_10 : (Jvm.Cond.initialized "LateFallsModel") ∈ wA := wA_of_1 10 rfl rfl
set_option maxRecDepth 100000 in
theorem wd_11 : (Jvm.Cond.initialized "java/lang/Throwable") ∈ wA := wA_of_1 11 rfl rfl
set_option maxRecDepth 100000 in
theorem wd_12 : (Jvm.Cond.initialized "java/lang/Exception") ∈ wA := wA_of_1 12 rfl rfl
set_option maxRecDepth 100000 in
theorem wd_13 : (Jvm.Cond.initialized "java/lang/RuntimeException") ∈ wA := wA_of_1 13 rfl rfl
set_option maxRecDepth 100000 in
theorem wd_14 : (Jvm.Cond.initialized "java/lang/IllegalArgumentException") ∈ wA := wA_of_1 14 rfl rfl
set_option maxRecDepth 100000 in
theorem wd_15 : (Jvm.Cond.initialized "java/lang/String") ∈ wA := wA_of_1 15 rfl rfl
set_option maxRecDepth 100000 in
theorem wd_16 : (Jvm.Cond.initialized "java/lang/StringLatin1") ∈ wA := wA_of_1 16 rfl rfl
set_option maxRecDepth 100000 in
theorem wd_17 : (Jvm.Cond.initialized "jdk/internal/util/Preconditions") ∈ wA := wA_of_1 17 rfl rfl
set_option maxRecDepth 100000 in
theorem wd_18 : (Jvm.Cond.initialized "java/lang/StringUTF16") ∈ wA := wA_of_1 18 rfl rfl
set_option maxRecDepth 100000 in
theorem wd_19 : (Jvm.Cond.initialized "java/lang/Math") ∈ wA := wA_of_1 19 rfl rfl
set_option maxRecDepth 100000 in
theorem wd_20 : (Jvm.Cond.initialized "java/lang/Character") ∈ wA := wA_of_1 20 rfl rfl
set_option maxRecDepth 100000 in
theorem wd_21 : (Jvm.Cond.initialized "LateFalls$Law") ∈ wA := wA_of_1 21 rfl rfl
set_option maxRecDepth 100000 in
theorem wd_22 : (Jvm.Cond.initialized "java/lang/System") ∈ wA := wA_of_1 22 rfl rfl
set_option maxRecDepth 100000 in
theorem wd_23 : (Jvm.Cond.initialized "java/util/NoSuchElementException") ∈ wA := wA_of_1 23 rfl rfl
set_option maxRecDepth 100000 in
theorem wd_24 : (Jvm.Cond.initialized "java/lang/Integer") ∈ wA := wA_of_1 24 rfl rfl
set_option maxRecDepth 100000 in
theorem wd_25 : (Jvm.Cond.initialized "java/lang/IllegalStateException") ∈ wA := wA_of_1 25 rfl rfl
set_option maxRecDepth 100000 in
theorem wd_26 : (Jvm.Cond.initialized "java/lang/IndexOutOfBoundsException") ∈ wA := wA_of_1 26 rfl rfl
set_option maxRecDepth 100000 in
theorem wd_27 : (Jvm.Cond.initialized "LateFalls$Image") ∈ wA := wA_of_1 27 rfl rfl
set_option maxRecDepth 100000 in
theorem wd_28 : (Jvm.Cond.classLink "LateFallsLaw" (8 : Nat) "LateFalls") ∈ wA := wA_of_1 28 rfl rfl
set_option maxRecDepth 100000 in
theorem wd_29 : (Jvm.Cond.instantiable "LateFalls" (13 : Nat)) ∈ wA := wA_of_1 29 rfl rfl
set_option maxRecDepth 100000 in
theorem wd_30 : (Jvm.Cond.methodLink "LateFallsLaw" (141 : Nat) ({ cls := "LateFalls", name := "<init>", desc := "()V" } : Jvm.MethodName)) ∈ wA := wA_of_1 30 rfl rfl
set_option maxRecDepth 100000 in
theorem wd_31 : (Jvm.Cond.instanceMethod ({ cls := "LateFalls", name := "<init>", desc := "()V" } : Jvm.MethodName)) ∈ wA := wA_of_1 31 rfl rfl
set_option maxRecDepth 100000 in
theorem wd_32 : (Jvm.Cond.code ({ cls := "LateFalls", name := "<init>", desc := "()V" } : Jvm.MethodName) prog_1_method_1_code (3 : Nat) (Option.none : Option Jvm.ClassFile.FieldType)) ∈ wA := wA_of_1 32 rfl rfl
set_option maxRecDepth 100000 in
theorem wd_33 : (Jvm.Cond.methodLink "LateFalls" (3 : Nat) ({ cls := "java/lang/Object", name := "<init>", desc := "()V" } : Jvm.MethodName)) ∈ wA := wA_of_1 33 rfl rfl
set_option maxRecDepth 100000 in
theorem wd_34 : (Jvm.Cond.instanceMethod ({ cls := "java/lang/Object", name := "<init>", desc := "()V" } : Jvm.MethodName)) ∈ wA := wA_of_1 34 rfl rfl
set_option maxRecDepth 100000 in
theorem wd_35 : (Jvm.Cond.code ({ cls := "java/lang/Object", name := "<init>", desc := "()V" } : Jvm.MethodName) object_method_1_code (1 : Nat) (Option.none : Option Jvm.ClassFile.FieldType)) ∈ wA := wA_of_1 35 rfl rfl
set_option maxRecDepth 100000 in
theorem wd_36 : (Jvm.Cond.classLink "LateFalls" (19 : Nat) "LateFalls$Ways") ∈ wA := wA_of_1 36 rfl rfl
set_option maxRecDepth 100000 in
theorem wd_37 : (Jvm.Cond.instantiable "LateFalls$Ways" (6 : Nat)) ∈ wA := wA_of_1 37 rfl rfl
set_option maxRecDepth 100000 in
theorem wd_39 : (Jvm.Cond.instanceMethod ({ cls := "LateFalls$Ways", name := "<init>", desc := "()V" } : Jvm.MethodName)) ∈ wA := wA_of_1 39 rfl rfl
set_option maxRecDepth 100000 in
theorem wd_40 : (Jvm.Cond.code ({ cls := "LateFalls$Ways", name := "<init>", desc := "()V" } : Jvm.MethodName) prog_11_method_1_code (1 : Nat) (Option.none : Option Jvm.ClassFile.FieldType)) ∈ wA := wA_of_1 40 rfl rfl
set_option maxRecDepth 100000 in
theorem wd_41 : (Jvm.Cond.methodLink "LateFalls$Ways" (3 : Nat) ({ cls := "java/lang/Object", name := "<init>", desc := "()V" } : Jvm.MethodName)) ∈ wA := wA_of_1 41 rfl rfl
set_option maxRecDepth 100000 in
theorem wd_42 : (Jvm.Cond.fieldLink "LateFalls$Ways" (46 : Nat) "LateFalls$Ways" "all" "I") ∈ wA := wA_of_1 42 rfl rfl
set_option maxRecDepth 100000 in
theorem wd_43 : (Jvm.Cond.fieldLink "LateFalls$Ways" (9 : Nat) "LateFalls$Ways" "danger" "[I") ∈ wA := wA_of_1 43 rfl rfl
set_option maxRecDepth 100000 in
theorem wd_44 : (Jvm.Cond.fieldLink "LateFalls$Ways" (15 : Nat) "LateFalls$Ways" "reached" "[I") ∈ wA := wA_of_1 44 rfl rfl
set_option maxRecDepth 100000 in
theorem wd_45 : (Jvm.Cond.fieldLink "LateFalls" (360 : Nat) "LateFalls$Ways" "reached" "[I") ∈ wA := wA_of_1 45 rfl rfl
set_option maxRecDepth 100000 in
theorem wd_46 : (Jvm.Cond.fieldLink "LateFalls$Ways" (18 : Nat) "LateFalls$Ways" "leading" "[I") ∈ wA := wA_of_1 46 rfl rfl
set_option maxRecDepth 100000 in
theorem wd_47 : (Jvm.Cond.fieldLink "LateFalls$Ways" (21 : Nat) "LateFalls$Ways" "many" "[J") ∈ wA := wA_of_1 47 rfl rfl
set_option maxRecDepth 100000 in
theorem wd_48 : (Jvm.Cond.fieldLink "LateFalls$Ways" (25 : Nat) "LateFalls$Ways" "before" "[J") ∈ wA := wA_of_1 48 rfl rfl
set_option maxRecDepth 100000 in
theorem wd_49 : (Jvm.Cond.lays "LateFalls$Ways" "LateFalls$Ways" "all" "I") ∈ wA := wA_of_1 49 rfl rfl
set_option maxRecDepth 100000 in
theorem wd_51 : (Jvm.Cond.laysFinal "LateFalls$Ways" "LateFalls$Ways" "danger" "[I") ∈ wA := wA_of_1 51 rfl rfl
set_option maxRecDepth 100000 in
theorem wd_53 : (Jvm.Cond.laysFinal "LateFalls$Ways" "LateFalls$Ways" "reached" "[I") ∈ wA := wA_of_1 53 rfl rfl
set_option maxRecDepth 100000 in
theorem wd_55 : (Jvm.Cond.laysFinal "LateFalls$Ways" "LateFalls$Ways" "leading" "[I") ∈ wA := wA_of_1 55 rfl rfl
set_option maxRecDepth 100000 in
theorem wd_57 : (Jvm.Cond.laysFinal "LateFalls$Ways" "LateFalls$Ways" "many" "[J") ∈ wA := wA_of_1 57 rfl rfl
set_option maxRecDepth 100000 in
theorem wd_59 : (Jvm.Cond.laysFinal "LateFalls$Ways" "LateFalls$Ways" "before" "[J") ∈ wA := wA_of_1 59 rfl rfl
set_option maxRecDepth 100000 in
theorem wd_62 : (Jvm.Cond.arrayClass Jvm.ClassFile.FieldType.byte) ∈ wA := wA_of_1 62 rfl rfl
set_option maxRecDepth 100000 in
theorem wd_63 : (Jvm.Cond.arrayClass Jvm.ClassFile.FieldType.int) ∈ wA := wA_of_1 63 rfl rfl
set_option maxRecDepth 100000 in
theorem wd_64 : (Jvm.Cond.arrayClass Jvm.ClassFile.FieldType.long) ∈ wA := wA_of_1 64 rfl rfl
set_option maxRecDepth 100000 in
theorem wd_65 : (Jvm.Cond.classLink "LateFalls" (30 : Nat) "LateFalls$Tray") ∈ wA := wA_of_1 65 rfl rfl
set_option maxRecDepth 100000 in
theorem wd_67 : (Jvm.Cond.classLink "LateFalls" (36 : Nat) "LateFalls$Image") ∈ wA := wA_of_1 67 rfl rfl
set_option maxRecDepth 100000 in
theorem wd_69 : (Jvm.Cond.classLink "LateFalls" (42 : Nat) "LateFalls$District") ∈ wA := wA_of_1 69 rfl rfl
set_option maxRecDepth 100000 in
theorem wd_70 : (Jvm.Cond.instantiable "LateFalls$District" (10 : Nat)) ∈ wA := wA_of_1 70 rfl rfl
set_option maxRecDepth 100000 in
theorem wd_72 : (Jvm.Cond.instanceMethod ({ cls := "LateFalls$District", name := "<init>", desc := "()V" } : Jvm.MethodName)) ∈ wA := wA_of_1 72 rfl rfl
set_option maxRecDepth 100000 in
theorem wd_73 : (Jvm.Cond.code ({ cls := "LateFalls$District", name := "<init>", desc := "()V" } : Jvm.MethodName) prog_2_method_1_code (1 : Nat) (Option.none : Option Jvm.ClassFile.FieldType)) ∈ wA := wA_of_1 73 rfl rfl
set_option maxRecDepth 100000 in
theorem wd_74 : (Jvm.Cond.methodLink "LateFalls$District" (3 : Nat) ({ cls := "java/lang/Object", name := "<init>", desc := "()V" } : Jvm.MethodName)) ∈ wA := wA_of_1 74 rfl rfl
set_option maxRecDepth 100000 in
theorem wd_75 : (Jvm.Cond.fieldLink "LateFalls" (117 : Nat) "LateFalls$District" "lines" "I") ∈ wA := wA_of_1 75 rfl rfl
set_option maxRecDepth 100000 in
theorem wd_76 : (Jvm.Cond.fieldLink "LateFalls$Reader" (102 : Nat) "LateFalls$District" "lines" "I") ∈ wA := wA_of_1 76 rfl rfl
set_option maxRecDepth 100000 in
theorem wd_77 : (Jvm.Cond.fieldLink "LateFalls$District" (9 : Nat) "LateFalls$District" "columns" "I") ∈ wA := wA_of_1 77 rfl rfl
set_option maxRecDepth 100000 in
theorem wd_78 : (Jvm.Cond.fieldLink "LateFalls$Ways" (40 : Nat) "LateFalls$District" "columns" "I") ∈ wA := wA_of_1 78 rfl rfl
set_option maxRecDepth 100000 in
theorem wd_79 : (Jvm.Cond.fieldLink "LateFalls$Reader" (105 : Nat) "LateFalls$District" "columns" "I") ∈ wA := wA_of_1 79 rfl rfl
set_option maxRecDepth 100000 in
theorem wd_80 : (Jvm.Cond.fieldLink "LateFalls" (191 : Nat) "LateFalls$District" "columns" "I") ∈ wA := wA_of_1 80 rfl rfl
set_option maxRecDepth 100000 in
theorem wd_81 : (Jvm.Cond.fieldLink "LateFalls$Scene" (78 : Nat) "LateFalls$District" "columns" "I") ∈ wA := wA_of_1 81 rfl rfl
set_option maxRecDepth 100000 in
theorem wd_82 : (Jvm.Cond.fieldLink "LateFalls$District" (15 : Nat) "LateFalls$District" "levels" "I") ∈ wA := wA_of_1 82 rfl rfl
set_option maxRecDepth 100000 in
theorem wd_83 : (Jvm.Cond.fieldLink "LateFalls$Reader" (108 : Nat) "LateFalls$District" "levels" "I") ∈ wA := wA_of_1 83 rfl rfl
set_option maxRecDepth 100000 in
theorem wd_84 : (Jvm.Cond.fieldLink "LateFalls$Scene" (102 : Nat) "LateFalls$District" "levels" "I") ∈ wA := wA_of_1 84 rfl rfl
set_option maxRecDepth 100000 in
theorem wd_85 : (Jvm.Cond.fieldLink "LateFalls" (271 : Nat) "LateFalls$District" "levels" "I") ∈ wA := wA_of_1 85 rfl rfl
set_option maxRecDepth 100000 in
theorem wd_86 : (Jvm.Cond.fieldLink "LateFalls$Scene" (44 : Nat) "LateFalls$District" "things" "I") ∈ wA := wA_of_1 86 rfl rfl
set_option maxRecDepth 100000 in
theorem wd_87 : (Jvm.Cond.fieldLink "LateFalls$Reader" (111 : Nat) "LateFalls$District" "things" "I") ∈ wA := wA_of_1 87 rfl rfl
set_option maxRecDepth 100000 in
theorem wd_88 : (Jvm.Cond.fieldLink "LateFalls" (178 : Nat) "LateFalls$District" "things" "I") ∈ wA := wA_of_1 88 rfl rfl
set_option maxRecDepth 100000 in
theorem wd_89 : (Jvm.Cond.fieldLink "LateFalls$District" (28 : Nat) "LateFalls$District" "walkers" "I") ∈ wA := wA_of_1 89 rfl rfl
set_option maxRecDepth 100000 in
theorem wd_90 : (Jvm.Cond.fieldLink "LateFalls$Scene" (49 : Nat) "LateFalls$District" "walkers" "I") ∈ wA := wA_of_1 90 rfl rfl
set_option maxRecDepth 100000 in
theorem wd_91 : (Jvm.Cond.fieldLink "LateFalls$Reader" (149 : Nat) "LateFalls$District" "walkers" "I") ∈ wA := wA_of_1 91 rfl rfl
set_option maxRecDepth 100000 in
theorem wd_92 : (Jvm.Cond.fieldLink "LateFalls" (186 : Nat) "LateFalls$District" "walkers" "I") ∈ wA := wA_of_1 92 rfl rfl
set_option maxRecDepth 100000 in
theorem wd_93 : (Jvm.Cond.fieldLink "LateFalls$District" (18 : Nat) "LateFalls$District" "weights" "[I") ∈ wA := wA_of_1 93 rfl rfl
set_option maxRecDepth 100000 in
theorem wd_94 : (Jvm.Cond.fieldLink "LateFalls" (126 : Nat) "LateFalls$District" "weights" "[I") ∈ wA := wA_of_1 94 rfl rfl
set_option maxRecDepth 100000 in
theorem wd_95 : (Jvm.Cond.fieldLink "LateFalls$Reader" (114 : Nat) "LateFalls$District" "weights" "[I") ∈ wA := wA_of_1 95 rfl rfl
set_option maxRecDepth 100000 in
theorem wd_96 : (Jvm.Cond.fieldLink "LateFalls$Scene" (52 : Nat) "LateFalls$District" "weights" "[I") ∈ wA := wA_of_1 96 rfl rfl
set_option maxRecDepth 100000 in
theorem wd_97 : (Jvm.Cond.fieldLink "LateFalls$District" (22 : Nat) "LateFalls$District" "rounds" "[I") ∈ wA := wA_of_1 97 rfl rfl
set_option maxRecDepth 100000 in
theorem wd_98 : (Jvm.Cond.fieldLink "LateFalls$Reader" (152 : Nat) "LateFalls$District" "rounds" "[I") ∈ wA := wA_of_1 98 rfl rfl
set_option maxRecDepth 100000 in
theorem wd_99 : (Jvm.Cond.fieldLink "LateFalls$District" (25 : Nat) "LateFalls$District" "roundLengths" "[I") ∈ wA := wA_of_1 99 rfl rfl
set_option maxRecDepth 100000 in
theorem wd_100 : (Jvm.Cond.fieldLink "LateFalls" (153 : Nat) "LateFalls$District" "roundLengths" "[I") ∈ wA := wA_of_1 100 rfl rfl
set_option maxRecDepth 100000 in
theorem wd_101 : (Jvm.Cond.fieldLink "LateFalls$Reader" (155 : Nat) "LateFalls$District" "roundLengths" "[I") ∈ wA := wA_of_1 101 rfl rfl
set_option maxRecDepth 100000 in
theorem wd_102 : (Jvm.Cond.fieldLink "LateFalls$District" (40 : Nat) "LateFalls$District" "hangs" "LLateFalls$Law;") ∈ wA := wA_of_1 102 rfl rfl
set_option maxRecDepth 100000 in
theorem wd_103 : (Jvm.Cond.fieldLink "LateFalls$Reader" (173 : Nat) "LateFalls$District" "hangs" "LLateFalls$Law;") ∈ wA := wA_of_1 103 rfl rfl
set_option maxRecDepth 100000 in
theorem wd_104 : (Jvm.Cond.fieldLink "LateFalls$Reader" (180 : Nat) "LateFalls$District" "frees" "LLateFalls$Law;") ∈ wA := wA_of_1 104 rfl rfl
set_option maxRecDepth 100000 in
theorem wd_105 : (Jvm.Cond.fieldLink "LateFalls$Scene" (114 : Nat) "LateFalls$District" "frees" "LLateFalls$Law;") ∈ wA := wA_of_1 105 rfl rfl
set_option maxRecDepth 100000 in
theorem wd_106 : (Jvm.Cond.lays "LateFalls$District" "LateFalls$District" "lines" "I") ∈ wA := wA_of_1 106 rfl rfl
set_option maxRecDepth 100000 in
theorem wd_108 : (Jvm.Cond.lays "LateFalls$District" "LateFalls$District" "columns" "I") ∈ wA := wA_of_1 108 rfl rfl
set_option maxRecDepth 100000 in
theorem wd_110 : (Jvm.Cond.lays "LateFalls$District" "LateFalls$District" "levels" "I") ∈ wA := wA_of_1 110 rfl rfl
set_option maxRecDepth 100000 in
theorem wd_112 : (Jvm.Cond.lays "LateFalls$District" "LateFalls$District" "things" "I") ∈ wA := wA_of_1 112 rfl rfl
set_option maxRecDepth 100000 in
theorem wd_114 : (Jvm.Cond.lays "LateFalls$District" "LateFalls$District" "walkers" "I") ∈ wA := wA_of_1 114 rfl rfl
set_option maxRecDepth 100000 in
theorem wd_116 : (Jvm.Cond.laysFinal "LateFalls$District" "LateFalls$District" "weights" "[I") ∈ wA := wA_of_1 116 rfl rfl
set_option maxRecDepth 100000 in
theorem wd_118 : (Jvm.Cond.laysFinal "LateFalls$District" "LateFalls$District" "rounds" "[I") ∈ wA := wA_of_1 118 rfl rfl
set_option maxRecDepth 100000 in
theorem wd_120 : (Jvm.Cond.laysFinal "LateFalls$District" "LateFalls$District" "roundLengths" "[I") ∈ wA := wA_of_1 120 rfl rfl
set_option maxRecDepth 100000 in
theorem wd_122 : (Jvm.Cond.lays "LateFalls$District" "LateFalls$District" "hangs" "LLateFalls$Law;") ∈ wA := wA_of_1 122 rfl rfl
set_option maxRecDepth 100000 in
theorem wd_124 : (Jvm.Cond.lays "LateFalls$District" "LateFalls$District" "frees" "LLateFalls$Law;") ∈ wA := wA_of_1 124 rfl rfl
set_option maxRecDepth 100000 in
theorem wd_127 : (Jvm.Cond.classLink "LateFalls" (45 : Nat) "LateFalls$Reader") ∈ wA := wA_of_1 127 rfl rfl
set_option maxRecDepth 100000 in
theorem wd_128 : (Jvm.Cond.instantiable "LateFalls$Reader" (8 : Nat)) ∈ wA := wA_of_1 128 rfl rfl
set_option maxRecDepth 100000 in
theorem wd_129 : (Jvm.Cond.methodLink "LateFalls" (47 : Nat) ({ cls := "LateFalls$Reader", name := "<init>", desc := "(LLateFalls$District;)V" } : Jvm.MethodName)) ∈ wA := wA_of_1 129 rfl rfl
set_option maxRecDepth 100000 in
theorem wd_130 : (Jvm.Cond.instanceMethod ({ cls := "LateFalls$Reader", name := "<init>", desc := "(LLateFalls$District;)V" } : Jvm.MethodName)) ∈ wA := wA_of_1 130 rfl rfl
set_option maxRecDepth 100000 in
theorem wd_131 : (Jvm.Cond.code ({ cls := "LateFalls$Reader", name := "<init>", desc := "(LLateFalls$District;)V" } : Jvm.MethodName) prog_7_method_1_code (2 : Nat) (Option.none : Option Jvm.ClassFile.FieldType)) ∈ wA := wA_of_1 131 rfl rfl
set_option maxRecDepth 100000 in
theorem wd_132 : (Jvm.Cond.methodLink "LateFalls$Reader" (3 : Nat) ({ cls := "java/lang/Object", name := "<init>", desc := "()V" } : Jvm.MethodName)) ∈ wA := wA_of_1 132 rfl rfl
set_option maxRecDepth 100000 in
theorem wd_133 : (Jvm.Cond.classLink "LateFalls$Reader" (9 : Nat) "LateFalls$Tokens") ∈ wA := wA_of_1 133 rfl rfl
set_option maxRecDepth 100000 in
theorem wd_134 : (Jvm.Cond.instantiable "LateFalls$Tokens" (6 : Nat)) ∈ wA := wA_of_1 134 rfl rfl
set_option maxRecDepth 100000 in
theorem wd_136 : (Jvm.Cond.instanceMethod ({ cls := "LateFalls$Tokens", name := "<init>", desc := "()V" } : Jvm.MethodName)) ∈ wA := wA_of_1 136 rfl rfl
set_option maxRecDepth 100000 in
theorem wd_137 : (Jvm.Cond.code ({ cls := "LateFalls$Tokens", name := "<init>", desc := "()V" } : Jvm.MethodName) prog_9_method_1_code (1 : Nat) (Option.none : Option Jvm.ClassFile.FieldType)) ∈ wA := wA_of_1 137 rfl rfl
set_option maxRecDepth 100000 in
theorem wd_138 : (Jvm.Cond.methodLink "LateFalls$Tokens" (3 : Nat) ({ cls := "java/lang/Object", name := "<init>", desc := "()V" } : Jvm.MethodName)) ∈ wA := wA_of_1 138 rfl rfl
set_option maxRecDepth 100000 in
theorem wd_139 : (Jvm.Cond.fieldLink "LateFalls$Tokens" (9 : Nat) "LateFalls$Tokens" "kinds" "[I") ∈ wA := wA_of_1 139 rfl rfl
set_option maxRecDepth 100000 in
theorem wd_140 : (Jvm.Cond.fieldLink "LateFalls$Tokens" (15 : Nat) "LateFalls$Tokens" "places" "[I") ∈ wA := wA_of_1 140 rfl rfl
set_option maxRecDepth 100000 in
theorem wd_141 : (Jvm.Cond.fieldLink "LateFalls$Tokens" (18 : Nat) "LateFalls$Tokens" "many" "I") ∈ wA := wA_of_1 141 rfl rfl
set_option maxRecDepth 100000 in
theorem wd_142 : (Jvm.Cond.fieldLink "LateFalls$Tokens" (49 : Nat) "LateFalls$Tokens" "current" "I") ∈ wA := wA_of_1 142 rfl rfl
set_option maxRecDepth 100000 in
theorem wd_143 : (Jvm.Cond.fieldLink "LateFalls$Reader" (55 : Nat) "LateFalls$Tokens" "kind" "I") ∈ wA := wA_of_1 143 rfl rfl
set_option maxRecDepth 100000 in
theorem wd_144 : (Jvm.Cond.fieldLink "LateFalls$Tokens" (52 : Nat) "LateFalls$Tokens" "kind" "I") ∈ wA := wA_of_1 144 rfl rfl
set_option maxRecDepth 100000 in
theorem wd_145 : (Jvm.Cond.fieldLink "LateFalls$Tokens" (55 : Nat) "LateFalls$Tokens" "start" "I") ∈ wA := wA_of_1 145 rfl rfl
set_option maxRecDepth 100000 in
theorem wd_146 : (Jvm.Cond.fieldLink "LateFalls$Reader" (90 : Nat) "LateFalls$Tokens" "start" "I") ∈ wA := wA_of_1 146 rfl rfl
set_option maxRecDepth 100000 in
theorem wd_147 : (Jvm.Cond.laysFinal "LateFalls$Tokens" "LateFalls$Tokens" "kinds" "[I") ∈ wA := wA_of_1 147 rfl rfl
set_option maxRecDepth 100000 in
theorem wd_149 : (Jvm.Cond.laysFinal "LateFalls$Tokens" "LateFalls$Tokens" "places" "[I") ∈ wA := wA_of_1 149 rfl rfl
set_option maxRecDepth 100000 in
theorem wd_151 : (Jvm.Cond.lays "LateFalls$Tokens" "LateFalls$Tokens" "many" "I") ∈ wA := wA_of_1 151 rfl rfl
set_option maxRecDepth 100000 in
theorem wd_153 : (Jvm.Cond.lays "LateFalls$Tokens" "LateFalls$Tokens" "current" "I") ∈ wA := wA_of_1 153 rfl rfl
set_option maxRecDepth 100000 in
theorem wd_155 : (Jvm.Cond.lays "LateFalls$Tokens" "LateFalls$Tokens" "kind" "I") ∈ wA := wA_of_1 155 rfl rfl
set_option maxRecDepth 100000 in
theorem wd_157 : (Jvm.Cond.lays "LateFalls$Tokens" "LateFalls$Tokens" "start" "I") ∈ wA := wA_of_1 157 rfl rfl
set_option maxRecDepth 100000 in
theorem wd_160 : (Jvm.Cond.classLink "LateFalls$Reader" (22 : Nat) "LateFalls$Scene") ∈ wA := wA_of_1 160 rfl rfl
set_option maxRecDepth 100000 in
theorem wd_161 : (Jvm.Cond.instantiable "LateFalls$Scene" (8 : Nat)) ∈ wA := wA_of_1 161 rfl rfl
set_option maxRecDepth 100000 in
theorem wd_162 : (Jvm.Cond.methodLink "LateFalls$Reader" (24 : Nat) ({ cls := "LateFalls$Scene", name := "<init>", desc := "(LLateFalls$District;)V" } : Jvm.MethodName)) ∈ wA := wA_of_1 162 rfl rfl
set_option maxRecDepth 100000 in
theorem wd_163 : (Jvm.Cond.instanceMethod ({ cls := "LateFalls$Scene", name := "<init>", desc := "(LLateFalls$District;)V" } : Jvm.MethodName)) ∈ wA := wA_of_1 163 rfl rfl
set_option maxRecDepth 100000 in
theorem wd_164 : (Jvm.Cond.code ({ cls := "LateFalls$Scene", name := "<init>", desc := "(LLateFalls$District;)V" } : Jvm.MethodName) prog_8_method_1_code (2 : Nat) (Option.none : Option Jvm.ClassFile.FieldType)) ∈ wA := wA_of_1 164 rfl rfl
set_option maxRecDepth 100000 in
theorem wd_165 : (Jvm.Cond.methodLink "LateFalls$Scene" (3 : Nat) ({ cls := "java/lang/Object", name := "<init>", desc := "()V" } : Jvm.MethodName)) ∈ wA := wA_of_1 165 rfl rfl
set_option maxRecDepth 100000 in
theorem wd_166 : (Jvm.Cond.fieldLink "LateFalls$Scene" (27 : Nat) "LateFalls$Scene" "district" "LLateFalls$District;") ∈ wA := wA_of_1 166 rfl rfl
set_option maxRecDepth 100000 in
theorem wd_167 : (Jvm.Cond.fieldLink "LateFalls$Ways" (34 : Nat) "LateFalls$Scene" "district" "LLateFalls$District;") ∈ wA := wA_of_1 167 rfl rfl
set_option maxRecDepth 100000 in
theorem wd_168 : (Jvm.Cond.fieldLink "LateFalls" (113 : Nat) "LateFalls$Scene" "district" "LLateFalls$District;") ∈ wA := wA_of_1 168 rfl rfl
set_option maxRecDepth 100000 in
theorem wd_169 : (Jvm.Cond.fieldLink "LateFalls$Forecast" (52 : Nat) "LateFalls$Scene" "district" "LLateFalls$District;") ∈ wA := wA_of_1 169 rfl rfl
set_option maxRecDepth 100000 in
theorem wd_170 : (Jvm.Cond.fieldLink "LateFalls$Scene" (31 : Nat) "LateFalls$Scene" "hour" "I") ∈ wA := wA_of_1 170 rfl rfl
set_option maxRecDepth 100000 in
theorem wd_171 : (Jvm.Cond.fieldLink "LateFalls$Forecast" (31 : Nat) "LateFalls$Scene" "hour" "I") ∈ wA := wA_of_1 171 rfl rfl
set_option maxRecDepth 100000 in
theorem wd_172 : (Jvm.Cond.fieldLink "LateFalls$Reader" (77 : Nat) "LateFalls$Scene" "hour" "I") ∈ wA := wA_of_1 172 rfl rfl
set_option maxRecDepth 100000 in
theorem wd_173 : (Jvm.Cond.fieldLink "LateFalls" (135 : Nat) "LateFalls$Scene" "hour" "I") ∈ wA := wA_of_1 173 rfl rfl
set_option maxRecDepth 100000 in
theorem wd_174 : (Jvm.Cond.fieldLink "LateFalls$Scene" (9 : Nat) "LateFalls$Scene" "state" "[I") ∈ wA := wA_of_1 174 rfl rfl
set_option maxRecDepth 100000 in
theorem wd_175 : (Jvm.Cond.fieldLink "LateFalls" (123 : Nat) "LateFalls$Scene" "state" "[I") ∈ wA := wA_of_1 175 rfl rfl
set_option maxRecDepth 100000 in
theorem wd_176 : (Jvm.Cond.fieldLink "LateFalls$Forecast" (71 : Nat) "LateFalls$Scene" "state" "[I") ∈ wA := wA_of_1 176 rfl rfl
set_option maxRecDepth 100000 in
theorem wd_177 : (Jvm.Cond.fieldLink "LateFalls$Reader" (126 : Nat) "LateFalls$Scene" "state" "[I") ∈ wA := wA_of_1 177 rfl rfl
set_option maxRecDepth 100000 in
theorem wd_178 : (Jvm.Cond.fieldLink "LateFalls$Scene" (15 : Nat) "LateFalls$Scene" "column" "[I") ∈ wA := wA_of_1 178 rfl rfl
set_option maxRecDepth 100000 in
theorem wd_179 : (Jvm.Cond.fieldLink "LateFalls" (129 : Nat) "LateFalls$Scene" "column" "[I") ∈ wA := wA_of_1 179 rfl rfl
set_option maxRecDepth 100000 in
theorem wd_180 : (Jvm.Cond.fieldLink "LateFalls$Reader" (136 : Nat) "LateFalls$Scene" "column" "[I") ∈ wA := wA_of_1 180 rfl rfl
set_option maxRecDepth 100000 in
theorem wd_181 : (Jvm.Cond.fieldLink "LateFalls$Scene" (18 : Nat) "LateFalls$Scene" "level" "[I") ∈ wA := wA_of_1 181 rfl rfl
set_option maxRecDepth 100000 in
theorem wd_182 : (Jvm.Cond.fieldLink "LateFalls" (132 : Nat) "LateFalls$Scene" "level" "[I") ∈ wA := wA_of_1 182 rfl rfl
set_option maxRecDepth 100000 in
theorem wd_183 : (Jvm.Cond.fieldLink "LateFalls$Reader" (139 : Nat) "LateFalls$Scene" "level" "[I") ∈ wA := wA_of_1 183 rfl rfl
set_option maxRecDepth 100000 in
theorem wd_184 : (Jvm.Cond.fieldLink "LateFalls$Scene" (21 : Nat) "LateFalls$Scene" "time" "[I") ∈ wA := wA_of_1 184 rfl rfl
set_option maxRecDepth 100000 in
theorem wd_185 : (Jvm.Cond.fieldLink "LateFalls" (138 : Nat) "LateFalls$Scene" "time" "[I") ∈ wA := wA_of_1 185 rfl rfl
set_option maxRecDepth 100000 in
theorem wd_186 : (Jvm.Cond.fieldLink "LateFalls$Reader" (129 : Nat) "LateFalls$Scene" "time" "[I") ∈ wA := wA_of_1 186 rfl rfl
set_option maxRecDepth 100000 in
theorem wd_187 : (Jvm.Cond.fieldLink "LateFalls$Scene" (24 : Nat) "LateFalls$Scene" "hurt" "[I") ∈ wA := wA_of_1 187 rfl rfl
set_option maxRecDepth 100000 in
theorem wd_188 : (Jvm.Cond.fieldLink "LateFalls" (150 : Nat) "LateFalls$Scene" "hurt" "[I") ∈ wA := wA_of_1 188 rfl rfl
set_option maxRecDepth 100000 in
theorem wd_189 : (Jvm.Cond.fieldLink "LateFalls$Scene" (35 : Nat) "LateFalls$Scene" "fallen" "I") ∈ wA := wA_of_1 189 rfl rfl
set_option maxRecDepth 100000 in
theorem wd_190 : (Jvm.Cond.fieldLink "LateFalls$Forecast" (46 : Nat) "LateFalls$Scene" "fallen" "I") ∈ wA := wA_of_1 190 rfl rfl
set_option maxRecDepth 100000 in
theorem wd_191 : (Jvm.Cond.fieldLink "LateFalls" (334 : Nat) "LateFalls$Scene" "fallen" "I") ∈ wA := wA_of_1 191 rfl rfl
set_option maxRecDepth 100000 in
theorem wd_192 : (Jvm.Cond.lays "LateFalls$Scene" "LateFalls$Scene" "district" "LLateFalls$District;") ∈ wA := wA_of_1 192 rfl rfl
set_option maxRecDepth 100000 in
theorem wd_194 : (Jvm.Cond.lays "LateFalls$Scene" "LateFalls$Scene" "hour" "I") ∈ wA := wA_of_1 194 rfl rfl
set_option maxRecDepth 100000 in
theorem wd_196 : (Jvm.Cond.laysFinal "LateFalls$Scene" "LateFalls$Scene" "state" "[I") ∈ wA := wA_of_1 196 rfl rfl
set_option maxRecDepth 100000 in
theorem wd_198 : (Jvm.Cond.laysFinal "LateFalls$Scene" "LateFalls$Scene" "column" "[I") ∈ wA := wA_of_1 198 rfl rfl
set_option maxRecDepth 100000 in
theorem wd_200 : (Jvm.Cond.laysFinal "LateFalls$Scene" "LateFalls$Scene" "level" "[I") ∈ wA := wA_of_1 200 rfl rfl
set_option maxRecDepth 100000 in
theorem wd_202 : (Jvm.Cond.laysFinal "LateFalls$Scene" "LateFalls$Scene" "time" "[I") ∈ wA := wA_of_1 202 rfl rfl
set_option maxRecDepth 100000 in
theorem wd_204 : (Jvm.Cond.laysFinal "LateFalls$Scene" "LateFalls$Scene" "hurt" "[I") ∈ wA := wA_of_1 204 rfl rfl
set_option maxRecDepth 100000 in
theorem wd_206 : (Jvm.Cond.lays "LateFalls$Scene" "LateFalls$Scene" "fallen" "I") ∈ wA := wA_of_1 206 rfl rfl
set_option maxRecDepth 100000 in
theorem wd_209 : (Jvm.Cond.fieldLink "LateFalls$Reader" (27 : Nat) "LateFalls$Reader" "start" "LLateFalls$Scene;") ∈ wA := wA_of_1 209 rfl rfl
set_option maxRecDepth 100000 in
theorem wd_210 : (Jvm.Cond.fieldLink "LateFalls" (103 : Nat) "LateFalls$Reader" "start" "LLateFalls$Scene;") ∈ wA := wA_of_1 210 rfl rfl
set_option maxRecDepth 100000 in
theorem wd_211 : (Jvm.Cond.fieldLink "LateFalls$Reader" (41 : Nat) "LateFalls$Reader" "fault" "I") ∈ wA := wA_of_1 211 rfl rfl
set_option maxRecDepth 100000 in
theorem wd_212 : (Jvm.Cond.fieldLink "LateFalls" (94 : Nat) "LateFalls$Reader" "fault" "I") ∈ wA := wA_of_1 212 rfl rfl
set_option maxRecDepth 100000 in
theorem wd_213 : (Jvm.Cond.fieldLink "LateFalls$Reader" (45 : Nat) "LateFalls$Reader" "place" "I") ∈ wA := wA_of_1 213 rfl rfl
set_option maxRecDepth 100000 in
theorem wd_214 : (Jvm.Cond.fieldLink "LateFalls" (100 : Nat) "LateFalls$Reader" "place" "I") ∈ wA := wA_of_1 214 rfl rfl
set_option maxRecDepth 100000 in
theorem wd_215 : (Jvm.Cond.fieldLink "LateFalls$Reader" (31 : Nat) "LateFalls$Reader" "draft" "LLateFalls$District;") ∈ wA := wA_of_1 215 rfl rfl
set_option maxRecDepth 100000 in
theorem wd_216 : (Jvm.Cond.fieldLink "LateFalls$Reader" (12 : Nat) "LateFalls$Reader" "tokens" "LLateFalls$Tokens;") ∈ wA := wA_of_1 216 rfl rfl
set_option maxRecDepth 100000 in
theorem wd_217 : (Jvm.Cond.fieldLink "LateFalls$Reader" (18 : Nat) "LateFalls$Reader" "code" "[I") ∈ wA := wA_of_1 217 rfl rfl
set_option maxRecDepth 100000 in
theorem wd_218 : (Jvm.Cond.fieldLink "LateFalls$Reader" (158 : Nat) "LateFalls$Reader" "codeLength" "I") ∈ wA := wA_of_1 218 rfl rfl
set_option maxRecDepth 100000 in
theorem wd_219 : (Jvm.Cond.fieldLink "LateFalls$Reader" (161 : Nat) "LateFalls$Reader" "ofHangs" "Z") ∈ wA := wA_of_1 219 rfl rfl
set_option maxRecDepth 100000 in
theorem wd_220 : (Jvm.Cond.laysFinal "LateFalls$Reader" "LateFalls$Reader" "start" "LLateFalls$Scene;") ∈ wA := wA_of_1 220 rfl rfl
set_option maxRecDepth 100000 in
theorem wd_222 : (Jvm.Cond.lays "LateFalls$Reader" "LateFalls$Reader" "fault" "I") ∈ wA := wA_of_1 222 rfl rfl
set_option maxRecDepth 100000 in
theorem wd_224 : (Jvm.Cond.lays "LateFalls$Reader" "LateFalls$Reader" "place" "I") ∈ wA := wA_of_1 224 rfl rfl
set_option maxRecDepth 100000 in
theorem wd_226 : (Jvm.Cond.lays "LateFalls$Reader" "LateFalls$Reader" "draft" "LLateFalls$District;") ∈ wA := wA_of_1 226 rfl rfl
set_option maxRecDepth 100000 in
theorem wd_228 : (Jvm.Cond.laysFinal "LateFalls$Reader" "LateFalls$Reader" "tokens" "LLateFalls$Tokens;") ∈ wA := wA_of_1 228 rfl rfl
set_option maxRecDepth 100000 in
theorem wd_230 : (Jvm.Cond.laysFinal "LateFalls$Reader" "LateFalls$Reader" "code" "[I") ∈ wA := wA_of_1 230 rfl rfl
set_option maxRecDepth 100000 in
theorem wd_232 : (Jvm.Cond.lays "LateFalls$Reader" "LateFalls$Reader" "codeLength" "I") ∈ wA := wA_of_1 232 rfl rfl
set_option maxRecDepth 100000 in
theorem wd_234 : (Jvm.Cond.lays "LateFalls$Reader" "LateFalls$Reader" "ofHangs" "Z") ∈ wA := wA_of_1 234 rfl rfl
set_option maxRecDepth 100000 in
theorem wd_237 : (Jvm.Cond.classLink "LateFalls" (54 : Nat) "LateFalls$Scene") ∈ wA := wA_of_1 237 rfl rfl
set_option maxRecDepth 100000 in
theorem wd_238 : (Jvm.Cond.methodLink "LateFalls" (56 : Nat) ({ cls := "LateFalls$Scene", name := "<init>", desc := "(LLateFalls$District;)V" } : Jvm.MethodName)) ∈ wA := wA_of_1 238 rfl rfl
set_option maxRecDepth 100000 in
theorem wd_239 : (Jvm.Cond.classLink "LateFalls" (61 : Nat) "LateFalls$History") ∈ wA := wA_of_1 239 rfl rfl
set_option maxRecDepth 100000 in
theorem wd_240 : (Jvm.Cond.instantiable "LateFalls$History" (3 : Nat)) ∈ wA := wA_of_2 0 rfl rfl
set_option maxRecDepth 100000 in
theorem wd_241 : (Jvm.Cond.methodLink "LateFalls" (63 : Nat) ({ cls := "LateFalls$History", name := "<init>", desc := "(LLateFalls$District;)V" } : Jvm.MethodName)) ∈ wA := wA_of_2 1 rfl rfl
set_option maxRecDepth 100000 in
theorem wd_242 : (Jvm.Cond.instanceMethod ({ cls := "LateFalls$History", name := "<init>", desc := "(LLateFalls$District;)V" } : Jvm.MethodName)) ∈ wA := wA_of_2 2 rfl rfl
set_option maxRecDepth 100000 in
theorem wd_243 : (Jvm.Cond.code ({ cls := "LateFalls$History", name := "<init>", desc := "(LLateFalls$District;)V" } : Jvm.MethodName) prog_4_method_1_code (3 : Nat) (Option.none : Option Jvm.ClassFile.FieldType)) ∈ wA := wA_of_2 3 rfl rfl
set_option maxRecDepth 100000 in
theorem wd_244 : (Jvm.Cond.methodLink "LateFalls$History" (3 : Nat) ({ cls := "java/lang/Object", name := "<init>", desc := "()V" } : Jvm.MethodName)) ∈ wA := wA_of_2 4 rfl rfl
set_option maxRecDepth 100000 in
theorem wd_245 : (Jvm.Cond.classLink "LateFalls$History" (9 : Nat) "LateFalls$Scene") ∈ wA := wA_of_2 5 rfl rfl
set_option maxRecDepth 100000 in
theorem wd_247 : (Jvm.Cond.methodLink "LateFalls$History" (17 : Nat) ({ cls := "LateFalls$Scene", name := "<init>", desc := "(LLateFalls$District;)V" } : Jvm.MethodName)) ∈ wA := wA_of_2 7 rfl rfl
set_option maxRecDepth 100000 in
theorem wd_248 : (Jvm.Cond.fieldLink "LateFalls$History" (11 : Nat) "LateFalls$History" "scenes" "[LLateFalls$Scene;") ∈ wA := wA_of_2 8 rfl rfl
set_option maxRecDepth 100000 in
theorem wd_249 : (Jvm.Cond.fieldLink "LateFalls$History" (20 : Nat) "LateFalls$History" "first" "I") ∈ wA := wA_of_2 9 rfl rfl
set_option maxRecDepth 100000 in
theorem wd_250 : (Jvm.Cond.fieldLink "LateFalls$History" (24 : Nat) "LateFalls$History" "many" "I") ∈ wA := wA_of_2 10 rfl rfl
set_option maxRecDepth 100000 in
theorem wd_251 : (Jvm.Cond.fieldLink "LateFalls" (227 : Nat) "LateFalls$History" "many" "I") ∈ wA := wA_of_2 11 rfl rfl
set_option maxRecDepth 100000 in
theorem wd_252 : (Jvm.Cond.laysFinal "LateFalls$History" "LateFalls$History" "scenes" "[LLateFalls$Scene;") ∈ wA := wA_of_2 12 rfl rfl
set_option maxRecDepth 100000 in
theorem wd_254 : (Jvm.Cond.lays "LateFalls$History" "LateFalls$History" "first" "I") ∈ wA := wA_of_2 14 rfl rfl
set_option maxRecDepth 100000 in
theorem wd_256 : (Jvm.Cond.lays "LateFalls$History" "LateFalls$History" "many" "I") ∈ wA := wA_of_2 16 rfl rfl
set_option maxRecDepth 100000 in
theorem wd_259 : (Jvm.Cond.classLink "LateFalls" (68 : Nat) "LateFalls$Forecast") ∈ wA := wA_of_2 19 rfl rfl
set_option maxRecDepth 100000 in
theorem wd_260 : (Jvm.Cond.instantiable "LateFalls$Forecast" (5 : Nat)) ∈ wA := wA_of_2 20 rfl rfl
set_option maxRecDepth 100000 in
theorem wd_261 : (Jvm.Cond.methodLink "LateFalls" (70 : Nat) ({ cls := "LateFalls$Forecast", name := "<init>", desc := "(LLateFalls$District;)V" } : Jvm.MethodName)) ∈ wA := wA_of_2 21 rfl rfl
set_option maxRecDepth 100000 in
theorem wd_262 : (Jvm.Cond.instanceMethod ({ cls := "LateFalls$Forecast", name := "<init>", desc := "(LLateFalls$District;)V" } : Jvm.MethodName)) ∈ wA := wA_of_2 22 rfl rfl
set_option maxRecDepth 100000 in
theorem wd_263 : (Jvm.Cond.code ({ cls := "LateFalls$Forecast", name := "<init>", desc := "(LLateFalls$District;)V" } : Jvm.MethodName) prog_3_method_1_code (2 : Nat) (Option.none : Option Jvm.ClassFile.FieldType)) ∈ wA := wA_of_2 23 rfl rfl
set_option maxRecDepth 100000 in
theorem wd_264 : (Jvm.Cond.methodLink "LateFalls$Forecast" (3 : Nat) ({ cls := "java/lang/Object", name := "<init>", desc := "()V" } : Jvm.MethodName)) ∈ wA := wA_of_2 24 rfl rfl
set_option maxRecDepth 100000 in
theorem wd_265 : (Jvm.Cond.classLink "LateFalls$Forecast" (18 : Nat) "LateFalls$Scene") ∈ wA := wA_of_2 25 rfl rfl
set_option maxRecDepth 100000 in
theorem wd_266 : (Jvm.Cond.methodLink "LateFalls$Forecast" (20 : Nat) ({ cls := "LateFalls$Scene", name := "<init>", desc := "(LLateFalls$District;)V" } : Jvm.MethodName)) ∈ wA := wA_of_2 26 rfl rfl
set_option maxRecDepth 100000 in
theorem wd_267 : (Jvm.Cond.fieldLink "LateFalls$Forecast" (23 : Nat) "LateFalls$Forecast" "ahead" "LLateFalls$Scene;") ∈ wA := wA_of_2 27 rfl rfl
set_option maxRecDepth 100000 in
theorem wd_268 : (Jvm.Cond.fieldLink "LateFalls$Ways" (28 : Nat) "LateFalls$Forecast" "ahead" "LLateFalls$Scene;") ∈ wA := wA_of_2 28 rfl rfl
set_option maxRecDepth 100000 in
theorem wd_269 : (Jvm.Cond.fieldLink "LateFalls" (240 : Nat) "LateFalls$Forecast" "ahead" "LLateFalls$Scene;") ∈ wA := wA_of_2 29 rfl rfl
set_option maxRecDepth 100000 in
theorem wd_270 : (Jvm.Cond.fieldLink "LateFalls$Forecast" (35 : Nat) "LateFalls$Forecast" "from" "I") ∈ wA := wA_of_2 30 rfl rfl
set_option maxRecDepth 100000 in
theorem wd_271 : (Jvm.Cond.fieldLink "LateFalls$Forecast" (38 : Nat) "LateFalls$Forecast" "events" "I") ∈ wA := wA_of_2 31 rfl rfl
set_option maxRecDepth 100000 in
theorem wd_272 : (Jvm.Cond.fieldLink "LateFalls$Ways" (49 : Nat) "LateFalls$Forecast" "events" "I") ∈ wA := wA_of_2 32 rfl rfl
set_option maxRecDepth 100000 in
theorem wd_273 : (Jvm.Cond.fieldLink "LateFalls" (295 : Nat) "LateFalls$Forecast" "events" "I") ∈ wA := wA_of_2 33 rfl rfl
set_option maxRecDepth 100000 in
theorem wd_274 : (Jvm.Cond.fieldLink "LateFalls$Forecast" (9 : Nat) "LateFalls$Forecast" "when" "[I") ∈ wA := wA_of_2 34 rfl rfl
set_option maxRecDepth 100000 in
theorem wd_275 : (Jvm.Cond.fieldLink "LateFalls$Ways" (52 : Nat) "LateFalls$Forecast" "when" "[I") ∈ wA := wA_of_2 35 rfl rfl
set_option maxRecDepth 100000 in
theorem wd_276 : (Jvm.Cond.fieldLink "LateFalls" (298 : Nat) "LateFalls$Forecast" "when" "[I") ∈ wA := wA_of_2 36 rfl rfl
set_option maxRecDepth 100000 in
theorem wd_277 : (Jvm.Cond.fieldLink "LateFalls$Forecast" (15 : Nat) "LateFalls$Forecast" "fallen" "[I") ∈ wA := wA_of_2 37 rfl rfl
set_option maxRecDepth 100000 in
theorem wd_278 : (Jvm.Cond.fieldLink "LateFalls" (301 : Nat) "LateFalls$Forecast" "fallen" "[I") ∈ wA := wA_of_2 38 rfl rfl
set_option maxRecDepth 100000 in
theorem wd_279 : (Jvm.Cond.laysFinal "LateFalls$Forecast" "LateFalls$Forecast" "ahead" "LLateFalls$Scene;") ∈ wA := wA_of_2 39 rfl rfl
set_option maxRecDepth 100000 in
theorem wd_281 : (Jvm.Cond.lays "LateFalls$Forecast" "LateFalls$Forecast" "from" "I") ∈ wA := wA_of_2 41 rfl rfl
set_option maxRecDepth 100000 in
theorem wd_283 : (Jvm.Cond.lays "LateFalls$Forecast" "LateFalls$Forecast" "events" "I") ∈ wA := wA_of_2 43 rfl rfl
set_option maxRecDepth 100000 in
theorem wd_285 : (Jvm.Cond.laysFinal "LateFalls$Forecast" "LateFalls$Forecast" "when" "[I") ∈ wA := wA_of_2 45 rfl rfl
set_option maxRecDepth 100000 in
theorem wd_287 : (Jvm.Cond.laysFinal "LateFalls$Forecast" "LateFalls$Forecast" "fallen" "[I") ∈ wA := wA_of_2 47 rfl rfl
set_option maxRecDepth 100000 in
theorem wd_290 : (Jvm.Cond.instantiable "LateFalls$Tray" (3 : Nat)) ∈ wA := wA_of_2 50 rfl rfl
set_option maxRecDepth 100000 in
theorem wd_292 : (Jvm.Cond.instanceMethod ({ cls := "LateFalls$Tray", name := "<init>", desc := "()V" } : Jvm.MethodName)) ∈ wA := wA_of_2 52 rfl rfl
set_option maxRecDepth 100000 in
theorem wd_293 : (Jvm.Cond.code ({ cls := "LateFalls$Tray", name := "<init>", desc := "()V" } : Jvm.MethodName) prog_10_method_1_code (1 : Nat) (Option.none : Option Jvm.ClassFile.FieldType)) ∈ wA := wA_of_2 53 rfl rfl
set_option maxRecDepth 100000 in
theorem wd_294 : (Jvm.Cond.methodLink "LateFalls$Tray" (3 : Nat) ({ cls := "java/lang/Object", name := "<init>", desc := "()V" } : Jvm.MethodName)) ∈ wA := wA_of_2 54 rfl rfl
set_option maxRecDepth 100000 in
theorem wd_295 : (Jvm.Cond.fieldLink "LateFalls$Tray" (9 : Nat) "LateFalls$Tray" "sort" "I") ∈ wA := wA_of_2 55 rfl rfl
set_option maxRecDepth 100000 in
theorem wd_296 : (Jvm.Cond.fieldLink "LateFalls" (401 : Nat) "LateFalls$Tray" "sort" "I") ∈ wA := wA_of_2 56 rfl rfl
set_option maxRecDepth 100000 in
theorem wd_297 : (Jvm.Cond.fieldLink "LateFalls$Tray" (19 : Nat) "LateFalls$Tray" "many" "I") ∈ wA := wA_of_2 57 rfl rfl
set_option maxRecDepth 100000 in
theorem wd_298 : (Jvm.Cond.fieldLink "LateFalls" (243 : Nat) "LateFalls$Tray" "many" "I") ∈ wA := wA_of_2 58 rfl rfl
set_option maxRecDepth 100000 in
theorem wd_299 : (Jvm.Cond.fieldLink "LateFalls$Tray" (15 : Nat) "LateFalls$Tray" "numbers" "[J") ∈ wA := wA_of_2 59 rfl rfl
set_option maxRecDepth 100000 in
theorem wd_300 : (Jvm.Cond.fieldLink "LateFalls" (244 : Nat) "LateFalls$Tray" "numbers" "[J") ∈ wA := wA_of_2 60 rfl rfl
set_option maxRecDepth 100000 in
theorem wd_301 : (Jvm.Cond.lays "LateFalls$Tray" "LateFalls$Tray" "sort" "I") ∈ wA := wA_of_2 61 rfl rfl
set_option maxRecDepth 100000 in
theorem wd_303 : (Jvm.Cond.lays "LateFalls$Tray" "LateFalls$Tray" "many" "I") ∈ wA := wA_of_2 63 rfl rfl
set_option maxRecDepth 100000 in
theorem wd_305 : (Jvm.Cond.laysFinal "LateFalls$Tray" "LateFalls$Tray" "numbers" "[J") ∈ wA := wA_of_2 65 rfl rfl
set_option maxRecDepth 100000 in
theorem wd_308 : (Jvm.Cond.fieldLink "LateFalls" (11 : Nat) "LateFalls" "tape" "[B") ∈ wA := wA_of_2 68 rfl rfl
set_option maxRecDepth 100000 in
theorem wd_309 : (Jvm.Cond.fieldLink "LateFalls" (76 : Nat) "LateFalls" "tapeLength" "I") ∈ wA := wA_of_2 69 rfl rfl
set_option maxRecDepth 100000 in
theorem wd_310 : (Jvm.Cond.fieldLink "LateFalls" (97 : Nat) "LateFalls" "faultKind" "I") ∈ wA := wA_of_2 70 rfl rfl
set_option maxRecDepth 100000 in
theorem wd_311 : (Jvm.Cond.fieldLink "LateFalls" (15 : Nat) "LateFalls" "faultPlace" "I") ∈ wA := wA_of_2 71 rfl rfl
set_option maxRecDepth 100000 in
theorem wd_312 : (Jvm.Cond.fieldLink "LateFalls" (50 : Nat) "LateFalls" "reader" "LLateFalls$Reader;") ∈ wA := wA_of_2 72 rfl rfl
set_option maxRecDepth 100000 in
theorem wd_313 : (Jvm.Cond.fieldLink "LateFalls" (57 : Nat) "LateFalls" "scene" "LLateFalls$Scene;") ∈ wA := wA_of_2 73 rfl rfl
set_option maxRecDepth 100000 in
theorem wd_314 : (Jvm.Cond.fieldLink "LateFalls" (64 : Nat) "LateFalls" "history" "LLateFalls$History;") ∈ wA := wA_of_2 74 rfl rfl
set_option maxRecDepth 100000 in
theorem wd_315 : (Jvm.Cond.fieldLink "LateFalls" (71 : Nat) "LateFalls" "forecast" "LLateFalls$Forecast;") ∈ wA := wA_of_2 75 rfl rfl
set_option maxRecDepth 100000 in
theorem wd_316 : (Jvm.Cond.fieldLink "LateFalls" (22 : Nat) "LateFalls" "ways" "LLateFalls$Ways;") ∈ wA := wA_of_2 76 rfl rfl
set_option maxRecDepth 100000 in
theorem wd_317 : (Jvm.Cond.fieldLink "LateFalls" (26 : Nat) "LateFalls" "firstFalls" "[I") ∈ wA := wA_of_2 77 rfl rfl
set_option maxRecDepth 100000 in
theorem wd_318 : (Jvm.Cond.fieldLink "LateFalls" (32 : Nat) "LateFalls" "trays" "[LLateFalls$Tray;") ∈ wA := wA_of_2 78 rfl rfl
set_option maxRecDepth 100000 in
theorem wd_319 : (Jvm.Cond.fieldLink "LateFalls" (38 : Nat) "LateFalls" "images" "[LLateFalls$Image;") ∈ wA := wA_of_2 79 rfl rfl
set_option maxRecDepth 100000 in
theorem wd_320 : (Jvm.Cond.fieldLink "LateFalls" (262 : Nat) "LateFalls" "drawn" "I") ∈ wA := wA_of_2 80 rfl rfl
set_option maxRecDepth 100000 in
theorem wd_321 : (Jvm.Cond.laysFinal "LateFalls" "LateFalls" "tape" "[B") ∈ wA := wA_of_2 81 rfl rfl
set_option maxRecDepth 100000 in
theorem wd_323 : (Jvm.Cond.lays "LateFalls" "LateFalls" "tapeLength" "I") ∈ wA := wA_of_2 83 rfl rfl
set_option maxRecDepth 100000 in
theorem wd_325 : (Jvm.Cond.lays "LateFalls" "LateFalls" "faultKind" "I") ∈ wA := wA_of_2 85 rfl rfl
set_option maxRecDepth 100000 in
theorem wd_327 : (Jvm.Cond.lays "LateFalls" "LateFalls" "faultPlace" "I") ∈ wA := wA_of_2 87 rfl rfl
set_option maxRecDepth 100000 in
theorem wd_329 : (Jvm.Cond.laysFinal "LateFalls" "LateFalls" "reader" "LLateFalls$Reader;") ∈ wA := wA_of_2 89 rfl rfl
set_option maxRecDepth 100000 in
theorem wd_331 : (Jvm.Cond.laysFinal "LateFalls" "LateFalls" "scene" "LLateFalls$Scene;") ∈ wA := wA_of_2 91 rfl rfl
set_option maxRecDepth 100000 in
theorem wd_333 : (Jvm.Cond.laysFinal "LateFalls" "LateFalls" "history" "LLateFalls$History;") ∈ wA := wA_of_2 93 rfl rfl
set_option maxRecDepth 100000 in
theorem wd_335 : (Jvm.Cond.laysFinal "LateFalls" "LateFalls" "forecast" "LLateFalls$Forecast;") ∈ wA := wA_of_2 95 rfl rfl
set_option maxRecDepth 100000 in
theorem wd_337 : (Jvm.Cond.laysFinal "LateFalls" "LateFalls" "ways" "LLateFalls$Ways;") ∈ wA := wA_of_2 97 rfl rfl
set_option maxRecDepth 100000 in
theorem wd_339 : (Jvm.Cond.laysFinal "LateFalls" "LateFalls" "firstFalls" "[I") ∈ wA := wA_of_2 99 rfl rfl
set_option maxRecDepth 100000 in
theorem wd_341 : (Jvm.Cond.laysFinal "LateFalls" "LateFalls" "trays" "[LLateFalls$Tray;") ∈ wA := wA_of_2 101 rfl rfl
set_option maxRecDepth 100000 in
theorem wd_343 : (Jvm.Cond.laysFinal "LateFalls" "LateFalls" "images" "[LLateFalls$Image;") ∈ wA := wA_of_2 103 rfl rfl
set_option maxRecDepth 100000 in
theorem wd_345 : (Jvm.Cond.lays "LateFalls" "LateFalls" "drawn" "I") ∈ wA := wA_of_2 105 rfl rfl
set_option maxRecDepth 100000 in
theorem wd_348 : (Jvm.Cond.methodLink "LateFallsLaw" (145 : Nat) ({ cls := "LateFalls", name := "feed", desc := "(IIIII)I" } : Jvm.MethodName)) ∈ wA := wA_of_2 108 rfl rfl
set_option maxRecDepth 100000 in
theorem wd_349 : (Jvm.Cond.instanceMethod ({ cls := "LateFalls", name := "feed", desc := "(IIIII)I" } : Jvm.MethodName)) ∈ wA := wA_of_2 109 rfl rfl
set_option maxRecDepth 100000 in
theorem wd_350 : (Jvm.Cond.selects "LateFalls" ({ cls := "LateFalls", name := "feed", desc := "(IIIII)I" } : Jvm.MethodName) ({ cls := "LateFalls", name := "feed", desc := "(IIIII)I" } : Jvm.MethodName)) ∈ wA := wA_of_2 110 rfl rfl
set_option maxRecDepth 100000 in
theorem wd_351 : (Jvm.Cond.code ({ cls := "LateFalls", name := "feed", desc := "(IIIII)I" } : Jvm.MethodName) prog_1_method_2_code (6 : Nat) (Option.some Jvm.ClassFile.FieldType.int)) ∈ wA := wA_of_2 111 rfl rfl
set_option maxRecDepth 100000 in
theorem wd_352 : (Jvm.Cond.methodLink "LateFalls" (79 : Nat) ({ cls := "LateFalls", name := "putBytes", desc := "(I)V" } : Jvm.MethodName)) ∈ wA := wA_of_2 112 rfl rfl
set_option maxRecDepth 100000 in
theorem wd_354 : (Jvm.Cond.instanceMethod ({ cls := "LateFalls", name := "putBytes", desc := "(I)V" } : Jvm.MethodName)) ∈ wA := wA_of_2 114 rfl rfl
set_option maxRecDepth 100000 in
theorem wd_355 : (Jvm.Cond.code ({ cls := "LateFalls", name := "putBytes", desc := "(I)V" } : Jvm.MethodName) prog_1_method_3_code (3 : Nat) (Option.none : Option Jvm.ClassFile.FieldType)) ∈ wA := wA_of_2 115 rfl rfl
set_option maxRecDepth 100000 in
theorem wd_356 : (Jvm.Cond.methodLink "LateFallsLaw" (156 : Nat) ({ cls := "LateFalls", name := "fault", desc := "(I)I" } : Jvm.MethodName)) ∈ wA := wA_of_2 116 rfl rfl
set_option maxRecDepth 100000 in
theorem wd_357 : (Jvm.Cond.instanceMethod ({ cls := "LateFalls", name := "fault", desc := "(I)I" } : Jvm.MethodName)) ∈ wA := wA_of_2 117 rfl rfl
set_option maxRecDepth 100000 in
theorem wd_358 : (Jvm.Cond.selects "LateFalls" ({ cls := "LateFalls", name := "fault", desc := "(I)I" } : Jvm.MethodName) ({ cls := "LateFalls", name := "fault", desc := "(I)I" } : Jvm.MethodName)) ∈ wA := wA_of_2 118 rfl rfl
set_option maxRecDepth 100000 in
theorem wd_359 : (Jvm.Cond.code ({ cls := "LateFalls", name := "fault", desc := "(I)I" } : Jvm.MethodName) prog_1_method_5_code (2 : Nat) (Option.some Jvm.ClassFile.FieldType.int)) ∈ wA := wA_of_2 119 rfl rfl
set_option maxRecDepth 100000 in
theorem wd_360 : (Jvm.Cond.methodLink "LateFallsLaw" (177 : Nat) ({ cls := "LateFalls", name := "letGo", desc := "(III)I" } : Jvm.MethodName)) ∈ wA := wA_of_2 120 rfl rfl
set_option maxRecDepth 100000 in
theorem wd_361 : (Jvm.Cond.instanceMethod ({ cls := "LateFalls", name := "letGo", desc := "(III)I" } : Jvm.MethodName)) ∈ wA := wA_of_2 121 rfl rfl
set_option maxRecDepth 100000 in
theorem wd_362 : (Jvm.Cond.selects "LateFalls" ({ cls := "LateFalls", name := "letGo", desc := "(III)I" } : Jvm.MethodName) ({ cls := "LateFalls", name := "letGo", desc := "(III)I" } : Jvm.MethodName)) ∈ wA := wA_of_2 122 rfl rfl
set_option maxRecDepth 100000 in
theorem wd_363 : (Jvm.Cond.code ({ cls := "LateFalls", name := "letGo", desc := "(III)I" } : Jvm.MethodName) prog_1_method_16_code (5 : Nat) (Option.some Jvm.ClassFile.FieldType.int)) ∈ wA := wA_of_2 123 rfl rfl
set_option maxRecDepth 100000 in
theorem wd_364 : (Jvm.Cond.methodLink "LateFalls" (204 : Nat) ({ cls := "LateFalls$Scene", name := "whyNotLetGo", desc := "(III)I" } : Jvm.MethodName)) ∈ wA := wA_of_2 124 rfl rfl
set_option maxRecDepth 100000 in
theorem wd_365 : (Jvm.Cond.instanceMethod ({ cls := "LateFalls$Scene", name := "whyNotLetGo", desc := "(III)I" } : Jvm.MethodName)) ∈ wA := wA_of_2 125 rfl rfl
set_option maxRecDepth 100000 in
theorem wd_366 : (Jvm.Cond.selects "LateFalls$Scene" ({ cls := "LateFalls$Scene", name := "whyNotLetGo", desc := "(III)I" } : Jvm.MethodName) ({ cls := "LateFalls$Scene", name := "whyNotLetGo", desc := "(III)I" } : Jvm.MethodName)) ∈ wA := wA_of_2 126 rfl rfl
set_option maxRecDepth 100000 in
theorem wd_367 : (Jvm.Cond.code ({ cls := "LateFalls$Scene", name := "whyNotLetGo", desc := "(III)I" } : Jvm.MethodName) prog_8_method_10_code (4 : Nat) (Option.some Jvm.ClassFile.FieldType.int)) ∈ wA := wA_of_2 127 rfl rfl
set_option maxRecDepth 100000 in
theorem wd_368 : (Jvm.Cond.methodLink "LateFalls$Scene" (63 : Nat) ({ cls := "LateFalls$District", name := "hasPlace", desc := "(II)Z" } : Jvm.MethodName)) ∈ wA := wA_of_2 128 rfl rfl
set_option maxRecDepth 100000 in
theorem wd_369 : (Jvm.Cond.instanceMethod ({ cls := "LateFalls$District", name := "hasPlace", desc := "(II)Z" } : Jvm.MethodName)) ∈ wA := wA_of_2 129 rfl rfl
set_option maxRecDepth 100000 in
theorem wd_370 : (Jvm.Cond.selects "LateFalls$District" ({ cls := "LateFalls$District", name := "hasPlace", desc := "(II)Z" } : Jvm.MethodName) ({ cls := "LateFalls$District", name := "hasPlace", desc := "(II)Z" } : Jvm.MethodName)) ∈ wA := wA_of_2 130 rfl rfl
set_option maxRecDepth 100000 in
theorem wd_371 : (Jvm.Cond.code ({ cls := "LateFalls$District", name := "hasPlace", desc := "(II)Z" } : Jvm.MethodName) prog_2_method_2_code (3 : Nat) (Option.some Jvm.ClassFile.FieldType.boolean)) ∈ wA := wA_of_2 131 rfl rfl
set_option maxRecDepth 100000 in
theorem wd_372 : (Jvm.Cond.methodLink "LateFalls$Scene" (67 : Nat) ({ cls := "LateFalls$Scene", name := "isFree", desc := "(II)Z" } : Jvm.MethodName)) ∈ wA := wA_of_2 132 rfl rfl
set_option maxRecDepth 100000 in
theorem wd_373 : (Jvm.Cond.instanceMethod ({ cls := "LateFalls$Scene", name := "isFree", desc := "(II)Z" } : Jvm.MethodName)) ∈ wA := wA_of_2 133 rfl rfl
set_option maxRecDepth 100000 in
theorem wd_374 : (Jvm.Cond.selects "LateFalls$Scene" ({ cls := "LateFalls$Scene", name := "isFree", desc := "(II)Z" } : Jvm.MethodName) ({ cls := "LateFalls$Scene", name := "isFree", desc := "(II)Z" } : Jvm.MethodName)) ∈ wA := wA_of_2 134 rfl rfl
set_option maxRecDepth 100000 in
theorem wd_375 : (Jvm.Cond.code ({ cls := "LateFalls$Scene", name := "isFree", desc := "(II)Z" } : Jvm.MethodName) prog_8_method_9_code (3 : Nat) (Option.some Jvm.ClassFile.FieldType.boolean)) ∈ wA := wA_of_2 135 rfl rfl
set_option maxRecDepth 100000 in
theorem wd_376 : (Jvm.Cond.methodLink "LateFalls$Scene" (55 : Nat) ({ cls := "LateFalls$Scene", name := "lying", desc := "(I)I" } : Jvm.MethodName)) ∈ wA := wA_of_2 136 rfl rfl
set_option maxRecDepth 100000 in
theorem wd_377 : (Jvm.Cond.instanceMethod ({ cls := "LateFalls$Scene", name := "lying", desc := "(I)I" } : Jvm.MethodName)) ∈ wA := wA_of_2 137 rfl rfl
set_option maxRecDepth 100000 in
theorem wd_378 : (Jvm.Cond.selects "LateFalls$Scene" ({ cls := "LateFalls$Scene", name := "lying", desc := "(I)I" } : Jvm.MethodName) ({ cls := "LateFalls$Scene", name := "lying", desc := "(I)I" } : Jvm.MethodName)) ∈ wA := wA_of_2 138 rfl rfl
set_option maxRecDepth 100000 in
theorem wd_379 : (Jvm.Cond.code ({ cls := "LateFalls$Scene", name := "lying", desc := "(I)I" } : Jvm.MethodName) prog_8_method_4_code (4 : Nat) (Option.some Jvm.ClassFile.FieldType.int)) ∈ wA := wA_of_2 139 rfl rfl
set_option maxRecDepth 100000 in
theorem wd_380 : (Jvm.Cond.methodLink "LateFalls$Scene" (59 : Nat) ({ cls := "LateFalls$Scene", name := "thingAt", desc := "(II)I" } : Jvm.MethodName)) ∈ wA := wA_of_2 140 rfl rfl
set_option maxRecDepth 100000 in
theorem wd_381 : (Jvm.Cond.instanceMethod ({ cls := "LateFalls$Scene", name := "thingAt", desc := "(II)I" } : Jvm.MethodName)) ∈ wA := wA_of_2 141 rfl rfl
set_option maxRecDepth 100000 in
theorem wd_382 : (Jvm.Cond.selects "LateFalls$Scene" ({ cls := "LateFalls$Scene", name := "thingAt", desc := "(II)I" } : Jvm.MethodName) ({ cls := "LateFalls$Scene", name := "thingAt", desc := "(II)I" } : Jvm.MethodName)) ∈ wA := wA_of_2 142 rfl rfl
set_option maxRecDepth 100000 in
theorem wd_383 : (Jvm.Cond.code ({ cls := "LateFalls$Scene", name := "thingAt", desc := "(II)I" } : Jvm.MethodName) prog_8_method_5_code (4 : Nat) (Option.some Jvm.ClassFile.FieldType.int)) ∈ wA := wA_of_2 143 rfl rfl
set_option maxRecDepth 100000 in
theorem wd_384 : (Jvm.Cond.methodLink "LateFalls" (208 : Nat) ({ cls := "LateFalls$History", name := "keep", desc := "(LLateFalls$Scene;)V" } : Jvm.MethodName)) ∈ wA := wA_of_2 144 rfl rfl
set_option maxRecDepth 100000 in
theorem wd_385 : (Jvm.Cond.instanceMethod ({ cls := "LateFalls$History", name := "keep", desc := "(LLateFalls$Scene;)V" } : Jvm.MethodName)) ∈ wA := wA_of_2 145 rfl rfl
set_option maxRecDepth 100000 in
theorem wd_386 : (Jvm.Cond.selects "LateFalls$History" ({ cls := "LateFalls$History", name := "keep", desc := "(LLateFalls$Scene;)V" } : Jvm.MethodName) ({ cls := "LateFalls$History", name := "keep", desc := "(LLateFalls$Scene;)V" } : Jvm.MethodName)) ∈ wA := wA_of_2 146 rfl rfl
set_option maxRecDepth 100000 in
theorem wd_387 : (Jvm.Cond.code ({ cls := "LateFalls$History", name := "keep", desc := "(LLateFalls$Scene;)V" } : Jvm.MethodName) prog_4_method_3_code (2 : Nat) (Option.none : Option Jvm.ClassFile.FieldType)) ∈ wA := wA_of_2 147 rfl rfl
set_option maxRecDepth 100000 in
theorem wd_388 : (Jvm.Cond.methodLink "LateFalls$History" (27 : Nat) ({ cls := "LateFalls$Scene", name := "copyFrom", desc := "(LLateFalls$Scene;)V" } : Jvm.MethodName)) ∈ wA := wA_of_2 148 rfl rfl
set_option maxRecDepth 100000 in
theorem wd_389 : (Jvm.Cond.instanceMethod ({ cls := "LateFalls$Scene", name := "copyFrom", desc := "(LLateFalls$Scene;)V" } : Jvm.MethodName)) ∈ wA := wA_of_2 149 rfl rfl
set_option maxRecDepth 100000 in
theorem wd_390 : (Jvm.Cond.selects "LateFalls$Scene" ({ cls := "LateFalls$Scene", name := "copyFrom", desc := "(LLateFalls$Scene;)V" } : Jvm.MethodName) ({ cls := "LateFalls$Scene", name := "copyFrom", desc := "(LLateFalls$Scene;)V" } : Jvm.MethodName)) ∈ wA := wA_of_2 150 rfl rfl
set_option maxRecDepth 100000 in
theorem wd_391 : (Jvm.Cond.code ({ cls := "LateFalls$Scene", name := "copyFrom", desc := "(LLateFalls$Scene;)V" } : Jvm.MethodName) prog_8_method_3_code (2 : Nat) (Option.none : Option Jvm.ClassFile.FieldType)) ∈ wA := wA_of_2 151 rfl rfl
set_option maxRecDepth 100000 in
theorem wd_392 : (Jvm.Cond.methodLink "LateFalls$Scene" (38 : Nat) ({ cls := "java/lang/System", name := "arraycopy", desc := "(Ljava/lang/Object;ILjava/lang/Object;II)V" } : Jvm.MethodName)) ∈ wA := wA_of_2 152 rfl rfl
set_option maxRecDepth 100000 in
theorem wd_393 : (Jvm.Cond.static ({ cls := "java/lang/System", name := "arraycopy", desc := "(Ljava/lang/Object;ILjava/lang/Object;II)V" } : Jvm.MethodName)) ∈ wA := wA_of_2 153 rfl rfl
set_option maxRecDepth 100000 in
theorem wd_394 : (Jvm.Cond.native ({ cls := "java/lang/System", name := "arraycopy", desc := "(Ljava/lang/Object;ILjava/lang/Object;II)V" } : Jvm.MethodName)) ∈ wA := wA_of_2 154 rfl rfl
set_option maxRecDepth 100000 in
theorem wd_395 : (Jvm.Cond.methodLink "LateFalls" (211 : Nat) ({ cls := "LateFalls$Scene", name := "release", desc := "(III)I" } : Jvm.MethodName)) ∈ wA := wA_of_2 155 rfl rfl
set_option maxRecDepth 100000 in
theorem wd_396 : (Jvm.Cond.instanceMethod ({ cls := "LateFalls$Scene", name := "release", desc := "(III)I" } : Jvm.MethodName)) ∈ wA := wA_of_2 156 rfl rfl
set_option maxRecDepth 100000 in
theorem wd_397 : (Jvm.Cond.selects "LateFalls$Scene" ({ cls := "LateFalls$Scene", name := "release", desc := "(III)I" } : Jvm.MethodName) ({ cls := "LateFalls$Scene", name := "release", desc := "(III)I" } : Jvm.MethodName)) ∈ wA := wA_of_2 157 rfl rfl
set_option maxRecDepth 100000 in
theorem wd_398 : (Jvm.Cond.code ({ cls := "LateFalls$Scene", name := "release", desc := "(III)I" } : Jvm.MethodName) prog_8_method_12_code (5 : Nat) (Option.some Jvm.ClassFile.FieldType.int)) ∈ wA := wA_of_2 158 rfl rfl
set_option maxRecDepth 100000 in
theorem wd_399 : (Jvm.Cond.methodLink "LateFalls$Scene" (70 : Nat) ({ cls := "LateFalls$District", name := "hangTime", desc := "(IIIIII)I" } : Jvm.MethodName)) ∈ wA := wA_of_2 159 rfl rfl
set_option maxRecDepth 100000 in
theorem wd_400 : (Jvm.Cond.instanceMethod ({ cls := "LateFalls$District", name := "hangTime", desc := "(IIIIII)I" } : Jvm.MethodName)) ∈ wA := wA_of_2 160 rfl rfl
set_option maxRecDepth 100000 in
theorem wd_401 : (Jvm.Cond.selects "LateFalls$District" ({ cls := "LateFalls$District", name := "hangTime", desc := "(IIIIII)I" } : Jvm.MethodName) ({ cls := "LateFalls$District", name := "hangTime", desc := "(IIIIII)I" } : Jvm.MethodName)) ∈ wA := wA_of_2 161 rfl rfl
set_option maxRecDepth 100000 in
theorem wd_402 : (Jvm.Cond.code ({ cls := "LateFalls$District", name := "hangTime", desc := "(IIIIII)I" } : Jvm.MethodName) prog_2_method_5_code (8 : Nat) (Option.some Jvm.ClassFile.FieldType.int)) ∈ wA := wA_of_2 162 rfl rfl
set_option maxRecDepth 100000 in
theorem wd_403 : (Jvm.Cond.methodLink "LateFalls$District" (31 : Nat) ({ cls := "java/lang/Math", name := "floorMod", desc := "(II)I" } : Jvm.MethodName)) ∈ wA := wA_of_2 163 rfl rfl
set_option maxRecDepth 100000 in
theorem wd_404 : (Jvm.Cond.static ({ cls := "java/lang/Math", name := "floorMod", desc := "(II)I" } : Jvm.MethodName)) ∈ wA := wA_of_2 164 rfl rfl
set_option maxRecDepth 100000 in
theorem wd_405 : (Jvm.Cond.code ({ cls := "java/lang/Math", name := "floorMod", desc := "(II)I" } : Jvm.MethodName) prog_23_method_50_code (3 : Nat) (Option.some Jvm.ClassFile.FieldType.int)) ∈ wA := wA_of_2 165 rfl rfl
set_option maxRecDepth 100000 in
theorem wd_406 : (Jvm.Cond.methodLink "LateFalls$District" (49 : Nat) ({ cls := "LateFalls$Law", name := "value", desc := "()I" } : Jvm.MethodName)) ∈ wA := wA_of_2 166 rfl rfl
set_option maxRecDepth 100000 in
theorem wd_407 : (Jvm.Cond.instanceMethod ({ cls := "LateFalls$Law", name := "value", desc := "()I" } : Jvm.MethodName)) ∈ wA := wA_of_2 167 rfl rfl
set_option maxRecDepth 100000 in
theorem wd_408 : (Jvm.Cond.selects "LateFalls$Law" ({ cls := "LateFalls$Law", name := "value", desc := "()I" } : Jvm.MethodName) ({ cls := "LateFalls$Law", name := "value", desc := "()I" } : Jvm.MethodName)) ∈ wA := wA_of_2 168 rfl rfl
set_option maxRecDepth 100000 in
theorem wd_409 : (Jvm.Cond.code ({ cls := "LateFalls$Law", name := "value", desc := "()I" } : Jvm.MethodName) prog_6_method_2_code (6 : Nat) (Option.some Jvm.ClassFile.FieldType.int)) ∈ wA := wA_of_2 169 rfl rfl
set_option maxRecDepth 100000 in
theorem wd_410 : (Jvm.Cond.methodLink "LateFalls$Law" (34 : Nat) ({ cls := "LateFalls$Law", name := "join", desc := "(IJJ)J" } : Jvm.MethodName)) ∈ wA := wA_of_2 170 rfl rfl
set_option maxRecDepth 100000 in
theorem wd_411 : (Jvm.Cond.static ({ cls := "LateFalls$Law", name := "join", desc := "(IJJ)J" } : Jvm.MethodName)) ∈ wA := wA_of_2 171 rfl rfl
set_option maxRecDepth 100000 in
theorem wd_412 : (Jvm.Cond.code ({ cls := "LateFalls$Law", name := "join", desc := "(IJJ)J" } : Jvm.MethodName) prog_6_method_3_code (5 : Nat) (Option.some Jvm.ClassFile.FieldType.long)) ∈ wA := wA_of_2 172 rfl rfl
set_option maxRecDepth 100000 in
theorem wd_413 : (Jvm.Cond.constantLong "LateFalls$Law" (38 : Nat) (-1000000 : Int64)) ∈ wA := wA_of_2 173 rfl rfl
set_option maxRecDepth 100000 in
theorem wd_414 : (Jvm.Cond.constantLong "LateFalls$Law" (40 : Nat) (1000000 : Int64)) ∈ wA := wA_of_2 174 rfl rfl
set_option maxRecDepth 100000 in
theorem wd_415 : (Jvm.Cond.methodLink "LateFalls$Law" (42 : Nat) ({ cls := "java/lang/Math", name := "min", desc := "(JJ)J" } : Jvm.MethodName)) ∈ wA := wA_of_2 175 rfl rfl
set_option maxRecDepth 100000 in
theorem wd_416 : (Jvm.Cond.static ({ cls := "java/lang/Math", name := "min", desc := "(JJ)J" } : Jvm.MethodName)) ∈ wA := wA_of_2 176 rfl rfl
set_option maxRecDepth 100000 in
theorem wd_417 : (Jvm.Cond.code ({ cls := "java/lang/Math", name := "min", desc := "(JJ)J" } : Jvm.MethodName) prog_23_method_70_code (4 : Nat) (Option.some Jvm.ClassFile.FieldType.long)) ∈ wA := wA_of_2 177 rfl rfl
set_option maxRecDepth 100000 in
theorem wd_418 : (Jvm.Cond.methodLink "LateFalls$Law" (45 : Nat) ({ cls := "java/lang/Math", name := "max", desc := "(JJ)J" } : Jvm.MethodName)) ∈ wA := wA_of_2 178 rfl rfl
set_option maxRecDepth 100000 in
theorem wd_419 : (Jvm.Cond.static ({ cls := "java/lang/Math", name := "max", desc := "(JJ)J" } : Jvm.MethodName)) ∈ wA := wA_of_2 179 rfl rfl
set_option maxRecDepth 100000 in
theorem wd_420 : (Jvm.Cond.code ({ cls := "java/lang/Math", name := "max", desc := "(JJ)J" } : Jvm.MethodName) prog_23_method_66_code (4 : Nat) (Option.some Jvm.ClassFile.FieldType.long)) ∈ wA := wA_of_2 180 rfl rfl
set_option maxRecDepth 100000 in
theorem wd_421 : (Jvm.Cond.methodLink "LateFalls$Law" (16 : Nat) ({ cls := "java/lang/Math", name := "min", desc := "(II)I" } : Jvm.MethodName)) ∈ wA := wA_of_2 181 rfl rfl
set_option maxRecDepth 100000 in
theorem wd_422 : (Jvm.Cond.static ({ cls := "java/lang/Math", name := "min", desc := "(II)I" } : Jvm.MethodName)) ∈ wA := wA_of_2 182 rfl rfl
set_option maxRecDepth 100000 in
theorem wd_423 : (Jvm.Cond.code ({ cls := "java/lang/Math", name := "min", desc := "(II)I" } : Jvm.MethodName) prog_23_method_69_code (2 : Nat) (Option.some Jvm.ClassFile.FieldType.int)) ∈ wA := wA_of_2 183 rfl rfl
set_option maxRecDepth 100000 in
theorem wd_424 : (Jvm.Cond.methodLink "LateFalls$District" (53 : Nat) ({ cls := "java/lang/Math", name := "min", desc := "(II)I" } : Jvm.MethodName)) ∈ wA := wA_of_2 184 rfl rfl
set_option maxRecDepth 100000 in
theorem wd_425 : (Jvm.Cond.methodLink "LateFalls$District" (56 : Nat) ({ cls := "java/lang/Math", name := "max", desc := "(II)I" } : Jvm.MethodName)) ∈ wA := wA_of_2 185 rfl rfl
set_option maxRecDepth 100000 in
theorem wd_426 : (Jvm.Cond.static ({ cls := "java/lang/Math", name := "max", desc := "(II)I" } : Jvm.MethodName)) ∈ wA := wA_of_2 186 rfl rfl
set_option maxRecDepth 100000 in
theorem wd_427 : (Jvm.Cond.code ({ cls := "java/lang/Math", name := "max", desc := "(II)I" } : Jvm.MethodName) prog_23_method_65_code (2 : Nat) (Option.some Jvm.ClassFile.FieldType.int)) ∈ wA := wA_of_2 187 rfl rfl
set_option maxRecDepth 100000 in
theorem wd_428 : (Jvm.Cond.methodLink "LateFalls$Scene" (74 : Nat) ({ cls := "LateFalls$Scene", name := "drop", desc := "(II)V" } : Jvm.MethodName)) ∈ wA := wA_of_2 188 rfl rfl
set_option maxRecDepth 100000 in
theorem wd_430 : (Jvm.Cond.instanceMethod ({ cls := "LateFalls$Scene", name := "drop", desc := "(II)V" } : Jvm.MethodName)) ∈ wA := wA_of_2 190 rfl rfl
set_option maxRecDepth 100000 in
theorem wd_431 : (Jvm.Cond.code ({ cls := "LateFalls$Scene", name := "drop", desc := "(II)V" } : Jvm.MethodName) prog_8_method_18_code (7 : Nat) (Option.none : Option Jvm.ClassFile.FieldType)) ∈ wA := wA_of_2 191 rfl rfl
set_option maxRecDepth 100000 in
theorem wd_432 : (Jvm.Cond.methodLink "LateFalls$Scene" (99 : Nat) ({ cls := "LateFalls$Scene", name := "falling", desc := "(II)I" } : Jvm.MethodName)) ∈ wA := wA_of_2 192 rfl rfl
set_option maxRecDepth 100000 in
theorem wd_433 : (Jvm.Cond.instanceMethod ({ cls := "LateFalls$Scene", name := "falling", desc := "(II)I" } : Jvm.MethodName)) ∈ wA := wA_of_2 193 rfl rfl
set_option maxRecDepth 100000 in
theorem wd_434 : (Jvm.Cond.selects "LateFalls$Scene" ({ cls := "LateFalls$Scene", name := "falling", desc := "(II)I" } : Jvm.MethodName) ({ cls := "LateFalls$Scene", name := "falling", desc := "(II)I" } : Jvm.MethodName)) ∈ wA := wA_of_2 194 rfl rfl
set_option maxRecDepth 100000 in
theorem wd_435 : (Jvm.Cond.code ({ cls := "LateFalls$Scene", name := "falling", desc := "(II)I" } : Jvm.MethodName) prog_8_method_19_code (8 : Nat) (Option.some Jvm.ClassFile.FieldType.int)) ∈ wA := wA_of_2 195 rfl rfl
set_option maxRecDepth 100000 in
theorem wd_436 : (Jvm.Cond.methodLink "LateFalls$Scene" (85 : Nat) ({ cls := "java/lang/Integer", name := "bitCount", desc := "(I)I" } : Jvm.MethodName)) ∈ wA := wA_of_2 196 rfl rfl
set_option maxRecDepth 100000 in
theorem wd_437 : (Jvm.Cond.static ({ cls := "java/lang/Integer", name := "bitCount", desc := "(I)I" } : Jvm.MethodName)) ∈ wA := wA_of_2 197 rfl rfl
set_option maxRecDepth 100000 in
theorem wd_438 : (Jvm.Cond.code ({ cls := "java/lang/Integer", name := "bitCount", desc := "(I)I" } : Jvm.MethodName) prog_22_method_49_code (1 : Nat) (Option.some Jvm.ClassFile.FieldType.int)) ∈ wA := wA_of_2 198 rfl rfl
set_option maxRecDepth 100000 in
theorem wd_439 : (Jvm.Cond.constant "java/lang/Integer" (265 : Nat) (1431655765 : Int32)) ∈ wA := wA_of_2 199 rfl rfl
set_option maxRecDepth 100000 in
theorem wd_440 : (Jvm.Cond.constant "java/lang/Integer" (266 : Nat) (858993459 : Int32)) ∈ wA := wA_of_2 200 rfl rfl
set_option maxRecDepth 100000 in
theorem wd_441 : (Jvm.Cond.constant "java/lang/Integer" (267 : Nat) (252645135 : Int32)) ∈ wA := wA_of_2 201 rfl rfl
set_option maxRecDepth 100000 in
theorem wd_442 : (Jvm.Cond.methodLink "LateFalls$Scene" (111 : Nat) ({ cls := "LateFalls$Scene", name := "isFreed", desc := "(II)Z" } : Jvm.MethodName)) ∈ wA := wA_of_2 202 rfl rfl
set_option maxRecDepth 100000 in
theorem wd_444 : (Jvm.Cond.instanceMethod ({ cls := "LateFalls$Scene", name := "isFreed", desc := "(II)Z" } : Jvm.MethodName)) ∈ wA := wA_of_2 204 rfl rfl
set_option maxRecDepth 100000 in
theorem wd_445 : (Jvm.Cond.code ({ cls := "LateFalls$Scene", name := "isFreed", desc := "(II)Z" } : Jvm.MethodName) prog_8_method_20_code (5 : Nat) (Option.some Jvm.ClassFile.FieldType.boolean)) ∈ wA := wA_of_2 205 rfl rfl
set_option maxRecDepth 100000 in
theorem wd_446 : (Jvm.Cond.methodLink "LateFalls$Scene" (123 : Nat) ({ cls := "java/lang/Math", name := "floorMod", desc := "(II)I" } : Jvm.MethodName)) ∈ wA := wA_of_2 206 rfl rfl
set_option maxRecDepth 100000 in
theorem wd_447 : (Jvm.Cond.methodLink "LateFalls$Scene" (126 : Nat) ({ cls := "LateFalls$Law", name := "value", desc := "()I" } : Jvm.MethodName)) ∈ wA := wA_of_2 207 rfl rfl
set_option maxRecDepth 100000 in
theorem wd_448 : (Jvm.Cond.methodLink "LateFalls$Scene" (105 : Nat) ({ cls := "LateFalls$Scene", name := "weightOf", desc := "(II)I" } : Jvm.MethodName)) ∈ wA := wA_of_2 208 rfl rfl
set_option maxRecDepth 100000 in
theorem wd_449 : (Jvm.Cond.instanceMethod ({ cls := "LateFalls$Scene", name := "weightOf", desc := "(II)I" } : Jvm.MethodName)) ∈ wA := wA_of_2 209 rfl rfl
set_option maxRecDepth 100000 in
theorem wd_450 : (Jvm.Cond.selects "LateFalls$Scene" ({ cls := "LateFalls$Scene", name := "weightOf", desc := "(II)I" } : Jvm.MethodName) ({ cls := "LateFalls$Scene", name := "weightOf", desc := "(II)I" } : Jvm.MethodName)) ∈ wA := wA_of_2 210 rfl rfl
set_option maxRecDepth 100000 in
theorem wd_451 : (Jvm.Cond.code ({ cls := "LateFalls$Scene", name := "weightOf", desc := "(II)I" } : Jvm.MethodName) prog_8_method_8_code (5 : Nat) (Option.some Jvm.ClassFile.FieldType.int)) ∈ wA := wA_of_2 211 rfl rfl
set_option maxRecDepth 100000 in
theorem wd_452 : (Jvm.Cond.methodLink "LateFalls$Scene" (108 : Nat) ({ cls := "LateFalls$District", name := "walkerColumn", desc := "(II)I" } : Jvm.MethodName)) ∈ wA := wA_of_2 212 rfl rfl
set_option maxRecDepth 100000 in
theorem wd_453 : (Jvm.Cond.instanceMethod ({ cls := "LateFalls$District", name := "walkerColumn", desc := "(II)I" } : Jvm.MethodName)) ∈ wA := wA_of_2 213 rfl rfl
set_option maxRecDepth 100000 in
theorem wd_454 : (Jvm.Cond.selects "LateFalls$District" ({ cls := "LateFalls$District", name := "walkerColumn", desc := "(II)I" } : Jvm.MethodName) ({ cls := "LateFalls$District", name := "walkerColumn", desc := "(II)I" } : Jvm.MethodName)) ∈ wA := wA_of_2 214 rfl rfl
set_option maxRecDepth 100000 in
theorem wd_455 : (Jvm.Cond.code ({ cls := "LateFalls$District", name := "walkerColumn", desc := "(II)I" } : Jvm.MethodName) prog_2_method_3_code (3 : Nat) (Option.some Jvm.ClassFile.FieldType.int)) ∈ wA := wA_of_2 215 rfl rfl
set_option maxRecDepth 100000 in
theorem wd_456 : (Jvm.Cond.methodLink "LateFallsLaw" (181 : Nat) ({ cls := "LateFalls", name := "take", desc := "(I)I" } : Jvm.MethodName)) ∈ wA := wA_of_2 216 rfl rfl
set_option maxRecDepth 100000 in
theorem wd_457 : (Jvm.Cond.instanceMethod ({ cls := "LateFalls", name := "take", desc := "(I)I" } : Jvm.MethodName)) ∈ wA := wA_of_2 217 rfl rfl
set_option maxRecDepth 100000 in
theorem wd_458 : (Jvm.Cond.selects "LateFalls" ({ cls := "LateFalls", name := "take", desc := "(I)I" } : Jvm.MethodName) ({ cls := "LateFalls", name := "take", desc := "(I)I" } : Jvm.MethodName)) ∈ wA := wA_of_2 218 rfl rfl
set_option maxRecDepth 100000 in
theorem wd_459 : (Jvm.Cond.code ({ cls := "LateFalls", name := "take", desc := "(I)I" } : Jvm.MethodName) prog_1_method_17_code (3 : Nat) (Option.some Jvm.ClassFile.FieldType.int)) ∈ wA := wA_of_2 219 rfl rfl
set_option maxRecDepth 100000 in
theorem wd_460 : (Jvm.Cond.methodLink "LateFalls" (214 : Nat) ({ cls := "LateFalls$Scene", name := "whyNotTake", desc := "(I)I" } : Jvm.MethodName)) ∈ wA := wA_of_2 220 rfl rfl
set_option maxRecDepth 100000 in
theorem wd_461 : (Jvm.Cond.instanceMethod ({ cls := "LateFalls$Scene", name := "whyNotTake", desc := "(I)I" } : Jvm.MethodName)) ∈ wA := wA_of_2 221 rfl rfl
set_option maxRecDepth 100000 in
theorem wd_462 : (Jvm.Cond.selects "LateFalls$Scene" ({ cls := "LateFalls$Scene", name := "whyNotTake", desc := "(I)I" } : Jvm.MethodName) ({ cls := "LateFalls$Scene", name := "whyNotTake", desc := "(I)I" } : Jvm.MethodName)) ∈ wA := wA_of_2 222 rfl rfl
set_option maxRecDepth 100000 in
theorem wd_463 : (Jvm.Cond.code ({ cls := "LateFalls$Scene", name := "whyNotTake", desc := "(I)I" } : Jvm.MethodName) prog_8_method_11_code (3 : Nat) (Option.some Jvm.ClassFile.FieldType.int)) ∈ wA := wA_of_2 223 rfl rfl
set_option maxRecDepth 100000 in
theorem wd_464 : (Jvm.Cond.methodLink "LateFalls" (217 : Nat) ({ cls := "LateFalls$Scene", name := "pickUp", desc := "(I)V" } : Jvm.MethodName)) ∈ wA := wA_of_2 224 rfl rfl
set_option maxRecDepth 100000 in
theorem wd_465 : (Jvm.Cond.instanceMethod ({ cls := "LateFalls$Scene", name := "pickUp", desc := "(I)V" } : Jvm.MethodName)) ∈ wA := wA_of_2 225 rfl rfl
set_option maxRecDepth 100000 in
theorem wd_466 : (Jvm.Cond.selects "LateFalls$Scene" ({ cls := "LateFalls$Scene", name := "pickUp", desc := "(I)V" } : Jvm.MethodName) ({ cls := "LateFalls$Scene", name := "pickUp", desc := "(I)V" } : Jvm.MethodName)) ∈ wA := wA_of_2 226 rfl rfl
set_option maxRecDepth 100000 in
theorem wd_467 : (Jvm.Cond.code ({ cls := "LateFalls$Scene", name := "pickUp", desc := "(I)V" } : Jvm.MethodName) prog_8_method_13_code (2 : Nat) (Option.none : Option Jvm.ClassFile.FieldType)) ∈ wA := wA_of_2 227 rfl rfl
set_option maxRecDepth 100000 in
theorem wd_468 : (Jvm.Cond.methodLink "LateFallsLaw" (185 : Nat) ({ cls := "LateFalls", name := "quake", desc := "()I" } : Jvm.MethodName)) ∈ wA := wA_of_2 228 rfl rfl
set_option maxRecDepth 100000 in
theorem wd_469 : (Jvm.Cond.instanceMethod ({ cls := "LateFalls", name := "quake", desc := "()I" } : Jvm.MethodName)) ∈ wA := wA_of_2 229 rfl rfl
set_option maxRecDepth 100000 in
theorem wd_470 : (Jvm.Cond.selects "LateFalls" ({ cls := "LateFalls", name := "quake", desc := "()I" } : Jvm.MethodName) ({ cls := "LateFalls", name := "quake", desc := "()I" } : Jvm.MethodName)) ∈ wA := wA_of_2 230 rfl rfl
set_option maxRecDepth 100000 in
theorem wd_471 : (Jvm.Cond.code ({ cls := "LateFalls", name := "quake", desc := "()I" } : Jvm.MethodName) prog_1_method_18_code (1 : Nat) (Option.some Jvm.ClassFile.FieldType.int)) ∈ wA := wA_of_2 231 rfl rfl
set_option maxRecDepth 100000 in
theorem wd_472 : (Jvm.Cond.methodLink "LateFalls" (220 : Nat) ({ cls := "LateFalls$Scene", name := "shake", desc := "()I" } : Jvm.MethodName)) ∈ wA := wA_of_2 232 rfl rfl
set_option maxRecDepth 100000 in
theorem wd_473 : (Jvm.Cond.instanceMethod ({ cls := "LateFalls$Scene", name := "shake", desc := "()I" } : Jvm.MethodName)) ∈ wA := wA_of_2 233 rfl rfl
set_option maxRecDepth 100000 in
theorem wd_474 : (Jvm.Cond.selects "LateFalls$Scene" ({ cls := "LateFalls$Scene", name := "shake", desc := "()I" } : Jvm.MethodName) ({ cls := "LateFalls$Scene", name := "shake", desc := "()I" } : Jvm.MethodName)) ∈ wA := wA_of_2 234 rfl rfl
set_option maxRecDepth 100000 in
theorem wd_475 : (Jvm.Cond.code ({ cls := "LateFalls$Scene", name := "shake", desc := "()I" } : Jvm.MethodName) prog_8_method_14_code (2 : Nat) (Option.some Jvm.ClassFile.FieldType.int)) ∈ wA := wA_of_2 235 rfl rfl
set_option maxRecDepth 100000 in
theorem wd_476 : (Jvm.Cond.constant "LateFalls$Scene" (81 : Nat) (2147483647 : Int32)) ∈ wA := wA_of_2 236 rfl rfl
set_option maxRecDepth 100000 in
theorem wd_477 : (Jvm.Cond.methodLink "LateFalls$Scene" (82 : Nat) ({ cls := "LateFalls$Scene", name := "dueIn", desc := "(II)I" } : Jvm.MethodName)) ∈ wA := wA_of_2 237 rfl rfl
set_option maxRecDepth 100000 in
theorem wd_479 : (Jvm.Cond.instanceMethod ({ cls := "LateFalls$Scene", name := "dueIn", desc := "(II)I" } : Jvm.MethodName)) ∈ wA := wA_of_2 239 rfl rfl
set_option maxRecDepth 100000 in
theorem wd_480 : (Jvm.Cond.code ({ cls := "LateFalls$Scene", name := "dueIn", desc := "(II)I" } : Jvm.MethodName) prog_8_method_17_code (5 : Nat) (Option.some Jvm.ClassFile.FieldType.int)) ∈ wA := wA_of_3 0 rfl rfl
set_option maxRecDepth 100000 in
theorem wd_481 : (Jvm.Cond.methodLink "LateFallsLaw" (214 : Nat) ({ cls := "LateFalls", name := "next", desc := "()I" } : Jvm.MethodName)) ∈ wA := wA_of_3 1 rfl rfl
set_option maxRecDepth 100000 in
theorem wd_482 : (Jvm.Cond.instanceMethod ({ cls := "LateFalls", name := "next", desc := "()I" } : Jvm.MethodName)) ∈ wA := wA_of_3 2 rfl rfl
set_option maxRecDepth 100000 in
theorem wd_483 : (Jvm.Cond.selects "LateFalls" ({ cls := "LateFalls", name := "next", desc := "()I" } : Jvm.MethodName) ({ cls := "LateFalls", name := "next", desc := "()I" } : Jvm.MethodName)) ∈ wA := wA_of_3 3 rfl rfl
set_option maxRecDepth 100000 in
theorem wd_484 : (Jvm.Cond.code ({ cls := "LateFalls", name := "next", desc := "()I" } : Jvm.MethodName) prog_1_method_31_code (1 : Nat) (Option.some Jvm.ClassFile.FieldType.int)) ∈ wA := wA_of_3 4 rfl rfl
set_option maxRecDepth 100000 in
theorem wd_485 : (Jvm.Cond.methodLink "LateFalls" (289 : Nat) ({ cls := "LateFalls$Forecast", name := "look", desc := "(LLateFalls$Scene;)V" } : Jvm.MethodName)) ∈ wA := wA_of_3 5 rfl rfl
set_option maxRecDepth 100000 in
theorem wd_486 : (Jvm.Cond.instanceMethod ({ cls := "LateFalls$Forecast", name := "look", desc := "(LLateFalls$Scene;)V" } : Jvm.MethodName)) ∈ wA := wA_of_3 6 rfl rfl
set_option maxRecDepth 100000 in
theorem wd_487 : (Jvm.Cond.selects "LateFalls$Forecast" ({ cls := "LateFalls$Forecast", name := "look", desc := "(LLateFalls$Scene;)V" } : Jvm.MethodName) ({ cls := "LateFalls$Forecast", name := "look", desc := "(LLateFalls$Scene;)V" } : Jvm.MethodName)) ∈ wA := wA_of_3 7 rfl rfl
set_option maxRecDepth 100000 in
theorem wd_488 : (Jvm.Cond.code ({ cls := "LateFalls$Forecast", name := "look", desc := "(LLateFalls$Scene;)V" } : Jvm.MethodName) prog_3_method_2_code (3 : Nat) (Option.none : Option Jvm.ClassFile.FieldType)) ∈ wA := wA_of_3 8 rfl rfl
set_option maxRecDepth 100000 in
theorem wd_489 : (Jvm.Cond.methodLink "LateFalls$Forecast" (27 : Nat) ({ cls := "LateFalls$Scene", name := "copyFrom", desc := "(LLateFalls$Scene;)V" } : Jvm.MethodName)) ∈ wA := wA_of_3 9 rfl rfl
set_option maxRecDepth 100000 in
theorem wd_490 : (Jvm.Cond.constant "LateFalls$Forecast" (41 : Nat) (2147483647 : Int32)) ∈ wA := wA_of_3 10 rfl rfl
set_option maxRecDepth 100000 in
theorem wd_491 : (Jvm.Cond.methodLink "LateFalls$Forecast" (42 : Nat) ({ cls := "LateFalls$Scene", name := "nextFall", desc := "(I)Z" } : Jvm.MethodName)) ∈ wA := wA_of_3 11 rfl rfl
set_option maxRecDepth 100000 in
theorem wd_492 : (Jvm.Cond.instanceMethod ({ cls := "LateFalls$Scene", name := "nextFall", desc := "(I)Z" } : Jvm.MethodName)) ∈ wA := wA_of_3 12 rfl rfl
set_option maxRecDepth 100000 in
theorem wd_493 : (Jvm.Cond.selects "LateFalls$Scene" ({ cls := "LateFalls$Scene", name := "nextFall", desc := "(I)Z" } : Jvm.MethodName) ({ cls := "LateFalls$Scene", name := "nextFall", desc := "(I)Z" } : Jvm.MethodName)) ∈ wA := wA_of_3 13 rfl rfl
set_option maxRecDepth 100000 in
theorem wd_494 : (Jvm.Cond.code ({ cls := "LateFalls$Scene", name := "nextFall", desc := "(I)Z" } : Jvm.MethodName) prog_8_method_16_code (4 : Nat) (Option.some Jvm.ClassFile.FieldType.boolean)) ∈ wA := wA_of_3 14 rfl rfl
set_option maxRecDepth 100000 in
theorem wd_495 : (Jvm.Cond.methodLink "LateFalls$Scene" (94 : Nat) ({ cls := "java/lang/Math", name := "min", desc := "(II)I" } : Jvm.MethodName)) ∈ wA := wA_of_3 15 rfl rfl
set_option maxRecDepth 100000 in
theorem wd_496 : (Jvm.Cond.methodLink "LateFallsLaw" (218 : Nat) ({ cls := "LateFalls", name := "busiest", desc := "()I" } : Jvm.MethodName)) ∈ wA := wA_of_3 16 rfl rfl
set_option maxRecDepth 100000 in
theorem wd_497 : (Jvm.Cond.instanceMethod ({ cls := "LateFalls", name := "busiest", desc := "()I" } : Jvm.MethodName)) ∈ wA := wA_of_3 17 rfl rfl
set_option maxRecDepth 100000 in
theorem wd_498 : (Jvm.Cond.selects "LateFalls" ({ cls := "LateFalls", name := "busiest", desc := "()I" } : Jvm.MethodName) ({ cls := "LateFalls", name := "busiest", desc := "()I" } : Jvm.MethodName)) ∈ wA := wA_of_3 18 rfl rfl
set_option maxRecDepth 100000 in
theorem wd_499 : (Jvm.Cond.code ({ cls := "LateFalls", name := "busiest", desc := "()I" } : Jvm.MethodName) prog_1_method_32_code (5 : Nat) (Option.some Jvm.ClassFile.FieldType.int)) ∈ wA := wA_of_3 19 rfl rfl
set_option maxRecDepth 100000 in
theorem wd_500 : (Jvm.Cond.methodLink "LateFalls" (304 : Nat) ({ cls := "java/lang/Integer", name := "bitCount", desc := "(I)I" } : Jvm.MethodName)) ∈ wA := wA_of_3 20 rfl rfl
set_option maxRecDepth 100000 in
theorem wd_501 : (Jvm.Cond.methodLink "LateFallsLaw" (270 : Nat) ({ cls := "LateFalls", name := "shelter", desc := "()I" } : Jvm.MethodName)) ∈ wA := wA_of_3 21 rfl rfl
set_option maxRecDepth 100000 in
theorem wd_502 : (Jvm.Cond.instanceMethod ({ cls := "LateFalls", name := "shelter", desc := "()I" } : Jvm.MethodName)) ∈ wA := wA_of_3 22 rfl rfl
set_option maxRecDepth 100000 in
theorem wd_503 : (Jvm.Cond.selects "LateFalls" ({ cls := "LateFalls", name := "shelter", desc := "()I" } : Jvm.MethodName) ({ cls := "LateFalls", name := "shelter", desc := "()I" } : Jvm.MethodName)) ∈ wA := wA_of_3 23 rfl rfl
set_option maxRecDepth 100000 in
theorem wd_504 : (Jvm.Cond.code ({ cls := "LateFalls", name := "shelter", desc := "()I" } : Jvm.MethodName) prog_1_method_51_code (6 : Nat) (Option.some Jvm.ClassFile.FieldType.int)) ∈ wA := wA_of_3 24 rfl rfl
set_option maxRecDepth 100000 in
theorem wd_505 : (Jvm.Cond.methodLink "LateFalls" (315 : Nat) ({ cls := "LateFalls$Forecast", name := "weightIn", desc := "(II)I" } : Jvm.MethodName)) ∈ wA := wA_of_3 25 rfl rfl
set_option maxRecDepth 100000 in
theorem wd_506 : (Jvm.Cond.instanceMethod ({ cls := "LateFalls$Forecast", name := "weightIn", desc := "(II)I" } : Jvm.MethodName)) ∈ wA := wA_of_3 26 rfl rfl
set_option maxRecDepth 100000 in
theorem wd_507 : (Jvm.Cond.selects "LateFalls$Forecast" ({ cls := "LateFalls$Forecast", name := "weightIn", desc := "(II)I" } : Jvm.MethodName) ({ cls := "LateFalls$Forecast", name := "weightIn", desc := "(II)I" } : Jvm.MethodName)) ∈ wA := wA_of_3 27 rfl rfl
set_option maxRecDepth 100000 in
theorem wd_508 : (Jvm.Cond.code ({ cls := "LateFalls$Forecast", name := "weightIn", desc := "(II)I" } : Jvm.MethodName) prog_3_method_4_code (3 : Nat) (Option.some Jvm.ClassFile.FieldType.int)) ∈ wA := wA_of_3 28 rfl rfl
set_option maxRecDepth 100000 in
theorem wd_509 : (Jvm.Cond.methodLink "LateFalls$Forecast" (48 : Nat) ({ cls := "LateFalls$Scene", name := "weightOf", desc := "(II)I" } : Jvm.MethodName)) ∈ wA := wA_of_3 29 rfl rfl
set_option maxRecDepth 100000 in
theorem wd_510 : (Jvm.Cond.methodLink "LateFalls" (363 : Nat) ({ cls := "java/lang/Math", name := "min", desc := "(II)I" } : Jvm.MethodName)) ∈ wA := wA_of_3 30 rfl rfl
set_option maxRecDepth 100000 in
theorem wd_511 : (Jvm.Cond.methodLink "LateFallsLaw" (306 : Nat) ({ cls := "LateFalls", name := "count", desc := "(I)I" } : Jvm.MethodName)) ∈ wA := wA_of_3 31 rfl rfl
set_option maxRecDepth 100000 in
theorem wd_512 : (Jvm.Cond.instanceMethod ({ cls := "LateFalls", name := "count", desc := "(I)I" } : Jvm.MethodName)) ∈ wA := wA_of_3 32 rfl rfl
set_option maxRecDepth 100000 in
theorem wd_513 : (Jvm.Cond.selects "LateFalls" ({ cls := "LateFalls", name := "count", desc := "(I)I" } : Jvm.MethodName) ({ cls := "LateFalls", name := "count", desc := "(I)I" } : Jvm.MethodName)) ∈ wA := wA_of_3 33 rfl rfl
set_option maxRecDepth 100000 in
theorem wd_514 : (Jvm.Cond.code ({ cls := "LateFalls", name := "count", desc := "(I)I" } : Jvm.MethodName) prog_1_method_62_code (3 : Nat) (Option.some Jvm.ClassFile.FieldType.int)) ∈ wA := wA_of_3 34 rfl rfl
set_option maxRecDepth 100000 in
theorem wd_515 : (Jvm.Cond.methodLink "LateFalls" (256 : Nat) ({ cls := "LateFalls$Scene", name := "countOf", desc := "(I)I" } : Jvm.MethodName)) ∈ wA := wA_of_3 35 rfl rfl
set_option maxRecDepth 100000 in
theorem wd_516 : (Jvm.Cond.instanceMethod ({ cls := "LateFalls$Scene", name := "countOf", desc := "(I)I" } : Jvm.MethodName)) ∈ wA := wA_of_3 36 rfl rfl
set_option maxRecDepth 100000 in
theorem wd_517 : (Jvm.Cond.selects "LateFalls$Scene" ({ cls := "LateFalls$Scene", name := "countOf", desc := "(I)I" } : Jvm.MethodName) ({ cls := "LateFalls$Scene", name := "countOf", desc := "(I)I" } : Jvm.MethodName)) ∈ wA := wA_of_3 37 rfl rfl
set_option maxRecDepth 100000 in
theorem wd_518 : (Jvm.Cond.code ({ cls := "LateFalls$Scene", name := "countOf", desc := "(I)I" } : Jvm.MethodName) prog_8_method_6_code (4 : Nat) (Option.some Jvm.ClassFile.FieldType.int)) ∈ wA := wA_of_3 38 rfl rfl
set_option maxRecDepth 100000 in
theorem wd_519 : (Jvm.Cond.methodLink "LateFalls" (259 : Nat) ({ cls := "LateFalls$Scene", name := "totalHurt", desc := "()I" } : Jvm.MethodName)) ∈ wA := wA_of_3 39 rfl rfl
set_option maxRecDepth 100000 in
theorem wd_520 : (Jvm.Cond.instanceMethod ({ cls := "LateFalls$Scene", name := "totalHurt", desc := "()I" } : Jvm.MethodName)) ∈ wA := wA_of_3 40 rfl rfl
set_option maxRecDepth 100000 in
theorem wd_521 : (Jvm.Cond.selects "LateFalls$Scene" ({ cls := "LateFalls$Scene", name := "totalHurt", desc := "()I" } : Jvm.MethodName) ({ cls := "LateFalls$Scene", name := "totalHurt", desc := "()I" } : Jvm.MethodName)) ∈ wA := wA_of_3 41 rfl rfl
set_option maxRecDepth 100000 in
theorem wd_522 : (Jvm.Cond.code ({ cls := "LateFalls$Scene", name := "totalHurt", desc := "()I" } : Jvm.MethodName) prog_8_method_7_code (3 : Nat) (Option.some Jvm.ClassFile.FieldType.int)) ∈ wA := wA_of_3 42 rfl rfl
set_option maxRecDepth 100000 in
theorem wd_523 : (Jvm.Cond.methodLink "LateFallsLaw" (150 : Nat) ({ cls := "LateFallsLaw", name := "district", desc := "(LLateFalls;I[J)I" } : Jvm.MethodName)) ∈ wA := wA_of_3 43 rfl rfl
set_option maxRecDepth 100000 in
theorem wd_524 : (Jvm.Cond.static ({ cls := "LateFallsLaw", name := "district", desc := "(LLateFalls;I[J)I" } : Jvm.MethodName)) ∈ wA := wA_of_3 44 rfl rfl
set_option maxRecDepth 100000 in
theorem wd_525 : (Jvm.Cond.codeWith ({ cls := "LateFallsLaw", name := "district", desc := "(LLateFalls;I[J)I" } : Jvm.MethodName) method_3_code (4 : Nat) (Option.some Jvm.ClassFile.FieldType.int) [((0 : Nat), (9 : Nat), (12 : Nat), (13 : Nat))]) ∈ wA := wA_of_3 45 rfl rfl
set_option maxRecDepth 100000 in
theorem wd_526 : (Jvm.Cond.classLink "LateFallsLaw" (13 : Nat) "java/lang/IllegalArgumentException") ∈ wA := wA_of_3 46 rfl rfl
set_option maxRecDepth 100000 in
theorem wd_527 : (Jvm.Cond.methodLink "LateFallsLaw" (7 : Nat) ({ cls := "LateFalls", name := "district", desc := "(I)I" } : Jvm.MethodName)) ∈ wA := wA_of_3 47 rfl rfl
set_option maxRecDepth 100000 in
theorem wd_528 : (Jvm.Cond.instanceMethod ({ cls := "LateFalls", name := "district", desc := "(I)I" } : Jvm.MethodName)) ∈ wA := wA_of_3 48 rfl rfl
set_option maxRecDepth 100000 in
theorem wd_529 : (Jvm.Cond.selects "LateFalls" ({ cls := "LateFalls", name := "district", desc := "(I)I" } : Jvm.MethodName) ({ cls := "LateFalls", name := "district", desc := "(I)I" } : Jvm.MethodName)) ∈ wA := wA_of_3 49 rfl rfl
set_option maxRecDepth 100000 in
theorem wd_530 : (Jvm.Cond.code ({ cls := "LateFalls", name := "district", desc := "(I)I" } : Jvm.MethodName) prog_1_method_4_code (2 : Nat) (Option.some Jvm.ClassFile.FieldType.int)) ∈ wA := wA_of_3 50 rfl rfl
set_option maxRecDepth 100000 in
theorem wd_531 : (Jvm.Cond.classLink "LateFalls" (83 : Nat) "java/lang/IllegalArgumentException") ∈ wA := wA_of_3 51 rfl rfl
set_option maxRecDepth 100000 in
theorem wd_532 : (Jvm.Cond.instantiable "java/lang/IllegalArgumentException" (6 : Nat)) ∈ wA := wA_of_3 52 rfl rfl
set_option maxRecDepth 100000 in
theorem wd_540 : (Jvm.Cond.selects "java/lang/IllegalArgumentException" ({ cls := "java/lang/Throwable", name := "fillInStackTrace", desc := "(I)Ljava/lang/Throwable;" } : Jvm.MethodName) ({ cls := "java/lang/Throwable", name := "fillInStackTrace", desc := "(I)Ljava/lang/Throwable;" } : Jvm.MethodName)) ∈ wA := wA_of_3 60 rfl rfl
set_option maxRecDepth 100000 in
theorem wd_541 : (Jvm.Cond.selects "java/lang/IllegalArgumentException" ({ cls := "java/lang/Throwable", name := "fillInStackTrace", desc := "()Ljava/lang/Throwable;" } : Jvm.MethodName) ({ cls := "java/lang/Throwable", name := "fillInStackTrace", desc := "()Ljava/lang/Throwable;" } : Jvm.MethodName)) ∈ wA := wA_of_3 61 rfl rfl
set_option maxRecDepth 100000 in
theorem wd_542 : (Jvm.Cond.lays "java/lang/IllegalArgumentException" "java/lang/Throwable" "cause" "Ljava/lang/Throwable;") ∈ wA := wA_of_3 62 rfl rfl
set_option maxRecDepth 100000 in
theorem wd_543 : (Jvm.Cond.lays "java/lang/Throwable" "java/lang/Throwable" "cause" "Ljava/lang/Throwable;") ∈ wA := wA_of_3 63 rfl rfl
set_option maxRecDepth 100000 in
theorem wd_544 : (Jvm.Cond.lays "java/lang/IllegalArgumentException" "java/lang/Throwable" "stackTrace" "[Ljava/lang/StackTraceElement;") ∈ wA := wA_of_3 64 rfl rfl
set_option maxRecDepth 100000 in
theorem wd_545 : (Jvm.Cond.lays "java/lang/Throwable" "java/lang/Throwable" "stackTrace" "[Ljava/lang/StackTraceElement;") ∈ wA := wA_of_3 65 rfl rfl
set_option maxRecDepth 100000 in
theorem wd_546 : (Jvm.Cond.lays "java/lang/IllegalArgumentException" "java/lang/Throwable" "suppressedExceptions" "Ljava/util/List;") ∈ wA := wA_of_3 66 rfl rfl
set_option maxRecDepth 100000 in
theorem wd_547 : (Jvm.Cond.lays "java/lang/Throwable" "java/lang/Throwable" "suppressedExceptions" "Ljava/util/List;") ∈ wA := wA_of_3 67 rfl rfl
set_option maxRecDepth 100000 in
theorem wd_548 : (Jvm.Cond.lays "java/lang/IllegalArgumentException" "java/lang/Throwable" "detailMessage" "Ljava/lang/String;") ∈ wA := wA_of_3 68 rfl rfl
set_option maxRecDepth 100000 in
theorem wd_549 : (Jvm.Cond.lays "java/lang/Throwable" "java/lang/Throwable" "detailMessage" "Ljava/lang/String;") ∈ wA := wA_of_3 69 rfl rfl
set_option maxRecDepth 100000 in
theorem wd_550 : (Jvm.Cond.lays "java/lang/IllegalArgumentException" "java/lang/Throwable" "backtrace" "Ljava/lang/Object;") ∈ wA := wA_of_3 70 rfl rfl
set_option maxRecDepth 100000 in
theorem wd_551 : (Jvm.Cond.lays "java/lang/Throwable" "java/lang/Throwable" "backtrace" "Ljava/lang/Object;") ∈ wA := wA_of_3 71 rfl rfl
set_option maxRecDepth 100000 in
theorem wd_552 : (Jvm.Cond.fieldLink "java/lang/Throwable" (198 : Nat) "java/lang/Throwable" "backtrace" "Ljava/lang/Object;") ∈ wA := wA_of_3 72 rfl rfl
set_option maxRecDepth 100000 in
theorem wd_554 : (Jvm.Cond.instanceMethod ({ cls := "java/lang/Throwable", name := "<init>", desc := "()V" } : Jvm.MethodName)) ∈ wA := wA_of_3 74 rfl rfl
set_option maxRecDepth 100000 in
theorem wd_555 : (Jvm.Cond.code ({ cls := "java/lang/Throwable", name := "<init>", desc := "()V" } : Jvm.MethodName) prog_29_method_1_code (1 : Nat) (Option.none : Option Jvm.ClassFile.FieldType)) ∈ wA := wA_of_3 75 rfl rfl
set_option maxRecDepth 100000 in
theorem wd_556 : (Jvm.Cond.methodLink "java/lang/Throwable" (1 : Nat) ({ cls := "java/lang/Object", name := "<init>", desc := "()V" } : Jvm.MethodName)) ∈ wA := wA_of_3 76 rfl rfl
set_option maxRecDepth 100000 in
theorem wd_557 : (Jvm.Cond.fieldLink "java/lang/Throwable" (13 : Nat) "java/lang/Throwable" "UNASSIGNED_STACK" "[Ljava/lang/StackTraceElement;") ∈ wA := wA_of_3 77 rfl rfl
set_option maxRecDepth 100000 in
theorem wd_559 : (Jvm.Cond.fieldLink "java/lang/Throwable" (20 : Nat) "java/lang/Throwable" "SUPPRESSED_SENTINEL" "Ljava/util/List;") ∈ wA := wA_of_3 79 rfl rfl
set_option maxRecDepth 100000 in
theorem wd_561 : (Jvm.Cond.methodLink "java/lang/Throwable" (27 : Nat) ({ cls := "java/lang/Throwable", name := "fillInStackTrace", desc := "()Ljava/lang/Throwable;" } : Jvm.MethodName)) ∈ wA := wA_of_3 81 rfl rfl
set_option maxRecDepth 100000 in
theorem wd_562 : (Jvm.Cond.instanceMethod ({ cls := "java/lang/Throwable", name := "fillInStackTrace", desc := "()Ljava/lang/Throwable;" } : Jvm.MethodName)) ∈ wA := wA_of_3 82 rfl rfl
set_option maxRecDepth 100000 in
theorem wd_564 : (Jvm.Cond.selects "java/lang/IllegalStateException" ({ cls := "java/lang/Throwable", name := "fillInStackTrace", desc := "()Ljava/lang/Throwable;" } : Jvm.MethodName) ({ cls := "java/lang/Throwable", name := "fillInStackTrace", desc := "()Ljava/lang/Throwable;" } : Jvm.MethodName)) ∈ wA := wA_of_3 84 rfl rfl
set_option maxRecDepth 100000 in
theorem wd_565 : (Jvm.Cond.selects "java/lang/IndexOutOfBoundsException" ({ cls := "java/lang/Throwable", name := "fillInStackTrace", desc := "()Ljava/lang/Throwable;" } : Jvm.MethodName) ({ cls := "java/lang/Throwable", name := "fillInStackTrace", desc := "()Ljava/lang/Throwable;" } : Jvm.MethodName)) ∈ wA := wA_of_3 85 rfl rfl
set_option maxRecDepth 100000 in
theorem wd_566 : (Jvm.Cond.selects "java/util/NoSuchElementException" ({ cls := "java/lang/Throwable", name := "fillInStackTrace", desc := "()Ljava/lang/Throwable;" } : Jvm.MethodName) ({ cls := "java/lang/Throwable", name := "fillInStackTrace", desc := "()Ljava/lang/Throwable;" } : Jvm.MethodName)) ∈ wA := wA_of_3 86 rfl rfl
set_option maxRecDepth 100000 in
theorem wd_567 : (Jvm.Cond.codeSync ({ cls := "java/lang/Throwable", name := "fillInStackTrace", desc := "()Ljava/lang/Throwable;" } : Jvm.MethodName) prog_29_method_18_code (1 : Nat) (Option.some (Jvm.ClassFile.FieldType.object "java/lang/Throwable"))) ∈ wA := wA_of_3 87 rfl rfl
set_option maxRecDepth 100000 in
theorem wd_568 : (Jvm.Cond.methodLink "java/lang/Throwable" (202 : Nat) ({ cls := "java/lang/Throwable", name := "fillInStackTrace", desc := "(I)Ljava/lang/Throwable;" } : Jvm.MethodName)) ∈ wA := wA_of_3 88 rfl rfl
set_option maxRecDepth 100000 in
theorem wd_570 : (Jvm.Cond.instanceMethod ({ cls := "java/lang/Throwable", name := "fillInStackTrace", desc := "(I)Ljava/lang/Throwable;" } : Jvm.MethodName)) ∈ wA := wA_of_3 90 rfl rfl
set_option maxRecDepth 100000 in
theorem wd_571 : (Jvm.Cond.instantiable "java/lang/Throwable" (6 : Nat)) ∈ wA := wA_of_3 91 rfl rfl
set_option maxRecDepth 100000 in
theorem wd_572 : (Jvm.Cond.native ({ cls := "java/lang/Throwable", name := "fillInStackTrace", desc := "(I)Ljava/lang/Throwable;" } : Jvm.MethodName)) ∈ wA := wA_of_3 92 rfl rfl
set_option maxRecDepth 100000 in
theorem wd_574 : (Jvm.Cond.methodLink "LateFalls" (87 : Nat) ({ cls := "java/lang/IllegalArgumentException", name := "<init>", desc := "(Ljava/lang/String;)V" } : Jvm.MethodName)) ∈ wA := wA_of_3 94 rfl rfl
set_option maxRecDepth 100000 in
theorem wd_575 : (Jvm.Cond.instanceMethod ({ cls := "java/lang/IllegalArgumentException", name := "<init>", desc := "(Ljava/lang/String;)V" } : Jvm.MethodName)) ∈ wA := wA_of_3 95 rfl rfl
set_option maxRecDepth 100000 in
theorem wd_576 : (Jvm.Cond.code ({ cls := "java/lang/IllegalArgumentException", name := "<init>", desc := "(Ljava/lang/String;)V" } : Jvm.MethodName) prog_19_method_2_code (2 : Nat) (Option.none : Option Jvm.ClassFile.FieldType)) ∈ wA := wA_of_3 96 rfl rfl
set_option maxRecDepth 100000 in
theorem wd_577 : (Jvm.Cond.methodLink "java/lang/IllegalArgumentException" (7 : Nat) ({ cls := "java/lang/RuntimeException", name := "<init>", desc := "(Ljava/lang/String;)V" } : Jvm.MethodName)) ∈ wA := wA_of_3 97 rfl rfl
set_option maxRecDepth 100000 in
theorem wd_578 : (Jvm.Cond.instanceMethod ({ cls := "java/lang/RuntimeException", name := "<init>", desc := "(Ljava/lang/String;)V" } : Jvm.MethodName)) ∈ wA := wA_of_3 98 rfl rfl
set_option maxRecDepth 100000 in
theorem wd_579 : (Jvm.Cond.code ({ cls := "java/lang/RuntimeException", name := "<init>", desc := "(Ljava/lang/String;)V" } : Jvm.MethodName) prog_24_method_2_code (2 : Nat) (Option.none : Option Jvm.ClassFile.FieldType)) ∈ wA := wA_of_3 99 rfl rfl
set_option maxRecDepth 100000 in
theorem wd_580 : (Jvm.Cond.methodLink "java/lang/RuntimeException" (7 : Nat) ({ cls := "java/lang/Exception", name := "<init>", desc := "(Ljava/lang/String;)V" } : Jvm.MethodName)) ∈ wA := wA_of_3 100 rfl rfl
set_option maxRecDepth 100000 in
theorem wd_581 : (Jvm.Cond.instanceMethod ({ cls := "java/lang/Exception", name := "<init>", desc := "(Ljava/lang/String;)V" } : Jvm.MethodName)) ∈ wA := wA_of_3 101 rfl rfl
set_option maxRecDepth 100000 in
theorem wd_582 : (Jvm.Cond.code ({ cls := "java/lang/Exception", name := "<init>", desc := "(Ljava/lang/String;)V" } : Jvm.MethodName) prog_18_method_2_code (2 : Nat) (Option.none : Option Jvm.ClassFile.FieldType)) ∈ wA := wA_of_3 102 rfl rfl
set_option maxRecDepth 100000 in
theorem wd_583 : (Jvm.Cond.methodLink "java/lang/Exception" (7 : Nat) ({ cls := "java/lang/Throwable", name := "<init>", desc := "(Ljava/lang/String;)V" } : Jvm.MethodName)) ∈ wA := wA_of_3 103 rfl rfl
set_option maxRecDepth 100000 in
theorem wd_584 : (Jvm.Cond.instanceMethod ({ cls := "java/lang/Throwable", name := "<init>", desc := "(Ljava/lang/String;)V" } : Jvm.MethodName)) ∈ wA := wA_of_3 104 rfl rfl
set_option maxRecDepth 100000 in
theorem wd_585 : (Jvm.Cond.code ({ cls := "java/lang/Throwable", name := "<init>", desc := "(Ljava/lang/String;)V" } : Jvm.MethodName) prog_29_method_2_code (2 : Nat) (Option.none : Option Jvm.ClassFile.FieldType)) ∈ wA := wA_of_3 105 rfl rfl
set_option maxRecDepth 100000 in
theorem wd_586 : (Jvm.Cond.fieldLink "java/lang/Throwable" (198 : Nat) "java/lang/Throwable" "backtrace" "Ljava/lang/Object;") ∈ wA := wA_of_3 106 rfl rfl
set_option maxRecDepth 100000 in
theorem wd_587 : (Jvm.Cond.fieldLink "java/lang/Throwable" (31 : Nat) "java/lang/Throwable" "detailMessage" "Ljava/lang/String;") ∈ wA := wA_of_3 107 rfl rfl
set_option maxRecDepth 100000 in
theorem wd_588 : (Jvm.Cond.fieldLink "java/lang/Throwable" (7 : Nat) "java/lang/Throwable" "cause" "Ljava/lang/Throwable;") ∈ wA := wA_of_3 108 rfl rfl
set_option maxRecDepth 100000 in
theorem wd_589 : (Jvm.Cond.fieldLink "java/lang/Throwable" (17 : Nat) "java/lang/Throwable" "stackTrace" "[Ljava/lang/StackTraceElement;") ∈ wA := wA_of_3 109 rfl rfl
set_option maxRecDepth 100000 in
theorem wd_590 : (Jvm.Cond.fieldLink "java/lang/Throwable" (24 : Nat) "java/lang/Throwable" "suppressedExceptions" "Ljava/util/List;") ∈ wA := wA_of_3 110 rfl rfl
set_option maxRecDepth 100000 in
theorem wd_595 : (Jvm.Cond.lays "java/lang/IllegalArgumentException" "java/lang/Throwable" "depth" "I") ∈ wA := wA_of_3 115 rfl rfl
set_option maxRecDepth 100000 in
theorem wd_599 : (Jvm.Cond.methodLink "LateFalls" (90 : Nat) ({ cls := "LateFalls$Reader", name := "read", desc := "([BI)V" } : Jvm.MethodName)) ∈ wA := wA_of_3 119 rfl rfl
set_option maxRecDepth 100000 in
theorem wd_600 : (Jvm.Cond.instanceMethod ({ cls := "LateFalls$Reader", name := "read", desc := "([BI)V" } : Jvm.MethodName)) ∈ wA := wA_of_3 120 rfl rfl
set_option maxRecDepth 100000 in
theorem wd_601 : (Jvm.Cond.selects "LateFalls$Reader" ({ cls := "LateFalls$Reader", name := "read", desc := "([BI)V" } : Jvm.MethodName) ({ cls := "LateFalls$Reader", name := "read", desc := "([BI)V" } : Jvm.MethodName)) ∈ wA := wA_of_3 121 rfl rfl
set_option maxRecDepth 100000 in
theorem wd_602 : (Jvm.Cond.code ({ cls := "LateFalls$Reader", name := "read", desc := "([BI)V" } : Jvm.MethodName) prog_7_method_2_code (4 : Nat) (Option.none : Option Jvm.ClassFile.FieldType)) ∈ wA := wA_of_3 122 rfl rfl
set_option maxRecDepth 100000 in
theorem wd_603 : (Jvm.Cond.classLink "LateFalls$Reader" (35 : Nat) "LateFalls$District") ∈ wA := wA_of_3 123 rfl rfl
set_option maxRecDepth 100000 in
theorem wd_605 : (Jvm.Cond.methodLink "LateFalls$Reader" (38 : Nat) ({ cls := "LateFalls$Scene", name := "begin", desc := "(LLateFalls$District;)V" } : Jvm.MethodName)) ∈ wA := wA_of_3 125 rfl rfl
set_option maxRecDepth 100000 in
theorem wd_606 : (Jvm.Cond.instanceMethod ({ cls := "LateFalls$Scene", name := "begin", desc := "(LLateFalls$District;)V" } : Jvm.MethodName)) ∈ wA := wA_of_3 126 rfl rfl
set_option maxRecDepth 100000 in
theorem wd_607 : (Jvm.Cond.selects "LateFalls$Scene" ({ cls := "LateFalls$Scene", name := "begin", desc := "(LLateFalls$District;)V" } : Jvm.MethodName) ({ cls := "LateFalls$Scene", name := "begin", desc := "(LLateFalls$District;)V" } : Jvm.MethodName)) ∈ wA := wA_of_3 127 rfl rfl
set_option maxRecDepth 100000 in
theorem wd_608 : (Jvm.Cond.code ({ cls := "LateFalls$Scene", name := "begin", desc := "(LLateFalls$District;)V" } : Jvm.MethodName) prog_8_method_2_code (3 : Nat) (Option.none : Option Jvm.ClassFile.FieldType)) ∈ wA := wA_of_3 128 rfl rfl
set_option maxRecDepth 100000 in
theorem wd_609 : (Jvm.Cond.methodLink "LateFalls$Reader" (48 : Nat) ({ cls := "LateFalls$Tokens", name := "scan", desc := "([BI)V" } : Jvm.MethodName)) ∈ wA := wA_of_3 129 rfl rfl
set_option maxRecDepth 100000 in
theorem wd_610 : (Jvm.Cond.instanceMethod ({ cls := "LateFalls$Tokens", name := "scan", desc := "([BI)V" } : Jvm.MethodName)) ∈ wA := wA_of_3 130 rfl rfl
set_option maxRecDepth 100000 in
theorem wd_611 : (Jvm.Cond.selects "LateFalls$Tokens" ({ cls := "LateFalls$Tokens", name := "scan", desc := "([BI)V" } : Jvm.MethodName) ({ cls := "LateFalls$Tokens", name := "scan", desc := "([BI)V" } : Jvm.MethodName)) ∈ wA := wA_of_3 131 rfl rfl
set_option maxRecDepth 100000 in
theorem wd_612 : (Jvm.Cond.code ({ cls := "LateFalls$Tokens", name := "scan", desc := "([BI)V" } : Jvm.MethodName) prog_9_method_2_code (8 : Nat) (Option.none : Option Jvm.ClassFile.FieldType)) ∈ wA := wA_of_3 132 rfl rfl
set_option maxRecDepth 100000 in
theorem wd_613 : (Jvm.Cond.methodLink "LateFalls$Tokens" (22 : Nat) ({ cls := "LateFalls$Tokens", name := "isWithin", desc := "(ICC)Z" } : Jvm.MethodName)) ∈ wA := wA_of_3 133 rfl rfl
set_option maxRecDepth 100000 in
theorem wd_614 : (Jvm.Cond.static ({ cls := "LateFalls$Tokens", name := "isWithin", desc := "(ICC)Z" } : Jvm.MethodName)) ∈ wA := wA_of_3 134 rfl rfl
set_option maxRecDepth 100000 in
theorem wd_615 : (Jvm.Cond.code ({ cls := "LateFalls$Tokens", name := "isWithin", desc := "(ICC)Z" } : Jvm.MethodName) prog_9_method_4_code (3 : Nat) (Option.some Jvm.ClassFile.FieldType.boolean)) ∈ wA := wA_of_3 135 rfl rfl
set_option maxRecDepth 100000 in
theorem wd_616 : (Jvm.Cond.methodLink "LateFalls$Tokens" (26 : Nat) ({ cls := "LateFalls$Tokens", name := "runEnd", desc := "([BIICC)I" } : Jvm.MethodName)) ∈ wA := wA_of_3 136 rfl rfl
set_option maxRecDepth 100000 in
theorem wd_617 : (Jvm.Cond.static ({ cls := "LateFalls$Tokens", name := "runEnd", desc := "([BIICC)I" } : Jvm.MethodName)) ∈ wA := wA_of_3 137 rfl rfl
set_option maxRecDepth 100000 in
theorem wd_618 : (Jvm.Cond.code ({ cls := "LateFalls$Tokens", name := "runEnd", desc := "([BIICC)I" } : Jvm.MethodName) prog_9_method_5_code (6 : Nat) (Option.some Jvm.ClassFile.FieldType.int)) ∈ wA := wA_of_3 138 rfl rfl
set_option maxRecDepth 100000 in
theorem wd_619 : (Jvm.Cond.methodLink "LateFalls$Tokens" (30 : Nat) ({ cls := "LateFalls$Tokens", name := "wordKind", desc := "([BII)I" } : Jvm.MethodName)) ∈ wA := wA_of_3 139 rfl rfl
set_option maxRecDepth 100000 in
theorem wd_620 : (Jvm.Cond.static ({ cls := "LateFalls$Tokens", name := "wordKind", desc := "([BII)I" } : Jvm.MethodName)) ∈ wA := wA_of_3 140 rfl rfl
set_option maxRecDepth 100000 in
theorem wd_621 : (Jvm.Cond.code ({ cls := "LateFalls$Tokens", name := "wordKind", desc := "([BII)I" } : Jvm.MethodName) prog_9_method_7_code (8 : Nat) (Option.some Jvm.ClassFile.FieldType.int)) ∈ wA := wA_of_3 141 rfl rfl
set_option maxRecDepth 100000 in
theorem wd_623 : (Jvm.Cond.methodLink "LateFalls$Tokens" (60 : Nat) ({ cls := "java/lang/String", name := "length", desc := "()I" } : Jvm.MethodName)) ∈ wA := wA_of_3 143 rfl rfl
set_option maxRecDepth 100000 in
theorem wd_624 : (Jvm.Cond.instanceMethod ({ cls := "java/lang/String", name := "length", desc := "()I" } : Jvm.MethodName)) ∈ wA := wA_of_3 144 rfl rfl
set_option maxRecDepth 100000 in
theorem wd_625 : (Jvm.Cond.selects "java/lang/String" ({ cls := "java/lang/String", name := "length", desc := "()I" } : Jvm.MethodName) ({ cls := "java/lang/String", name := "length", desc := "()I" } : Jvm.MethodName)) ∈ wA := wA_of_3 145 rfl rfl
set_option maxRecDepth 100000 in
theorem wd_626 : (Jvm.Cond.code ({ cls := "java/lang/String", name := "length", desc := "()I" } : Jvm.MethodName) prog_25_method_54_code (1 : Nat) (Option.some Jvm.ClassFile.FieldType.int)) ∈ wA := wA_of_3 146 rfl rfl
set_option maxRecDepth 100000 in
theorem wd_627 : (Jvm.Cond.methodLink "java/lang/String" (335 : Nat) ({ cls := "java/lang/String", name := "coder", desc := "()B" } : Jvm.MethodName)) ∈ wA := wA_of_3 147 rfl rfl
set_option maxRecDepth 100000 in
theorem wd_628 : (Jvm.Cond.instanceMethod ({ cls := "java/lang/String", name := "coder", desc := "()B" } : Jvm.MethodName)) ∈ wA := wA_of_3 148 rfl rfl
set_option maxRecDepth 100000 in
theorem wd_629 : (Jvm.Cond.selects "java/lang/String" ({ cls := "java/lang/String", name := "coder", desc := "()B" } : Jvm.MethodName) ({ cls := "java/lang/String", name := "coder", desc := "()B" } : Jvm.MethodName)) ∈ wA := wA_of_3 149 rfl rfl
set_option maxRecDepth 100000 in
theorem wd_630 : (Jvm.Cond.code ({ cls := "java/lang/String", name := "coder", desc := "()B" } : Jvm.MethodName) prog_25_method_152_code (1 : Nat) (Option.some Jvm.ClassFile.FieldType.byte)) ∈ wA := wA_of_3 150 rfl rfl
set_option maxRecDepth 100000 in
theorem wd_631 : (Jvm.Cond.fieldLink "java/lang/String" (38 : Nat) "java/lang/String" "COMPACT_STRINGS" "Z") ∈ wA := wA_of_3 151 rfl rfl
set_option maxRecDepth 100000 in
theorem wd_633 : (Jvm.Cond.methodLink "LateFalls$Tokens" (64 : Nat) ({ cls := "java/lang/String", name := "charAt", desc := "(I)C" } : Jvm.MethodName)) ∈ wA := wA_of_3 153 rfl rfl
set_option maxRecDepth 100000 in
theorem wd_634 : (Jvm.Cond.instanceMethod ({ cls := "java/lang/String", name := "charAt", desc := "(I)C" } : Jvm.MethodName)) ∈ wA := wA_of_3 154 rfl rfl
set_option maxRecDepth 100000 in
theorem wd_635 : (Jvm.Cond.selects "java/lang/String" ({ cls := "java/lang/String", name := "charAt", desc := "(I)C" } : Jvm.MethodName) ({ cls := "java/lang/String", name := "charAt", desc := "(I)C" } : Jvm.MethodName)) ∈ wA := wA_of_3 155 rfl rfl
set_option maxRecDepth 100000 in
theorem wd_636 : (Jvm.Cond.code ({ cls := "java/lang/String", name := "charAt", desc := "(I)C" } : Jvm.MethodName) prog_25_method_56_code (2 : Nat) (Option.some Jvm.ClassFile.FieldType.char)) ∈ wA := wA_of_3 156 rfl rfl
set_option maxRecDepth 100000 in
theorem wd_637 : (Jvm.Cond.methodLink "java/lang/String" (492 : Nat) ({ cls := "java/lang/String", name := "isLatin1", desc := "()Z" } : Jvm.MethodName)) ∈ wA := wA_of_3 157 rfl rfl
set_option maxRecDepth 100000 in
theorem wd_638 : (Jvm.Cond.instanceMethod ({ cls := "java/lang/String", name := "isLatin1", desc := "()Z" } : Jvm.MethodName)) ∈ wA := wA_of_3 158 rfl rfl
set_option maxRecDepth 100000 in
theorem wd_639 : (Jvm.Cond.selects "java/lang/String" ({ cls := "java/lang/String", name := "isLatin1", desc := "()Z" } : Jvm.MethodName) ({ cls := "java/lang/String", name := "isLatin1", desc := "()Z" } : Jvm.MethodName)) ∈ wA := wA_of_3 159 rfl rfl
set_option maxRecDepth 100000 in
theorem wd_640 : (Jvm.Cond.code ({ cls := "java/lang/String", name := "isLatin1", desc := "()Z" } : Jvm.MethodName) prog_25_method_154_code (1 : Nat) (Option.some Jvm.ClassFile.FieldType.boolean)) ∈ wA := wA_of_3 160 rfl rfl
set_option maxRecDepth 100000 in
theorem wd_641 : (Jvm.Cond.methodLink "java/lang/String" (495 : Nat) ({ cls := "java/lang/StringLatin1", name := "charAt", desc := "([BI)C" } : Jvm.MethodName)) ∈ wA := wA_of_3 161 rfl rfl
set_option maxRecDepth 100000 in
theorem wd_642 : (Jvm.Cond.static ({ cls := "java/lang/StringLatin1", name := "charAt", desc := "([BI)C" } : Jvm.MethodName)) ∈ wA := wA_of_3 162 rfl rfl
set_option maxRecDepth 100000 in
theorem wd_643 : (Jvm.Cond.code ({ cls := "java/lang/StringLatin1", name := "charAt", desc := "([BI)C" } : Jvm.MethodName) prog_26_method_2_code (2 : Nat) (Option.some Jvm.ClassFile.FieldType.char)) ∈ wA := wA_of_3 163 rfl rfl
set_option maxRecDepth 100000 in
theorem wd_644 : (Jvm.Cond.methodLink "java/lang/StringLatin1" (9 : Nat) ({ cls := "java/lang/String", name := "checkIndex", desc := "(II)V" } : Jvm.MethodName)) ∈ wA := wA_of_3 164 rfl rfl
set_option maxRecDepth 100000 in
theorem wd_645 : (Jvm.Cond.static ({ cls := "java/lang/String", name := "checkIndex", desc := "(II)V" } : Jvm.MethodName)) ∈ wA := wA_of_3 165 rfl rfl
set_option maxRecDepth 100000 in
theorem wd_646 : (Jvm.Cond.code ({ cls := "java/lang/String", name := "checkIndex", desc := "(II)V" } : Jvm.MethodName) prog_25_method_155_code (2 : Nat) (Option.none : Option Jvm.ClassFile.FieldType)) ∈ wA := wA_of_3 166 rfl rfl
set_option maxRecDepth 100000 in
theorem wd_647 : (Jvm.Cond.fieldLink "java/lang/String" (1053 : Nat) "jdk/internal/util/Preconditions" "SIOOBE_FORMATTER" "Ljava/util/function/BiFunction;") ∈ wA := wA_of_3 167 rfl rfl
set_option maxRecDepth 100000 in
theorem wd_649 : (Jvm.Cond.methodLink "java/lang/String" (1059 : Nat) ({ cls := "jdk/internal/util/Preconditions", name := "checkIndex", desc := "(IILjava/util/function/BiFunction;)I" } : Jvm.MethodName)) ∈ wA := wA_of_3 169 rfl rfl
set_option maxRecDepth 100000 in
theorem wd_650 : (Jvm.Cond.static ({ cls := "jdk/internal/util/Preconditions", name := "checkIndex", desc := "(IILjava/util/function/BiFunction;)I" } : Jvm.MethodName)) ∈ wA := wA_of_3 170 rfl rfl
set_option maxRecDepth 100000 in
theorem wd_651 : (Jvm.Cond.code ({ cls := "jdk/internal/util/Preconditions", name := "checkIndex", desc := "(IILjava/util/function/BiFunction;)I" } : Jvm.MethodName) prog_33_method_11_code (3 : Nat) (Option.some Jvm.ClassFile.FieldType.int)) ∈ wA := wA_of_3 171 rfl rfl
set_option maxRecDepth 100000 in
theorem wd_652 : (Jvm.Cond.methodLink "java/lang/String" (498 : Nat) ({ cls := "java/lang/StringUTF16", name := "charAt", desc := "([BI)C" } : Jvm.MethodName)) ∈ wA := wA_of_3 172 rfl rfl
set_option maxRecDepth 100000 in
theorem wd_653 : (Jvm.Cond.static ({ cls := "java/lang/StringUTF16", name := "charAt", desc := "([BI)C" } : Jvm.MethodName)) ∈ wA := wA_of_3 173 rfl rfl
set_option maxRecDepth 100000 in
theorem wd_654 : (Jvm.Cond.code ({ cls := "java/lang/StringUTF16", name := "charAt", desc := "([BI)C" } : Jvm.MethodName) prog_27_method_83_code (2 : Nat) (Option.some Jvm.ClassFile.FieldType.char)) ∈ wA := wA_of_3 174 rfl rfl
set_option maxRecDepth 100000 in
theorem wd_655 : (Jvm.Cond.methodLink "java/lang/StringUTF16" (67 : Nat) ({ cls := "java/lang/StringUTF16", name := "checkIndex", desc := "(I[B)V" } : Jvm.MethodName)) ∈ wA := wA_of_3 175 rfl rfl
set_option maxRecDepth 100000 in
theorem wd_656 : (Jvm.Cond.static ({ cls := "java/lang/StringUTF16", name := "checkIndex", desc := "(I[B)V" } : Jvm.MethodName)) ∈ wA := wA_of_3 176 rfl rfl
set_option maxRecDepth 100000 in
theorem wd_657 : (Jvm.Cond.code ({ cls := "java/lang/StringUTF16", name := "checkIndex", desc := "(I[B)V" } : Jvm.MethodName) prog_27_method_91_code (2 : Nat) (Option.none : Option Jvm.ClassFile.FieldType)) ∈ wA := wA_of_3 177 rfl rfl
set_option maxRecDepth 100000 in
theorem wd_658 : (Jvm.Cond.methodLink "java/lang/StringUTF16" (48 : Nat) ({ cls := "java/lang/StringUTF16", name := "length", desc := "([B)I" } : Jvm.MethodName)) ∈ wA := wA_of_3 178 rfl rfl
set_option maxRecDepth 100000 in
theorem wd_659 : (Jvm.Cond.static ({ cls := "java/lang/StringUTF16", name := "length", desc := "([B)I" } : Jvm.MethodName)) ∈ wA := wA_of_3 179 rfl rfl
set_option maxRecDepth 100000 in
theorem wd_660 : (Jvm.Cond.code ({ cls := "java/lang/StringUTF16", name := "length", desc := "([B)I" } : Jvm.MethodName) prog_27_method_6_code (1 : Nat) (Option.some Jvm.ClassFile.FieldType.int)) ∈ wA := wA_of_3 180 rfl rfl
set_option maxRecDepth 100000 in
theorem wd_661 : (Jvm.Cond.methodLink "java/lang/StringUTF16" (414 : Nat) ({ cls := "java/lang/String", name := "checkIndex", desc := "(II)V" } : Jvm.MethodName)) ∈ wA := wA_of_3 181 rfl rfl
set_option maxRecDepth 100000 in
theorem wd_662 : (Jvm.Cond.methodLink "java/lang/StringUTF16" (71 : Nat) ({ cls := "java/lang/StringUTF16", name := "getChar", desc := "([BI)C" } : Jvm.MethodName)) ∈ wA := wA_of_3 182 rfl rfl
set_option maxRecDepth 100000 in
theorem wd_663 : (Jvm.Cond.static ({ cls := "java/lang/StringUTF16", name := "getChar", desc := "([BI)C" } : Jvm.MethodName)) ∈ wA := wA_of_3 183 rfl rfl
set_option maxRecDepth 100000 in
theorem wd_664 : (Jvm.Cond.code ({ cls := "java/lang/StringUTF16", name := "getChar", desc := "([BI)C" } : Jvm.MethodName) prog_27_method_5_code (2 : Nat) (Option.some Jvm.ClassFile.FieldType.char)) ∈ wA := wA_of_3 184 rfl rfl
set_option maxRecDepth 100000 in
theorem wd_665 : (Jvm.Cond.fieldLink "java/lang/StringUTF16" (44 : Nat) "java/lang/StringUTF16" "$assertionsDisabled" "Z") ∈ wA := wA_of_3 185 rfl rfl
set_option maxRecDepth 100000 in
theorem wd_667 : (Jvm.Cond.fieldLink "java/lang/StringUTF16" (59 : Nat) "java/lang/StringUTF16" "HI_BYTE_SHIFT" "I") ∈ wA := wA_of_3 187 rfl rfl
set_option maxRecDepth 100000 in
theorem wd_669 : (Jvm.Cond.fieldLink "java/lang/StringUTF16" (63 : Nat) "java/lang/StringUTF16" "LO_BYTE_SHIFT" "I") ∈ wA := wA_of_3 189 rfl rfl
set_option maxRecDepth 100000 in
theorem wd_671 : (Jvm.Cond.methodLink "LateFalls$Tokens" (34 : Nat) ({ cls := "LateFalls$Tokens", name := "numberAt", desc := "([BII)I" } : Jvm.MethodName)) ∈ wA := wA_of_3 191 rfl rfl
set_option maxRecDepth 100000 in
theorem wd_672 : (Jvm.Cond.static ({ cls := "LateFalls$Tokens", name := "numberAt", desc := "([BII)I" } : Jvm.MethodName)) ∈ wA := wA_of_3 192 rfl rfl
set_option maxRecDepth 100000 in
theorem wd_673 : (Jvm.Cond.code ({ cls := "LateFalls$Tokens", name := "numberAt", desc := "([BII)I" } : Jvm.MethodName) prog_9_method_6_code (5 : Nat) (Option.some Jvm.ClassFile.FieldType.int)) ∈ wA := wA_of_3 193 rfl rfl
set_option maxRecDepth 100000 in
theorem wd_675 : (Jvm.Cond.methodLink "LateFalls$Tokens" (39 : Nat) ({ cls := "java/lang/String", name := "indexOf", desc := "(I)I" } : Jvm.MethodName)) ∈ wA := wA_of_3 195 rfl rfl
set_option maxRecDepth 100000 in
theorem wd_676 : (Jvm.Cond.instanceMethod ({ cls := "java/lang/String", name := "indexOf", desc := "(I)I" } : Jvm.MethodName)) ∈ wA := wA_of_3 196 rfl rfl
set_option maxRecDepth 100000 in
theorem wd_677 : (Jvm.Cond.selects "java/lang/String" ({ cls := "java/lang/String", name := "indexOf", desc := "(I)I" } : Jvm.MethodName) ({ cls := "java/lang/String", name := "indexOf", desc := "(I)I" } : Jvm.MethodName)) ∈ wA := wA_of_3 197 rfl rfl
set_option maxRecDepth 100000 in
theorem wd_678 : (Jvm.Cond.code ({ cls := "java/lang/String", name := "indexOf", desc := "(I)I" } : Jvm.MethodName) prog_25_method_79_code (2 : Nat) (Option.some Jvm.ClassFile.FieldType.int)) ∈ wA := wA_of_3 198 rfl rfl
set_option maxRecDepth 100000 in
theorem wd_679 : (Jvm.Cond.methodLink "java/lang/String" (633 : Nat) ({ cls := "java/lang/String", name := "indexOf", desc := "(II)I" } : Jvm.MethodName)) ∈ wA := wA_of_3 199 rfl rfl
set_option maxRecDepth 100000 in
theorem wd_680 : (Jvm.Cond.instanceMethod ({ cls := "java/lang/String", name := "indexOf", desc := "(II)I" } : Jvm.MethodName)) ∈ wA := wA_of_3 200 rfl rfl
set_option maxRecDepth 100000 in
theorem wd_681 : (Jvm.Cond.selects "java/lang/String" ({ cls := "java/lang/String", name := "indexOf", desc := "(II)I" } : Jvm.MethodName) ({ cls := "java/lang/String", name := "indexOf", desc := "(II)I" } : Jvm.MethodName)) ∈ wA := wA_of_3 201 rfl rfl
set_option maxRecDepth 100000 in
theorem wd_682 : (Jvm.Cond.code ({ cls := "java/lang/String", name := "indexOf", desc := "(II)I" } : Jvm.MethodName) prog_25_method_80_code (3 : Nat) (Option.some Jvm.ClassFile.FieldType.int)) ∈ wA := wA_of_3 202 rfl rfl
set_option maxRecDepth 100000 in
theorem wd_683 : (Jvm.Cond.methodLink "java/lang/String" (505 : Nat) ({ cls := "java/lang/String", name := "length", desc := "()I" } : Jvm.MethodName)) ∈ wA := wA_of_3 203 rfl rfl
set_option maxRecDepth 100000 in
theorem wd_684 : (Jvm.Cond.methodLink "java/lang/String" (637 : Nat) ({ cls := "java/lang/StringLatin1", name := "indexOf", desc := "([BIII)I" } : Jvm.MethodName)) ∈ wA := wA_of_3 204 rfl rfl
set_option maxRecDepth 100000 in
theorem wd_685 : (Jvm.Cond.static ({ cls := "java/lang/StringLatin1", name := "indexOf", desc := "([BIII)I" } : Jvm.MethodName)) ∈ wA := wA_of_3 205 rfl rfl
set_option maxRecDepth 100000 in
theorem wd_686 : (Jvm.Cond.code ({ cls := "java/lang/StringLatin1", name := "indexOf", desc := "([BIII)I" } : Jvm.MethodName) prog_26_method_22_code (4 : Nat) (Option.some Jvm.ClassFile.FieldType.int)) ∈ wA := wA_of_3 206 rfl rfl
set_option maxRecDepth 100000 in
theorem wd_687 : (Jvm.Cond.methodLink "java/lang/StringLatin1" (88 : Nat) ({ cls := "java/lang/StringLatin1", name := "canEncode", desc := "(I)Z" } : Jvm.MethodName)) ∈ wA := wA_of_3 207 rfl rfl
set_option maxRecDepth 100000 in
theorem wd_688 : (Jvm.Cond.static ({ cls := "java/lang/StringLatin1", name := "canEncode", desc := "(I)Z" } : Jvm.MethodName)) ∈ wA := wA_of_3 208 rfl rfl
set_option maxRecDepth 100000 in
theorem wd_689 : (Jvm.Cond.code ({ cls := "java/lang/StringLatin1", name := "canEncode", desc := "(I)Z" } : Jvm.MethodName) prog_26_method_4_code (1 : Nat) (Option.some Jvm.ClassFile.FieldType.boolean)) ∈ wA := wA_of_3 209 rfl rfl
set_option maxRecDepth 100000 in
theorem wd_690 : (Jvm.Cond.methodLink "java/lang/StringLatin1" (92 : Nat) ({ cls := "java/lang/Math", name := "max", desc := "(II)I" } : Jvm.MethodName)) ∈ wA := wA_of_3 210 rfl rfl
set_option maxRecDepth 100000 in
theorem wd_691 : (Jvm.Cond.methodLink "java/lang/StringLatin1" (38 : Nat) ({ cls := "java/lang/Math", name := "min", desc := "(II)I" } : Jvm.MethodName)) ∈ wA := wA_of_3 211 rfl rfl
set_option maxRecDepth 100000 in
theorem wd_692 : (Jvm.Cond.methodLink "java/lang/StringLatin1" (95 : Nat) ({ cls := "java/lang/StringLatin1", name := "indexOfChar", desc := "([BIII)I" } : Jvm.MethodName)) ∈ wA := wA_of_3 212 rfl rfl
set_option maxRecDepth 100000 in
theorem wd_693 : (Jvm.Cond.static ({ cls := "java/lang/StringLatin1", name := "indexOfChar", desc := "([BIII)I" } : Jvm.MethodName)) ∈ wA := wA_of_3 213 rfl rfl
set_option maxRecDepth 100000 in
theorem wd_694 : (Jvm.Cond.code ({ cls := "java/lang/StringLatin1", name := "indexOfChar", desc := "([BIII)I" } : Jvm.MethodName) prog_26_method_23_code (6 : Nat) (Option.some Jvm.ClassFile.FieldType.int)) ∈ wA := wA_of_3 214 rfl rfl
set_option maxRecDepth 100000 in
theorem wd_695 : (Jvm.Cond.methodLink "java/lang/String" (640 : Nat) ({ cls := "java/lang/StringUTF16", name := "indexOf", desc := "([BIII)I" } : Jvm.MethodName)) ∈ wA := wA_of_3 215 rfl rfl
set_option maxRecDepth 100000 in
theorem wd_696 : (Jvm.Cond.static ({ cls := "java/lang/StringUTF16", name := "indexOf", desc := "([BIII)I" } : Jvm.MethodName)) ∈ wA := wA_of_3 216 rfl rfl
set_option maxRecDepth 100000 in
theorem wd_697 : (Jvm.Cond.code ({ cls := "java/lang/StringUTF16", name := "indexOf", desc := "([BIII)I" } : Jvm.MethodName) prog_27_method_40_code (4 : Nat) (Option.some Jvm.ClassFile.FieldType.int)) ∈ wA := wA_of_3 217 rfl rfl
set_option maxRecDepth 100000 in
theorem wd_698 : (Jvm.Cond.methodLink "java/lang/StringUTF16" (224 : Nat) ({ cls := "java/lang/Math", name := "max", desc := "(II)I" } : Jvm.MethodName)) ∈ wA := wA_of_3 218 rfl rfl
set_option maxRecDepth 100000 in
theorem wd_699 : (Jvm.Cond.methodLink "java/lang/StringUTF16" (183 : Nat) ({ cls := "java/lang/Math", name := "min", desc := "(II)I" } : Jvm.MethodName)) ∈ wA := wA_of_3 219 rfl rfl
set_option maxRecDepth 100000 in
theorem wd_700 : (Jvm.Cond.constant "java/lang/StringUTF16" (227 : Nat) (65536 : Int32)) ∈ wA := wA_of_3 220 rfl rfl
set_option maxRecDepth 100000 in
theorem wd_701 : (Jvm.Cond.methodLink "java/lang/StringUTF16" (228 : Nat) ({ cls := "java/lang/StringUTF16", name := "indexOfChar", desc := "([BIII)I" } : Jvm.MethodName)) ∈ wA := wA_of_3 221 rfl rfl
set_option maxRecDepth 100000 in
theorem wd_702 : (Jvm.Cond.static ({ cls := "java/lang/StringUTF16", name := "indexOfChar", desc := "([BIII)I" } : Jvm.MethodName)) ∈ wA := wA_of_3 222 rfl rfl
set_option maxRecDepth 100000 in
theorem wd_703 : (Jvm.Cond.code ({ cls := "java/lang/StringUTF16", name := "indexOfChar", desc := "([BIII)I" } : Jvm.MethodName) prog_27_method_47_code (4 : Nat) (Option.some Jvm.ClassFile.FieldType.int)) ∈ wA := wA_of_3 223 rfl rfl
set_option maxRecDepth 100000 in
theorem wd_704 : (Jvm.Cond.methodLink "java/lang/StringUTF16" (96 : Nat) ({ cls := "java/lang/StringUTF16", name := "checkBoundsBeginEnd", desc := "(II[B)V" } : Jvm.MethodName)) ∈ wA := wA_of_3 224 rfl rfl
set_option maxRecDepth 100000 in
theorem wd_705 : (Jvm.Cond.static ({ cls := "java/lang/StringUTF16", name := "checkBoundsBeginEnd", desc := "(II[B)V" } : Jvm.MethodName)) ∈ wA := wA_of_3 225 rfl rfl
set_option maxRecDepth 100000 in
theorem wd_706 : (Jvm.Cond.code ({ cls := "java/lang/StringUTF16", name := "checkBoundsBeginEnd", desc := "(II[B)V" } : Jvm.MethodName) prog_27_method_93_code (3 : Nat) (Option.none : Option Jvm.ClassFile.FieldType)) ∈ wA := wA_of_3 226 rfl rfl
set_option maxRecDepth 100000 in
theorem wd_707 : (Jvm.Cond.methodLink "java/lang/StringUTF16" (241 : Nat) ({ cls := "java/lang/String", name := "checkBoundsBeginEnd", desc := "(III)V" } : Jvm.MethodName)) ∈ wA := wA_of_3 227 rfl rfl
set_option maxRecDepth 100000 in
theorem wd_708 : (Jvm.Cond.static ({ cls := "java/lang/String", name := "checkBoundsBeginEnd", desc := "(III)V" } : Jvm.MethodName)) ∈ wA := wA_of_3 228 rfl rfl
set_option maxRecDepth 100000 in
theorem wd_709 : (Jvm.Cond.code ({ cls := "java/lang/String", name := "checkBoundsBeginEnd", desc := "(III)V" } : Jvm.MethodName) prog_25_method_158_code (3 : Nat) (Option.none : Option Jvm.ClassFile.FieldType)) ∈ wA := wA_of_3 229 rfl rfl
set_option maxRecDepth 100000 in
theorem wd_710 : (Jvm.Cond.methodLink "java/lang/String" (1062 : Nat) ({ cls := "jdk/internal/util/Preconditions", name := "checkFromToIndex", desc := "(IIILjava/util/function/BiFunction;)I" } : Jvm.MethodName)) ∈ wA := wA_of_3 230 rfl rfl
set_option maxRecDepth 100000 in
theorem wd_711 : (Jvm.Cond.static ({ cls := "jdk/internal/util/Preconditions", name := "checkFromToIndex", desc := "(IIILjava/util/function/BiFunction;)I" } : Jvm.MethodName)) ∈ wA := wA_of_3 231 rfl rfl
set_option maxRecDepth 100000 in
theorem wd_712 : (Jvm.Cond.code ({ cls := "jdk/internal/util/Preconditions", name := "checkFromToIndex", desc := "(IIILjava/util/function/BiFunction;)I" } : Jvm.MethodName) prog_33_method_12_code (4 : Nat) (Option.some Jvm.ClassFile.FieldType.int)) ∈ wA := wA_of_3 232 rfl rfl
set_option maxRecDepth 100000 in
theorem wd_713 : (Jvm.Cond.methodLink "java/lang/StringUTF16" (244 : Nat) ({ cls := "java/lang/StringUTF16", name := "indexOfCharUnsafe", desc := "([BIII)I" } : Jvm.MethodName)) ∈ wA := wA_of_3 233 rfl rfl
set_option maxRecDepth 100000 in
theorem wd_714 : (Jvm.Cond.static ({ cls := "java/lang/StringUTF16", name := "indexOfCharUnsafe", desc := "([BIII)I" } : Jvm.MethodName)) ∈ wA := wA_of_3 234 rfl rfl
set_option maxRecDepth 100000 in
theorem wd_715 : (Jvm.Cond.code ({ cls := "java/lang/StringUTF16", name := "indexOfCharUnsafe", desc := "([BIII)I" } : Jvm.MethodName) prog_27_method_48_code (5 : Nat) (Option.some Jvm.ClassFile.FieldType.int)) ∈ wA := wA_of_3 235 rfl rfl
set_option maxRecDepth 100000 in
theorem wd_716 : (Jvm.Cond.methodLink "java/lang/StringUTF16" (232 : Nat) ({ cls := "java/lang/StringUTF16", name := "indexOfSupplementary", desc := "([BIII)I" } : Jvm.MethodName)) ∈ wA := wA_of_3 236 rfl rfl
set_option maxRecDepth 100000 in
theorem wd_717 : (Jvm.Cond.static ({ cls := "java/lang/StringUTF16", name := "indexOfSupplementary", desc := "([BIII)I" } : Jvm.MethodName)) ∈ wA := wA_of_3 237 rfl rfl
set_option maxRecDepth 100000 in
theorem wd_718 : (Jvm.Cond.code ({ cls := "java/lang/StringUTF16", name := "indexOfSupplementary", desc := "([BIII)I" } : Jvm.MethodName) prog_27_method_49_code (7 : Nat) (Option.some Jvm.ClassFile.FieldType.int)) ∈ wA := wA_of_3 238 rfl rfl
set_option maxRecDepth 100000 in
theorem wd_719 : (Jvm.Cond.methodLink "java/lang/StringUTF16" (164 : Nat) ({ cls := "java/lang/Character", name := "isValidCodePoint", desc := "(I)Z" } : Jvm.MethodName)) ∈ wA := wA_of_3 239 rfl rfl
set_option maxRecDepth 100000 in
theorem wd_720 : (Jvm.Cond.static ({ cls := "java/lang/Character", name := "isValidCodePoint", desc := "(I)Z" } : Jvm.MethodName)) ∈ wA := wA_of_4 0 rfl rfl
set_option maxRecDepth 100000 in
theorem wd_721 : (Jvm.Cond.code ({ cls := "java/lang/Character", name := "isValidCodePoint", desc := "(I)Z" } : Jvm.MethodName) prog_16_method_11_code (2 : Nat) (Option.some Jvm.ClassFile.FieldType.boolean)) ∈ wA := wA_of_4 1 rfl rfl
set_option maxRecDepth 100000 in
theorem wd_722 : (Jvm.Cond.methodLink "java/lang/StringUTF16" (157 : Nat) ({ cls := "java/lang/Character", name := "highSurrogate", desc := "(I)C" } : Jvm.MethodName)) ∈ wA := wA_of_4 2 rfl rfl
set_option maxRecDepth 100000 in
theorem wd_723 : (Jvm.Cond.static ({ cls := "java/lang/Character", name := "highSurrogate", desc := "(I)C" } : Jvm.MethodName)) ∈ wA := wA_of_4 3 rfl rfl
set_option maxRecDepth 100000 in
theorem wd_724 : (Jvm.Cond.code ({ cls := "java/lang/Character", name := "highSurrogate", desc := "(I)C" } : Jvm.MethodName) prog_16_method_28_code (1 : Nat) (Option.some Jvm.ClassFile.FieldType.char)) ∈ wA := wA_of_4 4 rfl rfl
set_option maxRecDepth 100000 in
theorem wd_725 : (Jvm.Cond.constant "java/lang/Character" (110 : Nat) (55232 : Int32)) ∈ wA := wA_of_4 5 rfl rfl
set_option maxRecDepth 100000 in
theorem wd_726 : (Jvm.Cond.methodLink "java/lang/StringUTF16" (161 : Nat) ({ cls := "java/lang/Character", name := "lowSurrogate", desc := "(I)C" } : Jvm.MethodName)) ∈ wA := wA_of_4 6 rfl rfl
set_option maxRecDepth 100000 in
theorem wd_727 : (Jvm.Cond.static ({ cls := "java/lang/Character", name := "lowSurrogate", desc := "(I)C" } : Jvm.MethodName)) ∈ wA := wA_of_4 7 rfl rfl
set_option maxRecDepth 100000 in
theorem wd_728 : (Jvm.Cond.code ({ cls := "java/lang/Character", name := "lowSurrogate", desc := "(I)C" } : Jvm.MethodName) prog_16_method_29_code (1 : Nat) (Option.some Jvm.ClassFile.FieldType.char)) ∈ wA := wA_of_4 8 rfl rfl
set_option maxRecDepth 100000 in
theorem wd_729 : (Jvm.Cond.constant "java/lang/Character" (76 : Nat) (56320 : Int32)) ∈ wA := wA_of_4 9 rfl rfl
set_option maxRecDepth 100000 in
theorem wd_730 : (Jvm.Cond.methodLink "LateFalls$Tokens" (45 : Nat) ({ cls := "LateFalls$Tokens", name := "append", desc := "(II)V" } : Jvm.MethodName)) ∈ wA := wA_of_4 10 rfl rfl
set_option maxRecDepth 100000 in
theorem wd_732 : (Jvm.Cond.instanceMethod ({ cls := "LateFalls$Tokens", name := "append", desc := "(II)V" } : Jvm.MethodName)) ∈ wA := wA_of_4 12 rfl rfl
set_option maxRecDepth 100000 in
theorem wd_733 : (Jvm.Cond.code ({ cls := "LateFalls$Tokens", name := "append", desc := "(II)V" } : Jvm.MethodName) prog_9_method_3_code (3 : Nat) (Option.none : Option Jvm.ClassFile.FieldType)) ∈ wA := wA_of_4 13 rfl rfl
set_option maxRecDepth 100000 in
theorem wd_734 : (Jvm.Cond.methodLink "LateFalls$Reader" (52 : Nat) ({ cls := "LateFalls$Reader", name := "fallLine", desc := "()V" } : Jvm.MethodName)) ∈ wA := wA_of_4 14 rfl rfl
set_option maxRecDepth 100000 in
theorem wd_736 : (Jvm.Cond.instanceMethod ({ cls := "LateFalls$Reader", name := "fallLine", desc := "()V" } : Jvm.MethodName)) ∈ wA := wA_of_4 16 rfl rfl
set_option maxRecDepth 100000 in
theorem wd_737 : (Jvm.Cond.code ({ cls := "LateFalls$Reader", name := "fallLine", desc := "()V" } : Jvm.MethodName) prog_7_method_7_code (1 : Nat) (Option.none : Option Jvm.ClassFile.FieldType)) ∈ wA := wA_of_4 17 rfl rfl
set_option maxRecDepth 100000 in
theorem wd_738 : (Jvm.Cond.methodLink "LateFalls$Reader" (99 : Nat) ({ cls := "LateFalls$Reader", name := "expect", desc := "(I)V" } : Jvm.MethodName)) ∈ wA := wA_of_4 18 rfl rfl
set_option maxRecDepth 100000 in
theorem wd_740 : (Jvm.Cond.instanceMethod ({ cls := "LateFalls$Reader", name := "expect", desc := "(I)V" } : Jvm.MethodName)) ∈ wA := wA_of_4 20 rfl rfl
set_option maxRecDepth 100000 in
theorem wd_741 : (Jvm.Cond.code ({ cls := "LateFalls$Reader", name := "expect", desc := "(I)V" } : Jvm.MethodName) prog_7_method_4_code (2 : Nat) (Option.none : Option Jvm.ClassFile.FieldType)) ∈ wA := wA_of_4 21 rfl rfl
set_option maxRecDepth 100000 in
theorem wd_742 : (Jvm.Cond.methodLink "LateFalls$Reader" (70 : Nat) ({ cls := "LateFalls$Tokens", name := "advance", desc := "()V" } : Jvm.MethodName)) ∈ wA := wA_of_4 22 rfl rfl
set_option maxRecDepth 100000 in
theorem wd_743 : (Jvm.Cond.instanceMethod ({ cls := "LateFalls$Tokens", name := "advance", desc := "()V" } : Jvm.MethodName)) ∈ wA := wA_of_4 23 rfl rfl
set_option maxRecDepth 100000 in
theorem wd_744 : (Jvm.Cond.selects "LateFalls$Tokens" ({ cls := "LateFalls$Tokens", name := "advance", desc := "()V" } : Jvm.MethodName) ({ cls := "LateFalls$Tokens", name := "advance", desc := "()V" } : Jvm.MethodName)) ∈ wA := wA_of_4 24 rfl rfl
set_option maxRecDepth 100000 in
theorem wd_745 : (Jvm.Cond.code ({ cls := "LateFalls$Tokens", name := "advance", desc := "()V" } : Jvm.MethodName) prog_9_method_8_code (1 : Nat) (Option.none : Option Jvm.ClassFile.FieldType)) ∈ wA := wA_of_4 25 rfl rfl
set_option maxRecDepth 100000 in
theorem wd_746 : (Jvm.Cond.methodLink "LateFalls$Reader" (80 : Nat) ({ cls := "LateFalls$Reader", name := "refuse", desc := "(I)V" } : Jvm.MethodName)) ∈ wA := wA_of_4 26 rfl rfl
set_option maxRecDepth 100000 in
theorem wd_748 : (Jvm.Cond.instanceMethod ({ cls := "LateFalls$Reader", name := "refuse", desc := "(I)V" } : Jvm.MethodName)) ∈ wA := wA_of_4 28 rfl rfl
set_option maxRecDepth 100000 in
theorem wd_749 : (Jvm.Cond.code ({ cls := "LateFalls$Reader", name := "refuse", desc := "(I)V" } : Jvm.MethodName) prog_7_method_3_code (2 : Nat) (Option.none : Option Jvm.ClassFile.FieldType)) ∈ wA := wA_of_4 29 rfl rfl
set_option maxRecDepth 100000 in
theorem wd_750 : (Jvm.Cond.methodLink "LateFalls$Reader" (92 : Nat) ({ cls := "LateFalls$Tokens", name := "stop", desc := "()V" } : Jvm.MethodName)) ∈ wA := wA_of_4 30 rfl rfl
set_option maxRecDepth 100000 in
theorem wd_751 : (Jvm.Cond.instanceMethod ({ cls := "LateFalls$Tokens", name := "stop", desc := "()V" } : Jvm.MethodName)) ∈ wA := wA_of_4 31 rfl rfl
set_option maxRecDepth 100000 in
theorem wd_752 : (Jvm.Cond.selects "LateFalls$Tokens" ({ cls := "LateFalls$Tokens", name := "stop", desc := "()V" } : Jvm.MethodName) ({ cls := "LateFalls$Tokens", name := "stop", desc := "()V" } : Jvm.MethodName)) ∈ wA := wA_of_4 32 rfl rfl
set_option maxRecDepth 100000 in
theorem wd_753 : (Jvm.Cond.code ({ cls := "LateFalls$Tokens", name := "stop", desc := "()V" } : Jvm.MethodName) prog_9_method_9_code (1 : Nat) (Option.none : Option Jvm.ClassFile.FieldType)) ∈ wA := wA_of_4 33 rfl rfl
set_option maxRecDepth 100000 in
theorem wd_754 : (Jvm.Cond.methodLink "LateFalls$Reader" (73 : Nat) ({ cls := "LateFalls$Reader", name := "number", desc := "(II)I" } : Jvm.MethodName)) ∈ wA := wA_of_4 34 rfl rfl
set_option maxRecDepth 100000 in
theorem wd_756 : (Jvm.Cond.instanceMethod ({ cls := "LateFalls$Reader", name := "number", desc := "(II)I" } : Jvm.MethodName)) ∈ wA := wA_of_4 36 rfl rfl
set_option maxRecDepth 100000 in
theorem wd_757 : (Jvm.Cond.code ({ cls := "LateFalls$Reader", name := "number", desc := "(II)I" } : Jvm.MethodName) prog_7_method_5_code (4 : Nat) (Option.some Jvm.ClassFile.FieldType.int)) ∈ wA := wA_of_4 37 rfl rfl
set_option maxRecDepth 100000 in
theorem wd_758 : (Jvm.Cond.methodLink "LateFalls$Reader" (95 : Nat) ({ cls := "LateFalls$Tokens", name := "isNumber", desc := "()Z" } : Jvm.MethodName)) ∈ wA := wA_of_4 38 rfl rfl
set_option maxRecDepth 100000 in
theorem wd_759 : (Jvm.Cond.instanceMethod ({ cls := "LateFalls$Tokens", name := "isNumber", desc := "()Z" } : Jvm.MethodName)) ∈ wA := wA_of_4 39 rfl rfl
set_option maxRecDepth 100000 in
theorem wd_760 : (Jvm.Cond.selects "LateFalls$Tokens" ({ cls := "LateFalls$Tokens", name := "isNumber", desc := "()Z" } : Jvm.MethodName) ({ cls := "LateFalls$Tokens", name := "isNumber", desc := "()Z" } : Jvm.MethodName)) ∈ wA := wA_of_4 40 rfl rfl
set_option maxRecDepth 100000 in
theorem wd_761 : (Jvm.Cond.code ({ cls := "LateFalls$Tokens", name := "isNumber", desc := "()Z" } : Jvm.MethodName) prog_9_method_10_code (1 : Nat) (Option.some Jvm.ClassFile.FieldType.boolean)) ∈ wA := wA_of_4 41 rfl rfl
set_option maxRecDepth 100000 in
theorem wd_762 : (Jvm.Cond.methodLink "LateFalls$Reader" (84 : Nat) ({ cls := "LateFalls$Reader", name := "lineEnd", desc := "()V" } : Jvm.MethodName)) ∈ wA := wA_of_4 42 rfl rfl
set_option maxRecDepth 100000 in
theorem wd_764 : (Jvm.Cond.instanceMethod ({ cls := "LateFalls$Reader", name := "lineEnd", desc := "()V" } : Jvm.MethodName)) ∈ wA := wA_of_4 44 rfl rfl
set_option maxRecDepth 100000 in
theorem wd_765 : (Jvm.Cond.code ({ cls := "LateFalls$Reader", name := "lineEnd", desc := "()V" } : Jvm.MethodName) prog_7_method_6_code (1 : Nat) (Option.none : Option Jvm.ClassFile.FieldType)) ∈ wA := wA_of_4 45 rfl rfl
set_option maxRecDepth 100000 in
theorem wd_766 : (Jvm.Cond.methodLink "LateFalls$Reader" (58 : Nat) ({ cls := "LateFalls$Reader", name := "thingLine", desc := "()V" } : Jvm.MethodName)) ∈ wA := wA_of_4 46 rfl rfl
set_option maxRecDepth 100000 in
theorem wd_768 : (Jvm.Cond.instanceMethod ({ cls := "LateFalls$Reader", name := "thingLine", desc := "()V" } : Jvm.MethodName)) ∈ wA := wA_of_4 48 rfl rfl
set_option maxRecDepth 100000 in
theorem wd_769 : (Jvm.Cond.code ({ cls := "LateFalls$Reader", name := "thingLine", desc := "()V" } : Jvm.MethodName) prog_7_method_8_code (2 : Nat) (Option.none : Option Jvm.ClassFile.FieldType)) ∈ wA := wA_of_4 49 rfl rfl
set_option maxRecDepth 100000 in
theorem wd_770 : (Jvm.Cond.methodLink "LateFalls$Reader" (117 : Nat) ({ cls := "LateFalls$Reader", name := "heldThing", desc := "(I)V" } : Jvm.MethodName)) ∈ wA := wA_of_4 50 rfl rfl
set_option maxRecDepth 100000 in
theorem wd_772 : (Jvm.Cond.instanceMethod ({ cls := "LateFalls$Reader", name := "heldThing", desc := "(I)V" } : Jvm.MethodName)) ∈ wA := wA_of_4 52 rfl rfl
set_option maxRecDepth 100000 in
theorem wd_773 : (Jvm.Cond.code ({ cls := "LateFalls$Reader", name := "heldThing", desc := "(I)V" } : Jvm.MethodName) prog_7_method_9_code (2 : Nat) (Option.none : Option Jvm.ClassFile.FieldType)) ∈ wA := wA_of_4 53 rfl rfl
set_option maxRecDepth 100000 in
theorem wd_774 : (Jvm.Cond.methodLink "LateFalls$Reader" (120 : Nat) ({ cls := "LateFalls$Reader", name := "hangingThing", desc := "(I)V" } : Jvm.MethodName)) ∈ wA := wA_of_4 54 rfl rfl
set_option maxRecDepth 100000 in
theorem wd_776 : (Jvm.Cond.instanceMethod ({ cls := "LateFalls$Reader", name := "hangingThing", desc := "(I)V" } : Jvm.MethodName)) ∈ wA := wA_of_4 56 rfl rfl
set_option maxRecDepth 100000 in
theorem wd_777 : (Jvm.Cond.code ({ cls := "LateFalls$Reader", name := "hangingThing", desc := "(I)V" } : Jvm.MethodName) prog_7_method_10_code (4 : Nat) (Option.none : Option Jvm.ClassFile.FieldType)) ∈ wA := wA_of_4 57 rfl rfl
set_option maxRecDepth 100000 in
theorem wd_778 : (Jvm.Cond.methodLink "LateFalls$Reader" (132 : Nat) ({ cls := "LateFalls$Scene", name := "isFree", desc := "(II)Z" } : Jvm.MethodName)) ∈ wA := wA_of_4 58 rfl rfl
set_option maxRecDepth 100000 in
theorem wd_779 : (Jvm.Cond.methodLink "LateFalls$Reader" (123 : Nat) ({ cls := "LateFalls$Reader", name := "lyingThing", desc := "(I)V" } : Jvm.MethodName)) ∈ wA := wA_of_4 59 rfl rfl
set_option maxRecDepth 100000 in
theorem wd_781 : (Jvm.Cond.instanceMethod ({ cls := "LateFalls$Reader", name := "lyingThing", desc := "(I)V" } : Jvm.MethodName)) ∈ wA := wA_of_4 61 rfl rfl
set_option maxRecDepth 100000 in
theorem wd_782 : (Jvm.Cond.code ({ cls := "LateFalls$Reader", name := "lyingThing", desc := "(I)V" } : Jvm.MethodName) prog_7_method_11_code (4 : Nat) (Option.none : Option Jvm.ClassFile.FieldType)) ∈ wA := wA_of_4 62 rfl rfl
set_option maxRecDepth 100000 in
theorem wd_783 : (Jvm.Cond.methodLink "LateFalls$Reader" (142 : Nat) ({ cls := "LateFalls$Scene", name := "lying", desc := "(I)I" } : Jvm.MethodName)) ∈ wA := wA_of_4 63 rfl rfl
set_option maxRecDepth 100000 in
theorem wd_784 : (Jvm.Cond.methodLink "LateFalls$Reader" (146 : Nat) ({ cls := "LateFalls$Scene", name := "thingAt", desc := "(II)I" } : Jvm.MethodName)) ∈ wA := wA_of_4 64 rfl rfl
set_option maxRecDepth 100000 in
theorem wd_785 : (Jvm.Cond.methodLink "LateFalls$Reader" (61 : Nat) ({ cls := "LateFalls$Reader", name := "walkerLine", desc := "()V" } : Jvm.MethodName)) ∈ wA := wA_of_4 65 rfl rfl
set_option maxRecDepth 100000 in
theorem wd_787 : (Jvm.Cond.instanceMethod ({ cls := "LateFalls$Reader", name := "walkerLine", desc := "()V" } : Jvm.MethodName)) ∈ wA := wA_of_4 67 rfl rfl
set_option maxRecDepth 100000 in
theorem wd_788 : (Jvm.Cond.code ({ cls := "LateFalls$Reader", name := "walkerLine", desc := "()V" } : Jvm.MethodName) prog_7_method_12_code (3 : Nat) (Option.none : Option Jvm.ClassFile.FieldType)) ∈ wA := wA_of_4 68 rfl rfl
set_option maxRecDepth 100000 in
theorem wd_789 : (Jvm.Cond.methodLink "LateFalls$Reader" (64 : Nat) ({ cls := "LateFalls$Reader", name := "hangsLine", desc := "()V" } : Jvm.MethodName)) ∈ wA := wA_of_4 69 rfl rfl
set_option maxRecDepth 100000 in
theorem wd_791 : (Jvm.Cond.instanceMethod ({ cls := "LateFalls$Reader", name := "hangsLine", desc := "()V" } : Jvm.MethodName)) ∈ wA := wA_of_4 71 rfl rfl
set_option maxRecDepth 100000 in
theorem wd_792 : (Jvm.Cond.code ({ cls := "LateFalls$Reader", name := "hangsLine", desc := "()V" } : Jvm.MethodName) prog_7_method_13_code (1 : Nat) (Option.none : Option Jvm.ClassFile.FieldType)) ∈ wA := wA_of_4 72 rfl rfl
set_option maxRecDepth 100000 in
theorem wd_793 : (Jvm.Cond.methodLink "LateFalls$Reader" (165 : Nat) ({ cls := "LateFalls$Reader", name := "sum", desc := "(I)V" } : Jvm.MethodName)) ∈ wA := wA_of_4 73 rfl rfl
set_option maxRecDepth 100000 in
theorem wd_795 : (Jvm.Cond.instanceMethod ({ cls := "LateFalls$Reader", name := "sum", desc := "(I)V" } : Jvm.MethodName)) ∈ wA := wA_of_4 75 rfl rfl
set_option maxRecDepth 100000 in
theorem wd_796 : (Jvm.Cond.code ({ cls := "LateFalls$Reader", name := "sum", desc := "(I)V" } : Jvm.MethodName) prog_7_method_20_code (6 : Nat) (Option.none : Option Jvm.ClassFile.FieldType)) ∈ wA := wA_of_4 76 rfl rfl
set_option maxRecDepth 100000 in
theorem wd_797 : (Jvm.Cond.methodLink "LateFalls$Reader" (196 : Nat) ({ cls := "LateFalls$Reader", name := "atom", desc := "(I)V" } : Jvm.MethodName)) ∈ wA := wA_of_4 77 rfl rfl
set_option maxRecDepth 100000 in
theorem wd_799 : (Jvm.Cond.instanceMethod ({ cls := "LateFalls$Reader", name := "atom", desc := "(I)V" } : Jvm.MethodName)) ∈ wA := wA_of_4 79 rfl rfl
set_option maxRecDepth 100000 in
theorem wd_800 : (Jvm.Cond.code ({ cls := "LateFalls$Reader", name := "atom", desc := "(I)V" } : Jvm.MethodName) prog_7_method_21_code (3 : Nat) (Option.none : Option Jvm.ClassFile.FieldType)) ∈ wA := wA_of_4 80 rfl rfl
set_option maxRecDepth 100000 in
theorem wd_801 : (Jvm.Cond.methodLink "LateFalls$Reader" (189 : Nat) ({ cls := "LateFalls$Reader", name := "isTooDeep", desc := "(I)Z" } : Jvm.MethodName)) ∈ wA := wA_of_4 81 rfl rfl
set_option maxRecDepth 100000 in
theorem wd_803 : (Jvm.Cond.instanceMethod ({ cls := "LateFalls$Reader", name := "isTooDeep", desc := "(I)Z" } : Jvm.MethodName)) ∈ wA := wA_of_4 83 rfl rfl
set_option maxRecDepth 100000 in
theorem wd_804 : (Jvm.Cond.code ({ cls := "LateFalls$Reader", name := "isTooDeep", desc := "(I)Z" } : Jvm.MethodName) prog_7_method_16_code (2 : Nat) (Option.some Jvm.ClassFile.FieldType.boolean)) ∈ wA := wA_of_4 84 rfl rfl
set_option maxRecDepth 100000 in
theorem wd_805 : (Jvm.Cond.methodLink "LateFalls$Reader" (199 : Nat) ({ cls := "LateFalls$Reader", name := "given", desc := "(I)I" } : Jvm.MethodName)) ∈ wA := wA_of_4 85 rfl rfl
set_option maxRecDepth 100000 in
theorem wd_807 : (Jvm.Cond.instanceMethod ({ cls := "LateFalls$Reader", name := "given", desc := "(I)I" } : Jvm.MethodName)) ∈ wA := wA_of_4 87 rfl rfl
set_option maxRecDepth 100000 in
theorem wd_808 : (Jvm.Cond.code ({ cls := "LateFalls$Reader", name := "given", desc := "(I)I" } : Jvm.MethodName) prog_7_method_22_code (2 : Nat) (Option.some Jvm.ClassFile.FieldType.int)) ∈ wA := wA_of_4 88 rfl rfl
set_option maxRecDepth 100000 in
theorem wd_809 : (Jvm.Cond.methodLink "LateFalls$Reader" (186 : Nat) ({ cls := "LateFalls$Reader", name := "emit", desc := "(I)V" } : Jvm.MethodName)) ∈ wA := wA_of_4 89 rfl rfl
set_option maxRecDepth 100000 in
theorem wd_811 : (Jvm.Cond.instanceMethod ({ cls := "LateFalls$Reader", name := "emit", desc := "(I)V" } : Jvm.MethodName)) ∈ wA := wA_of_4 91 rfl rfl
set_option maxRecDepth 100000 in
theorem wd_812 : (Jvm.Cond.code ({ cls := "LateFalls$Reader", name := "emit", desc := "(I)V" } : Jvm.MethodName) prog_7_method_15_code (2 : Nat) (Option.none : Option Jvm.ClassFile.FieldType)) ∈ wA := wA_of_4 92 rfl rfl
set_option maxRecDepth 100000 in
theorem wd_813 : (Jvm.Cond.classLink "LateFalls$Reader" (168 : Nat) "LateFalls$Law") ∈ wA := wA_of_4 93 rfl rfl
set_option maxRecDepth 100000 in
theorem wd_814 : (Jvm.Cond.instantiable "LateFalls$Law" (3 : Nat)) ∈ wA := wA_of_4 94 rfl rfl
set_option maxRecDepth 100000 in
theorem wd_815 : (Jvm.Cond.methodLink "LateFalls$Reader" (170 : Nat) ({ cls := "LateFalls$Law", name := "<init>", desc := "([II)V" } : Jvm.MethodName)) ∈ wA := wA_of_4 95 rfl rfl
set_option maxRecDepth 100000 in
theorem wd_816 : (Jvm.Cond.instanceMethod ({ cls := "LateFalls$Law", name := "<init>", desc := "([II)V" } : Jvm.MethodName)) ∈ wA := wA_of_4 96 rfl rfl
set_option maxRecDepth 100000 in
theorem wd_817 : (Jvm.Cond.code ({ cls := "LateFalls$Law", name := "<init>", desc := "([II)V" } : Jvm.MethodName) prog_6_method_1_code (3 : Nat) (Option.none : Option Jvm.ClassFile.FieldType)) ∈ wA := wA_of_4 97 rfl rfl
set_option maxRecDepth 100000 in
theorem wd_818 : (Jvm.Cond.methodLink "LateFalls$Law" (1 : Nat) ({ cls := "java/lang/Object", name := "<init>", desc := "()V" } : Jvm.MethodName)) ∈ wA := wA_of_4 98 rfl rfl
set_option maxRecDepth 100000 in
theorem wd_819 : (Jvm.Cond.methodLink "LateFalls$Law" (22 : Nat) ({ cls := "java/lang/Math", name := "max", desc := "(II)I" } : Jvm.MethodName)) ∈ wA := wA_of_4 99 rfl rfl
set_option maxRecDepth 100000 in
theorem wd_820 : (Jvm.Cond.methodLink "LateFalls$Law" (28 : Nat) ({ cls := "java/lang/System", name := "arraycopy", desc := "(Ljava/lang/Object;ILjava/lang/Object;II)V" } : Jvm.MethodName)) ∈ wA := wA_of_4 100 rfl rfl
set_option maxRecDepth 100000 in
theorem wd_821 : (Jvm.Cond.fieldLink "LateFalls$Law" (25 : Nat) "LateFalls$Law" "steps" "[I") ∈ wA := wA_of_4 101 rfl rfl
set_option maxRecDepth 100000 in
theorem wd_822 : (Jvm.Cond.fieldLink "LateFalls$Law" (9 : Nat) "LateFalls$Law" "given" "[I") ∈ wA := wA_of_4 102 rfl rfl
set_option maxRecDepth 100000 in
theorem wd_823 : (Jvm.Cond.fieldLink "LateFalls$District" (44 : Nat) "LateFalls$Law" "given" "[I") ∈ wA := wA_of_4 103 rfl rfl
set_option maxRecDepth 100000 in
theorem wd_824 : (Jvm.Cond.fieldLink "LateFalls$Scene" (118 : Nat) "LateFalls$Law" "given" "[I") ∈ wA := wA_of_4 104 rfl rfl
set_option maxRecDepth 100000 in
theorem wd_825 : (Jvm.Cond.fieldLink "LateFalls$Law" (13 : Nat) "LateFalls$Law" "stack" "[I") ∈ wA := wA_of_4 105 rfl rfl
set_option maxRecDepth 100000 in
theorem wd_826 : (Jvm.Cond.laysFinal "LateFalls$Law" "LateFalls$Law" "steps" "[I") ∈ wA := wA_of_4 106 rfl rfl
set_option maxRecDepth 100000 in
theorem wd_828 : (Jvm.Cond.laysFinal "LateFalls$Law" "LateFalls$Law" "given" "[I") ∈ wA := wA_of_4 108 rfl rfl
set_option maxRecDepth 100000 in
theorem wd_830 : (Jvm.Cond.laysFinal "LateFalls$Law" "LateFalls$Law" "stack" "[I") ∈ wA := wA_of_4 110 rfl rfl
set_option maxRecDepth 100000 in
theorem wd_833 : (Jvm.Cond.methodLink "LateFalls$Reader" (67 : Nat) ({ cls := "LateFalls$Reader", name := "freesLine", desc := "()V" } : Jvm.MethodName)) ∈ wA := wA_of_4 113 rfl rfl
set_option maxRecDepth 100000 in
theorem wd_835 : (Jvm.Cond.instanceMethod ({ cls := "LateFalls$Reader", name := "freesLine", desc := "()V" } : Jvm.MethodName)) ∈ wA := wA_of_4 115 rfl rfl
set_option maxRecDepth 100000 in
theorem wd_836 : (Jvm.Cond.code ({ cls := "LateFalls$Reader", name := "freesLine", desc := "()V" } : Jvm.MethodName) prog_7_method_14_code (1 : Nat) (Option.none : Option Jvm.ClassFile.FieldType)) ∈ wA := wA_of_4 116 rfl rfl
set_option maxRecDepth 100000 in
theorem wd_837 : (Jvm.Cond.methodLink "LateFalls$Reader" (177 : Nat) ({ cls := "LateFalls$Reader", name := "truth", desc := "(I)V" } : Jvm.MethodName)) ∈ wA := wA_of_4 117 rfl rfl
set_option maxRecDepth 100000 in
theorem wd_839 : (Jvm.Cond.instanceMethod ({ cls := "LateFalls$Reader", name := "truth", desc := "(I)V" } : Jvm.MethodName)) ∈ wA := wA_of_4 119 rfl rfl
set_option maxRecDepth 100000 in
theorem wd_840 : (Jvm.Cond.code ({ cls := "LateFalls$Reader", name := "truth", desc := "(I)V" } : Jvm.MethodName) prog_7_method_17_code (5 : Nat) (Option.none : Option Jvm.ClassFile.FieldType)) ∈ wA := wA_of_4 120 rfl rfl
set_option maxRecDepth 100000 in
theorem wd_841 : (Jvm.Cond.methodLink "LateFalls$Reader" (183 : Nat) ({ cls := "LateFalls$Reader", name := "unit", desc := "(I)V" } : Jvm.MethodName)) ∈ wA := wA_of_4 121 rfl rfl
set_option maxRecDepth 100000 in
theorem wd_843 : (Jvm.Cond.instanceMethod ({ cls := "LateFalls$Reader", name := "unit", desc := "(I)V" } : Jvm.MethodName)) ∈ wA := wA_of_4 123 rfl rfl
set_option maxRecDepth 100000 in
theorem wd_844 : (Jvm.Cond.code ({ cls := "LateFalls$Reader", name := "unit", desc := "(I)V" } : Jvm.MethodName) prog_7_method_18_code (3 : Nat) (Option.none : Option Jvm.ClassFile.FieldType)) ∈ wA := wA_of_4 124 rfl rfl
set_option maxRecDepth 100000 in
theorem wd_845 : (Jvm.Cond.methodLink "LateFalls$Reader" (193 : Nat) ({ cls := "LateFalls$Reader", name := "comparison", desc := "(I)I" } : Jvm.MethodName)) ∈ wA := wA_of_4 125 rfl rfl
set_option maxRecDepth 100000 in
theorem wd_846 : (Jvm.Cond.static ({ cls := "LateFalls$Reader", name := "comparison", desc := "(I)I" } : Jvm.MethodName)) ∈ wA := wA_of_4 126 rfl rfl
set_option maxRecDepth 100000 in
theorem wd_847 : (Jvm.Cond.code ({ cls := "LateFalls$Reader", name := "comparison", desc := "(I)I" } : Jvm.MethodName) prog_7_method_19_code (1 : Nat) (Option.some Jvm.ClassFile.FieldType.int)) ∈ wA := wA_of_4 127 rfl rfl
set_option maxRecDepth 100000 in
theorem wd_848 : (Jvm.Cond.methodLink "LateFalls$Reader" (87 : Nat) ({ cls := "LateFalls$Reader", name := "countFromHour", desc := "()V" } : Jvm.MethodName)) ∈ wA := wA_of_4 128 rfl rfl
set_option maxRecDepth 100000 in
theorem wd_850 : (Jvm.Cond.instanceMethod ({ cls := "LateFalls$Reader", name := "countFromHour", desc := "()V" } : Jvm.MethodName)) ∈ wA := wA_of_4 130 rfl rfl
set_option maxRecDepth 100000 in
theorem wd_851 : (Jvm.Cond.code ({ cls := "LateFalls$Reader", name := "countFromHour", desc := "()V" } : Jvm.MethodName) prog_7_method_23_code (2 : Nat) (Option.none : Option Jvm.ClassFile.FieldType)) ∈ wA := wA_of_4 131 rfl rfl
set_option maxRecDepth 100000 in
theorem wd_852 : (Jvm.Cond.methodLink "LateFalls" (106 : Nat) ({ cls := "LateFalls$Scene", name := "copyFrom", desc := "(LLateFalls$Scene;)V" } : Jvm.MethodName)) ∈ wA := wA_of_4 132 rfl rfl
set_option maxRecDepth 100000 in
theorem wd_853 : (Jvm.Cond.methodLink "LateFalls" (110 : Nat) ({ cls := "LateFalls$History", name := "forget", desc := "()V" } : Jvm.MethodName)) ∈ wA := wA_of_4 133 rfl rfl
set_option maxRecDepth 100000 in
theorem wd_854 : (Jvm.Cond.instanceMethod ({ cls := "LateFalls$History", name := "forget", desc := "()V" } : Jvm.MethodName)) ∈ wA := wA_of_4 134 rfl rfl
set_option maxRecDepth 100000 in
theorem wd_855 : (Jvm.Cond.selects "LateFalls$History" ({ cls := "LateFalls$History", name := "forget", desc := "()V" } : Jvm.MethodName) ({ cls := "LateFalls$History", name := "forget", desc := "()V" } : Jvm.MethodName)) ∈ wA := wA_of_4 135 rfl rfl
set_option maxRecDepth 100000 in
theorem wd_856 : (Jvm.Cond.code ({ cls := "LateFalls$History", name := "forget", desc := "()V" } : Jvm.MethodName) prog_4_method_2_code (1 : Nat) (Option.none : Option Jvm.ClassFile.FieldType)) ∈ wA := wA_of_4 136 rfl rfl
set_option maxRecDepth 100000 in
theorem wd_857 : (Jvm.Cond.methodLink "LateFallsLaw" (160 : Nat) ({ cls := "LateFallsLaw", name := "thing", desc := "(LLateFalls;II[J)I" } : Jvm.MethodName)) ∈ wA := wA_of_4 137 rfl rfl
set_option maxRecDepth 100000 in
theorem wd_858 : (Jvm.Cond.static ({ cls := "LateFallsLaw", name := "thing", desc := "(LLateFalls;II[J)I" } : Jvm.MethodName)) ∈ wA := wA_of_4 138 rfl rfl
set_option maxRecDepth 100000 in
theorem wd_859 : (Jvm.Cond.codeWith ({ cls := "LateFallsLaw", name := "thing", desc := "(LLateFalls;II[J)I" } : Jvm.MethodName) method_4_code (5 : Nat) (Option.some Jvm.ClassFile.FieldType.int) [((0 : Nat), (10 : Nat), (13 : Nat), (19 : Nat)), ((0 : Nat), (10 : Nat), (17 : Nat), (13 : Nat))]) ∈ wA := wA_of_4 139 rfl rfl
set_option maxRecDepth 100000 in
theorem wd_860 : (Jvm.Cond.classLink "LateFallsLaw" (19 : Nat) "java/util/NoSuchElementException") ∈ wA := wA_of_4 140 rfl rfl
set_option maxRecDepth 100000 in
theorem wd_861 : (Jvm.Cond.methodLink "LateFallsLaw" (15 : Nat) ({ cls := "LateFalls", name := "thing", desc := "(II)I" } : Jvm.MethodName)) ∈ wA := wA_of_4 141 rfl rfl
set_option maxRecDepth 100000 in
theorem wd_862 : (Jvm.Cond.instanceMethod ({ cls := "LateFalls", name := "thing", desc := "(II)I" } : Jvm.MethodName)) ∈ wA := wA_of_4 142 rfl rfl
set_option maxRecDepth 100000 in
theorem wd_863 : (Jvm.Cond.selects "LateFalls" ({ cls := "LateFalls", name := "thing", desc := "(II)I" } : Jvm.MethodName) ({ cls := "LateFalls", name := "thing", desc := "(II)I" } : Jvm.MethodName)) ∈ wA := wA_of_4 143 rfl rfl
set_option maxRecDepth 100000 in
theorem wd_864 : (Jvm.Cond.code ({ cls := "LateFalls", name := "thing", desc := "(II)I" } : Jvm.MethodName) prog_1_method_6_code (4 : Nat) (Option.some Jvm.ClassFile.FieldType.int)) ∈ wA := wA_of_4 144 rfl rfl
set_option maxRecDepth 100000 in
theorem wd_865 : (Jvm.Cond.methodLink "LateFalls" (120 : Nat) ({ cls := "LateFalls", name := "needThing", desc := "(I)V" } : Jvm.MethodName)) ∈ wA := wA_of_4 145 rfl rfl
set_option maxRecDepth 100000 in
theorem wd_867 : (Jvm.Cond.instanceMethod ({ cls := "LateFalls", name := "needThing", desc := "(I)V" } : Jvm.MethodName)) ∈ wA := wA_of_4 147 rfl rfl
set_option maxRecDepth 100000 in
theorem wd_868 : (Jvm.Cond.code ({ cls := "LateFalls", name := "needThing", desc := "(I)V" } : Jvm.MethodName) prog_1_method_11_code (2 : Nat) (Option.none : Option Jvm.ClassFile.FieldType)) ∈ wA := wA_of_4 148 rfl rfl
set_option maxRecDepth 100000 in
theorem wd_869 : (Jvm.Cond.classLink "LateFalls" (181 : Nat) "java/util/NoSuchElementException") ∈ wA := wA_of_4 149 rfl rfl
set_option maxRecDepth 100000 in
theorem wd_870 : (Jvm.Cond.instantiable "java/util/NoSuchElementException" (6 : Nat)) ∈ wA := wA_of_4 150 rfl rfl
set_option maxRecDepth 100000 in
theorem wd_872 : (Jvm.Cond.selects "java/util/NoSuchElementException" ({ cls := "java/lang/Throwable", name := "fillInStackTrace", desc := "(I)Ljava/lang/Throwable;" } : Jvm.MethodName) ({ cls := "java/lang/Throwable", name := "fillInStackTrace", desc := "(I)Ljava/lang/Throwable;" } : Jvm.MethodName)) ∈ wA := wA_of_4 152 rfl rfl
set_option maxRecDepth 100000 in
theorem wd_873 : (Jvm.Cond.lays "java/util/NoSuchElementException" "java/lang/Throwable" "cause" "Ljava/lang/Throwable;") ∈ wA := wA_of_4 153 rfl rfl
set_option maxRecDepth 100000 in
theorem wd_874 : (Jvm.Cond.lays "java/util/NoSuchElementException" "java/lang/Throwable" "stackTrace" "[Ljava/lang/StackTraceElement;") ∈ wA := wA_of_4 154 rfl rfl
set_option maxRecDepth 100000 in
theorem wd_875 : (Jvm.Cond.lays "java/util/NoSuchElementException" "java/lang/Throwable" "suppressedExceptions" "Ljava/util/List;") ∈ wA := wA_of_4 155 rfl rfl
set_option maxRecDepth 100000 in
theorem wd_876 : (Jvm.Cond.lays "java/util/NoSuchElementException" "java/lang/Throwable" "detailMessage" "Ljava/lang/String;") ∈ wA := wA_of_4 156 rfl rfl
set_option maxRecDepth 100000 in
theorem wd_877 : (Jvm.Cond.lays "java/util/NoSuchElementException" "java/lang/Throwable" "backtrace" "Ljava/lang/Object;") ∈ wA := wA_of_4 157 rfl rfl
set_option maxRecDepth 100000 in
theorem wd_879 : (Jvm.Cond.methodLink "LateFalls" (185 : Nat) ({ cls := "java/util/NoSuchElementException", name := "<init>", desc := "(Ljava/lang/String;)V" } : Jvm.MethodName)) ∈ wA := wA_of_4 159 rfl rfl
set_option maxRecDepth 100000 in
theorem wd_880 : (Jvm.Cond.instanceMethod ({ cls := "java/util/NoSuchElementException", name := "<init>", desc := "(Ljava/lang/String;)V" } : Jvm.MethodName)) ∈ wA := wA_of_4 160 rfl rfl
set_option maxRecDepth 100000 in
theorem wd_881 : (Jvm.Cond.code ({ cls := "java/util/NoSuchElementException", name := "<init>", desc := "(Ljava/lang/String;)V" } : Jvm.MethodName) prog_32_method_4_code (2 : Nat) (Option.none : Option Jvm.ClassFile.FieldType)) ∈ wA := wA_of_4 161 rfl rfl
set_option maxRecDepth 100000 in
theorem wd_882 : (Jvm.Cond.methodLink "java/util/NoSuchElementException" (13 : Nat) ({ cls := "java/lang/RuntimeException", name := "<init>", desc := "(Ljava/lang/String;)V" } : Jvm.MethodName)) ∈ wA := wA_of_4 162 rfl rfl
set_option maxRecDepth 100000 in
theorem wd_883 : (Jvm.Cond.lays "java/util/NoSuchElementException" "java/lang/Throwable" "depth" "I") ∈ wA := wA_of_4 163 rfl rfl
set_option maxRecDepth 100000 in
theorem wd_886 : (Jvm.Cond.methodLink "LateFallsLaw" (164 : Nat) ({ cls := "LateFallsLaw", name := "walker", desc := "(LLateFalls;II[J)I" } : Jvm.MethodName)) ∈ wA := wA_of_4 166 rfl rfl
set_option maxRecDepth 100000 in
theorem wd_887 : (Jvm.Cond.static ({ cls := "LateFallsLaw", name := "walker", desc := "(LLateFalls;II[J)I" } : Jvm.MethodName)) ∈ wA := wA_of_4 167 rfl rfl
set_option maxRecDepth 100000 in
theorem wd_888 : (Jvm.Cond.codeWith ({ cls := "LateFallsLaw", name := "walker", desc := "(LLateFalls;II[J)I" } : Jvm.MethodName) method_5_code (5 : Nat) (Option.some Jvm.ClassFile.FieldType.int) [((0 : Nat), (10 : Nat), (13 : Nat), (19 : Nat)), ((0 : Nat), (10 : Nat), (17 : Nat), (13 : Nat))]) ∈ wA := wA_of_4 168 rfl rfl
set_option maxRecDepth 100000 in
theorem wd_889 : (Jvm.Cond.methodLink "LateFallsLaw" (21 : Nat) ({ cls := "LateFalls", name := "walker", desc := "(II)I" } : Jvm.MethodName)) ∈ wA := wA_of_4 169 rfl rfl
set_option maxRecDepth 100000 in
theorem wd_890 : (Jvm.Cond.instanceMethod ({ cls := "LateFalls", name := "walker", desc := "(II)I" } : Jvm.MethodName)) ∈ wA := wA_of_4 170 rfl rfl
set_option maxRecDepth 100000 in
theorem wd_891 : (Jvm.Cond.selects "LateFalls" ({ cls := "LateFalls", name := "walker", desc := "(II)I" } : Jvm.MethodName) ({ cls := "LateFalls", name := "walker", desc := "(II)I" } : Jvm.MethodName)) ∈ wA := wA_of_4 171 rfl rfl
set_option maxRecDepth 100000 in
theorem wd_892 : (Jvm.Cond.code ({ cls := "LateFalls", name := "walker", desc := "(II)I" } : Jvm.MethodName) prog_1_method_7_code (3 : Nat) (Option.some Jvm.ClassFile.FieldType.int)) ∈ wA := wA_of_4 172 rfl rfl
set_option maxRecDepth 100000 in
theorem wd_893 : (Jvm.Cond.methodLink "LateFalls" (143 : Nat) ({ cls := "LateFalls", name := "needWalker", desc := "(I)V" } : Jvm.MethodName)) ∈ wA := wA_of_4 173 rfl rfl
set_option maxRecDepth 100000 in
theorem wd_895 : (Jvm.Cond.instanceMethod ({ cls := "LateFalls", name := "needWalker", desc := "(I)V" } : Jvm.MethodName)) ∈ wA := wA_of_4 175 rfl rfl
set_option maxRecDepth 100000 in
theorem wd_896 : (Jvm.Cond.code ({ cls := "LateFalls", name := "needWalker", desc := "(I)V" } : Jvm.MethodName) prog_1_method_12_code (2 : Nat) (Option.none : Option Jvm.ClassFile.FieldType)) ∈ wA := wA_of_4 176 rfl rfl
set_option maxRecDepth 100000 in
theorem wd_898 : (Jvm.Cond.methodLink "LateFalls" (146 : Nat) ({ cls := "LateFalls$District", name := "walkerColumn", desc := "(II)I" } : Jvm.MethodName)) ∈ wA := wA_of_4 178 rfl rfl
set_option maxRecDepth 100000 in
theorem wd_899 : (Jvm.Cond.methodLink "LateFallsLaw" (167 : Nat) ({ cls := "LateFallsLaw", name := "height", desc := "(LLateFalls;I[J)I" } : Jvm.MethodName)) ∈ wA := wA_of_4 179 rfl rfl
set_option maxRecDepth 100000 in
theorem wd_900 : (Jvm.Cond.static ({ cls := "LateFallsLaw", name := "height", desc := "(LLateFalls;I[J)I" } : Jvm.MethodName)) ∈ wA := wA_of_4 180 rfl rfl
set_option maxRecDepth 100000 in
theorem wd_901 : (Jvm.Cond.codeWith ({ cls := "LateFallsLaw", name := "height", desc := "(LLateFalls;I[J)I" } : Jvm.MethodName) method_6_code (4 : Nat) (Option.some Jvm.ClassFile.FieldType.int) [((0 : Nat), (9 : Nat), (12 : Nat), (19 : Nat))]) ∈ wA := wA_of_4 181 rfl rfl
set_option maxRecDepth 100000 in
theorem wd_902 : (Jvm.Cond.methodLink "LateFallsLaw" (24 : Nat) ({ cls := "LateFalls", name := "height", desc := "(I)I" } : Jvm.MethodName)) ∈ wA := wA_of_4 182 rfl rfl
set_option maxRecDepth 100000 in
theorem wd_903 : (Jvm.Cond.instanceMethod ({ cls := "LateFalls", name := "height", desc := "(I)I" } : Jvm.MethodName)) ∈ wA := wA_of_4 183 rfl rfl
set_option maxRecDepth 100000 in
theorem wd_904 : (Jvm.Cond.selects "LateFalls" ({ cls := "LateFalls", name := "height", desc := "(I)I" } : Jvm.MethodName) ({ cls := "LateFalls", name := "height", desc := "(I)I" } : Jvm.MethodName)) ∈ wA := wA_of_4 184 rfl rfl
set_option maxRecDepth 100000 in
theorem wd_905 : (Jvm.Cond.code ({ cls := "LateFalls", name := "height", desc := "(I)I" } : Jvm.MethodName) prog_1_method_8_code (2 : Nat) (Option.some Jvm.ClassFile.FieldType.int)) ∈ wA := wA_of_4 185 rfl rfl
set_option maxRecDepth 100000 in
theorem wd_906 : (Jvm.Cond.methodLink "LateFalls" (156 : Nat) ({ cls := "LateFalls", name := "needColumn", desc := "(I)V" } : Jvm.MethodName)) ∈ wA := wA_of_4 186 rfl rfl
set_option maxRecDepth 100000 in
theorem wd_908 : (Jvm.Cond.instanceMethod ({ cls := "LateFalls", name := "needColumn", desc := "(I)V" } : Jvm.MethodName)) ∈ wA := wA_of_4 188 rfl rfl
set_option maxRecDepth 100000 in
theorem wd_909 : (Jvm.Cond.code ({ cls := "LateFalls", name := "needColumn", desc := "(I)V" } : Jvm.MethodName) prog_1_method_13_code (2 : Nat) (Option.none : Option Jvm.ClassFile.FieldType)) ∈ wA := wA_of_4 189 rfl rfl
set_option maxRecDepth 100000 in
theorem wd_911 : (Jvm.Cond.methodLink "LateFalls" (159 : Nat) ({ cls := "LateFalls$Scene", name := "lying", desc := "(I)I" } : Jvm.MethodName)) ∈ wA := wA_of_4 191 rfl rfl
set_option maxRecDepth 100000 in
theorem wd_912 : (Jvm.Cond.methodLink "LateFallsLaw" (170 : Nat) ({ cls := "LateFallsLaw", name := "at", desc := "(LLateFalls;II[J)I" } : Jvm.MethodName)) ∈ wA := wA_of_4 192 rfl rfl
set_option maxRecDepth 100000 in
theorem wd_913 : (Jvm.Cond.static ({ cls := "LateFallsLaw", name := "at", desc := "(LLateFalls;II[J)I" } : Jvm.MethodName)) ∈ wA := wA_of_4 193 rfl rfl
set_option maxRecDepth 100000 in
theorem wd_914 : (Jvm.Cond.codeWith ({ cls := "LateFallsLaw", name := "at", desc := "(LLateFalls;II[J)I" } : Jvm.MethodName) method_7_code (5 : Nat) (Option.some Jvm.ClassFile.FieldType.int) [((0 : Nat), (10 : Nat), (13 : Nat), (19 : Nat))]) ∈ wA := wA_of_4 194 rfl rfl
set_option maxRecDepth 100000 in
theorem wd_915 : (Jvm.Cond.methodLink "LateFallsLaw" (27 : Nat) ({ cls := "LateFalls", name := "at", desc := "(II)I" } : Jvm.MethodName)) ∈ wA := wA_of_4 195 rfl rfl
set_option maxRecDepth 100000 in
theorem wd_916 : (Jvm.Cond.instanceMethod ({ cls := "LateFalls", name := "at", desc := "(II)I" } : Jvm.MethodName)) ∈ wA := wA_of_4 196 rfl rfl
set_option maxRecDepth 100000 in
theorem wd_917 : (Jvm.Cond.selects "LateFalls" ({ cls := "LateFalls", name := "at", desc := "(II)I" } : Jvm.MethodName) ({ cls := "LateFalls", name := "at", desc := "(II)I" } : Jvm.MethodName)) ∈ wA := wA_of_4 197 rfl rfl
set_option maxRecDepth 100000 in
theorem wd_918 : (Jvm.Cond.code ({ cls := "LateFalls", name := "at", desc := "(II)I" } : Jvm.MethodName) prog_1_method_9_code (3 : Nat) (Option.some Jvm.ClassFile.FieldType.int)) ∈ wA := wA_of_4 198 rfl rfl
set_option maxRecDepth 100000 in
theorem wd_919 : (Jvm.Cond.methodLink "LateFalls" (163 : Nat) ({ cls := "LateFalls", name := "needPlace", desc := "(II)V" } : Jvm.MethodName)) ∈ wA := wA_of_4 199 rfl rfl
set_option maxRecDepth 100000 in
theorem wd_921 : (Jvm.Cond.instanceMethod ({ cls := "LateFalls", name := "needPlace", desc := "(II)V" } : Jvm.MethodName)) ∈ wA := wA_of_4 201 rfl rfl
set_option maxRecDepth 100000 in
theorem wd_922 : (Jvm.Cond.code ({ cls := "LateFalls", name := "needPlace", desc := "(II)V" } : Jvm.MethodName) prog_1_method_14_code (3 : Nat) (Option.none : Option Jvm.ClassFile.FieldType)) ∈ wA := wA_of_4 202 rfl rfl
set_option maxRecDepth 100000 in
theorem wd_923 : (Jvm.Cond.methodLink "LateFalls" (196 : Nat) ({ cls := "LateFalls$District", name := "hasPlace", desc := "(II)Z" } : Jvm.MethodName)) ∈ wA := wA_of_4 203 rfl rfl
set_option maxRecDepth 100000 in
theorem wd_925 : (Jvm.Cond.methodLink "LateFalls" (167 : Nat) ({ cls := "LateFalls$Scene", name := "thingAt", desc := "(II)I" } : Jvm.MethodName)) ∈ wA := wA_of_4 205 rfl rfl
set_option maxRecDepth 100000 in
theorem wd_926 : (Jvm.Cond.methodLink "LateFallsLaw" (173 : Nat) ({ cls := "LateFallsLaw", name := "hanging", desc := "(LLateFalls;IIII[J)I" } : Jvm.MethodName)) ∈ wA := wA_of_4 206 rfl rfl
set_option maxRecDepth 100000 in
theorem wd_927 : (Jvm.Cond.static ({ cls := "LateFallsLaw", name := "hanging", desc := "(LLateFalls;IIII[J)I" } : Jvm.MethodName)) ∈ wA := wA_of_4 207 rfl rfl
set_option maxRecDepth 100000 in
theorem wd_928 : (Jvm.Cond.codeWith ({ cls := "LateFallsLaw", name := "hanging", desc := "(LLateFalls;IIII[J)I" } : Jvm.MethodName) method_8_code (7 : Nat) (Option.some Jvm.ClassFile.FieldType.int) [((0 : Nat), (14 : Nat), (17 : Nat), (19 : Nat)), ((0 : Nat), (14 : Nat), (21 : Nat), (13 : Nat))]) ∈ wA := wA_of_4 208 rfl rfl
set_option maxRecDepth 100000 in
theorem wd_929 : (Jvm.Cond.methodLink "LateFallsLaw" (30 : Nat) ({ cls := "LateFalls", name := "hanging", desc := "(IIII)I" } : Jvm.MethodName)) ∈ wA := wA_of_4 209 rfl rfl
set_option maxRecDepth 100000 in
theorem wd_930 : (Jvm.Cond.instanceMethod ({ cls := "LateFalls", name := "hanging", desc := "(IIII)I" } : Jvm.MethodName)) ∈ wA := wA_of_4 210 rfl rfl
set_option maxRecDepth 100000 in
theorem wd_931 : (Jvm.Cond.selects "LateFalls" ({ cls := "LateFalls", name := "hanging", desc := "(IIII)I" } : Jvm.MethodName) ({ cls := "LateFalls", name := "hanging", desc := "(IIII)I" } : Jvm.MethodName)) ∈ wA := wA_of_4 211 rfl rfl
set_option maxRecDepth 100000 in
theorem wd_932 : (Jvm.Cond.code ({ cls := "LateFalls", name := "hanging", desc := "(IIII)I" } : Jvm.MethodName) prog_1_method_10_code (6 : Nat) (Option.some Jvm.ClassFile.FieldType.int)) ∈ wA := wA_of_4 212 rfl rfl
set_option maxRecDepth 100000 in
theorem wd_933 : (Jvm.Cond.methodLink "LateFalls" (170 : Nat) ({ cls := "LateFalls", name := "needWithin", desc := "(III)V" } : Jvm.MethodName)) ∈ wA := wA_of_4 213 rfl rfl
set_option maxRecDepth 100000 in
theorem wd_934 : (Jvm.Cond.static ({ cls := "LateFalls", name := "needWithin", desc := "(III)V" } : Jvm.MethodName)) ∈ wA := wA_of_4 214 rfl rfl
set_option maxRecDepth 100000 in
theorem wd_935 : (Jvm.Cond.code ({ cls := "LateFalls", name := "needWithin", desc := "(III)V" } : Jvm.MethodName) prog_1_method_15_code (3 : Nat) (Option.none : Option Jvm.ClassFile.FieldType)) ∈ wA := wA_of_4 215 rfl rfl
set_option maxRecDepth 100000 in
theorem wd_937 : (Jvm.Cond.methodLink "LateFalls" (174 : Nat) ({ cls := "LateFalls$District", name := "hangTime", desc := "(IIIIII)I" } : Jvm.MethodName)) ∈ wA := wA_of_4 217 rfl rfl
set_option maxRecDepth 100000 in
theorem wd_938 : (Jvm.Cond.methodLink "LateFallsLaw" (190 : Nat) ({ cls := "LateFallsLaw", name := "hours", desc := "(LLateFalls;I[J)I" } : Jvm.MethodName)) ∈ wA := wA_of_4 218 rfl rfl
set_option maxRecDepth 100000 in
theorem wd_939 : (Jvm.Cond.static ({ cls := "LateFallsLaw", name := "hours", desc := "(LLateFalls;I[J)I" } : Jvm.MethodName)) ∈ wA := wA_of_4 219 rfl rfl
set_option maxRecDepth 100000 in
theorem wd_940 : (Jvm.Cond.codeWith ({ cls := "LateFallsLaw", name := "hours", desc := "(LLateFalls;I[J)I" } : Jvm.MethodName) method_9_code (4 : Nat) (Option.some Jvm.ClassFile.FieldType.int) [((0 : Nat), (9 : Nat), (12 : Nat), (13 : Nat))]) ∈ wA := wA_of_4 220 rfl rfl
set_option maxRecDepth 100000 in
theorem wd_941 : (Jvm.Cond.methodLink "LateFallsLaw" (34 : Nat) ({ cls := "LateFalls", name := "hours", desc := "(I)I" } : Jvm.MethodName)) ∈ wA := wA_of_4 221 rfl rfl
set_option maxRecDepth 100000 in
theorem wd_942 : (Jvm.Cond.instanceMethod ({ cls := "LateFalls", name := "hours", desc := "(I)I" } : Jvm.MethodName)) ∈ wA := wA_of_4 222 rfl rfl
set_option maxRecDepth 100000 in
theorem wd_943 : (Jvm.Cond.selects "LateFalls" ({ cls := "LateFalls", name := "hours", desc := "(I)I" } : Jvm.MethodName) ({ cls := "LateFalls", name := "hours", desc := "(I)I" } : Jvm.MethodName)) ∈ wA := wA_of_4 223 rfl rfl
set_option maxRecDepth 100000 in
theorem wd_944 : (Jvm.Cond.code ({ cls := "LateFalls", name := "hours", desc := "(I)I" } : Jvm.MethodName) prog_1_method_19_code (2 : Nat) (Option.some Jvm.ClassFile.FieldType.int)) ∈ wA := wA_of_4 224 rfl rfl
set_option maxRecDepth 100000 in
theorem wd_945 : (Jvm.Cond.methodLink "LateFalls" (224 : Nat) ({ cls := "LateFalls$Scene", name := "passTo", desc := "(I)I" } : Jvm.MethodName)) ∈ wA := wA_of_4 225 rfl rfl
set_option maxRecDepth 100000 in
theorem wd_946 : (Jvm.Cond.instanceMethod ({ cls := "LateFalls$Scene", name := "passTo", desc := "(I)I" } : Jvm.MethodName)) ∈ wA := wA_of_4 226 rfl rfl
set_option maxRecDepth 100000 in
theorem wd_947 : (Jvm.Cond.selects "LateFalls$Scene" ({ cls := "LateFalls$Scene", name := "passTo", desc := "(I)I" } : Jvm.MethodName) ({ cls := "LateFalls$Scene", name := "passTo", desc := "(I)I" } : Jvm.MethodName)) ∈ wA := wA_of_4 227 rfl rfl
set_option maxRecDepth 100000 in
theorem wd_948 : (Jvm.Cond.code ({ cls := "LateFalls$Scene", name := "passTo", desc := "(I)I" } : Jvm.MethodName) prog_8_method_15_code (4 : Nat) (Option.some Jvm.ClassFile.FieldType.int)) ∈ wA := wA_of_4 228 rfl rfl
set_option maxRecDepth 100000 in
theorem wd_949 : (Jvm.Cond.methodLink "LateFalls$Scene" (90 : Nat) ({ cls := "LateFalls$Scene", name := "nextFall", desc := "(I)Z" } : Jvm.MethodName)) ∈ wA := wA_of_4 229 rfl rfl
set_option maxRecDepth 100000 in
theorem wd_950 : (Jvm.Cond.methodLink "LateFallsLaw" (193 : Nat) ({ cls := "LateFallsLaw", name := "undo", desc := "(LLateFalls;I[J)I" } : Jvm.MethodName)) ∈ wA := wA_of_4 230 rfl rfl
set_option maxRecDepth 100000 in
theorem wd_951 : (Jvm.Cond.static ({ cls := "LateFallsLaw", name := "undo", desc := "(LLateFalls;I[J)I" } : Jvm.MethodName)) ∈ wA := wA_of_4 231 rfl rfl
set_option maxRecDepth 100000 in
theorem wd_952 : (Jvm.Cond.codeWith ({ cls := "LateFallsLaw", name := "undo", desc := "(LLateFalls;I[J)I" } : Jvm.MethodName) method_10_code (4 : Nat) (Option.some Jvm.ClassFile.FieldType.int) [((0 : Nat), (9 : Nat), (12 : Nat), (13 : Nat))]) ∈ wA := wA_of_4 232 rfl rfl
set_option maxRecDepth 100000 in
theorem wd_953 : (Jvm.Cond.methodLink "LateFallsLaw" (37 : Nat) ({ cls := "LateFalls", name := "undo", desc := "(I)I" } : Jvm.MethodName)) ∈ wA := wA_of_4 233 rfl rfl
set_option maxRecDepth 100000 in
theorem wd_954 : (Jvm.Cond.instanceMethod ({ cls := "LateFalls", name := "undo", desc := "(I)I" } : Jvm.MethodName)) ∈ wA := wA_of_4 234 rfl rfl
set_option maxRecDepth 100000 in
theorem wd_955 : (Jvm.Cond.selects "LateFalls" ({ cls := "LateFalls", name := "undo", desc := "(I)I" } : Jvm.MethodName) ({ cls := "LateFalls", name := "undo", desc := "(I)I" } : Jvm.MethodName)) ∈ wA := wA_of_4 235 rfl rfl
set_option maxRecDepth 100000 in
theorem wd_956 : (Jvm.Cond.code ({ cls := "LateFalls", name := "undo", desc := "(I)I" } : Jvm.MethodName) prog_1_method_20_code (2 : Nat) (Option.some Jvm.ClassFile.FieldType.int)) ∈ wA := wA_of_4 236 rfl rfl
set_option maxRecDepth 100000 in
theorem wd_958 : (Jvm.Cond.methodLink "LateFalls" (232 : Nat) ({ cls := "LateFalls$History", name := "goBack", desc := "(ILLateFalls$Scene;)V" } : Jvm.MethodName)) ∈ wA := wA_of_4 238 rfl rfl
set_option maxRecDepth 100000 in
theorem wd_959 : (Jvm.Cond.instanceMethod ({ cls := "LateFalls$History", name := "goBack", desc := "(ILLateFalls$Scene;)V" } : Jvm.MethodName)) ∈ wA := wA_of_4 239 rfl rfl
set_option maxRecDepth 100000 in
theorem wd_960 : (Jvm.Cond.selects "LateFalls$History" ({ cls := "LateFalls$History", name := "goBack", desc := "(ILLateFalls$Scene;)V" } : Jvm.MethodName) ({ cls := "LateFalls$History", name := "goBack", desc := "(ILLateFalls$Scene;)V" } : Jvm.MethodName)) ∈ wA := wA_of_5 0 rfl rfl
set_option maxRecDepth 100000 in
theorem wd_961 : (Jvm.Cond.code ({ cls := "LateFalls$History", name := "goBack", desc := "(ILLateFalls$Scene;)V" } : Jvm.MethodName) prog_4_method_4_code (3 : Nat) (Option.none : Option Jvm.ClassFile.FieldType)) ∈ wA := wA_of_5 1 rfl rfl
set_option maxRecDepth 100000 in
theorem wd_962 : (Jvm.Cond.methodLink "LateFallsLaw" (196 : Nat) ({ cls := "LateFallsLaw", name := "judge", desc := "(LLateFalls;II[J)I" } : Jvm.MethodName)) ∈ wA := wA_of_5 2 rfl rfl
set_option maxRecDepth 100000 in
theorem wd_963 : (Jvm.Cond.static ({ cls := "LateFallsLaw", name := "judge", desc := "(LLateFalls;II[J)I" } : Jvm.MethodName)) ∈ wA := wA_of_5 3 rfl rfl
set_option maxRecDepth 100000 in
theorem wd_964 : (Jvm.Cond.codeWith ({ cls := "LateFallsLaw", name := "judge", desc := "(LLateFalls;II[J)I" } : Jvm.MethodName) method_11_code (5 : Nat) (Option.some Jvm.ClassFile.FieldType.int) [((0 : Nat), (10 : Nat), (13 : Nat), (19 : Nat)), ((0 : Nat), (10 : Nat), (17 : Nat), (43 : Nat)), ((0 : Nat), (10 : Nat), (21 : Nat), (13 : Nat))]) ∈ wA := wA_of_5 4 rfl rfl
set_option maxRecDepth 100000 in
theorem wd_965 : (Jvm.Cond.classLink "LateFallsLaw" (43 : Nat) "java/lang/IllegalStateException") ∈ wA := wA_of_5 5 rfl rfl
set_option maxRecDepth 100000 in
theorem wd_966 : (Jvm.Cond.methodLink "LateFallsLaw" (40 : Nat) ({ cls := "LateFalls", name := "judge", desc := "(II)I" } : Jvm.MethodName)) ∈ wA := wA_of_5 6 rfl rfl
set_option maxRecDepth 100000 in
theorem wd_967 : (Jvm.Cond.instanceMethod ({ cls := "LateFalls", name := "judge", desc := "(II)I" } : Jvm.MethodName)) ∈ wA := wA_of_5 7 rfl rfl
set_option maxRecDepth 100000 in
theorem wd_968 : (Jvm.Cond.selects "LateFalls" ({ cls := "LateFalls", name := "judge", desc := "(II)I" } : Jvm.MethodName) ({ cls := "LateFalls", name := "judge", desc := "(II)I" } : Jvm.MethodName)) ∈ wA := wA_of_5 8 rfl rfl
set_option maxRecDepth 100000 in
theorem wd_969 : (Jvm.Cond.code ({ cls := "LateFalls", name := "judge", desc := "(II)I" } : Jvm.MethodName) prog_1_method_21_code (8 : Nat) (Option.some Jvm.ClassFile.FieldType.int)) ∈ wA := wA_of_5 9 rfl rfl
set_option maxRecDepth 100000 in
theorem wd_970 : (Jvm.Cond.methodLink "LateFalls" (236 : Nat) ({ cls := "LateFalls", name := "filledTray", desc := "(I)LLateFalls$Tray;" } : Jvm.MethodName)) ∈ wA := wA_of_5 10 rfl rfl
set_option maxRecDepth 100000 in
theorem wd_972 : (Jvm.Cond.instanceMethod ({ cls := "LateFalls", name := "filledTray", desc := "(I)LLateFalls$Tray;" } : Jvm.MethodName)) ∈ wA := wA_of_5 12 rfl rfl
set_option maxRecDepth 100000 in
theorem wd_973 : (Jvm.Cond.code ({ cls := "LateFalls", name := "filledTray", desc := "(I)LLateFalls$Tray;" } : Jvm.MethodName) prog_1_method_64_code (3 : Nat) (Option.some (Jvm.ClassFile.FieldType.object "LateFalls$Tray"))) ∈ wA := wA_of_5 13 rfl rfl
set_option maxRecDepth 100000 in
theorem wd_974 : (Jvm.Cond.methodLink "LateFalls" (373 : Nat) ({ cls := "LateFalls", name := "anyTray", desc := "(I)LLateFalls$Tray;" } : Jvm.MethodName)) ∈ wA := wA_of_5 14 rfl rfl
set_option maxRecDepth 100000 in
theorem wd_976 : (Jvm.Cond.instanceMethod ({ cls := "LateFalls", name := "anyTray", desc := "(I)LLateFalls$Tray;" } : Jvm.MethodName)) ∈ wA := wA_of_5 16 rfl rfl
set_option maxRecDepth 100000 in
theorem wd_977 : (Jvm.Cond.code ({ cls := "LateFalls", name := "anyTray", desc := "(I)LLateFalls$Tray;" } : Jvm.MethodName) prog_1_method_63_code (2 : Nat) (Option.some (Jvm.ClassFile.FieldType.object "LateFalls$Tray"))) ∈ wA := wA_of_5 17 rfl rfl
set_option maxRecDepth 100000 in
theorem wd_979 : (Jvm.Cond.classLink "LateFalls" (307 : Nat) "java/lang/IllegalStateException") ∈ wA := wA_of_5 19 rfl rfl
set_option maxRecDepth 100000 in
theorem wd_980 : (Jvm.Cond.instantiable "java/lang/IllegalStateException" (6 : Nat)) ∈ wA := wA_of_5 20 rfl rfl
set_option maxRecDepth 100000 in
theorem wd_982 : (Jvm.Cond.selects "java/lang/IllegalStateException" ({ cls := "java/lang/Throwable", name := "fillInStackTrace", desc := "(I)Ljava/lang/Throwable;" } : Jvm.MethodName) ({ cls := "java/lang/Throwable", name := "fillInStackTrace", desc := "(I)Ljava/lang/Throwable;" } : Jvm.MethodName)) ∈ wA := wA_of_5 22 rfl rfl
set_option maxRecDepth 100000 in
theorem wd_983 : (Jvm.Cond.lays "java/lang/IllegalStateException" "java/lang/Throwable" "cause" "Ljava/lang/Throwable;") ∈ wA := wA_of_5 23 rfl rfl
set_option maxRecDepth 100000 in
theorem wd_984 : (Jvm.Cond.lays "java/lang/IllegalStateException" "java/lang/Throwable" "stackTrace" "[Ljava/lang/StackTraceElement;") ∈ wA := wA_of_5 24 rfl rfl
set_option maxRecDepth 100000 in
theorem wd_985 : (Jvm.Cond.lays "java/lang/IllegalStateException" "java/lang/Throwable" "suppressedExceptions" "Ljava/util/List;") ∈ wA := wA_of_5 25 rfl rfl
set_option maxRecDepth 100000 in
theorem wd_986 : (Jvm.Cond.lays "java/lang/IllegalStateException" "java/lang/Throwable" "detailMessage" "Ljava/lang/String;") ∈ wA := wA_of_5 26 rfl rfl
set_option maxRecDepth 100000 in
theorem wd_987 : (Jvm.Cond.lays "java/lang/IllegalStateException" "java/lang/Throwable" "backtrace" "Ljava/lang/Object;") ∈ wA := wA_of_5 27 rfl rfl
set_option maxRecDepth 100000 in
theorem wd_989 : (Jvm.Cond.methodLink "LateFalls" (311 : Nat) ({ cls := "java/lang/IllegalStateException", name := "<init>", desc := "(Ljava/lang/String;)V" } : Jvm.MethodName)) ∈ wA := wA_of_5 29 rfl rfl
set_option maxRecDepth 100000 in
theorem wd_990 : (Jvm.Cond.instanceMethod ({ cls := "java/lang/IllegalStateException", name := "<init>", desc := "(Ljava/lang/String;)V" } : Jvm.MethodName)) ∈ wA := wA_of_5 30 rfl rfl
set_option maxRecDepth 100000 in
theorem wd_991 : (Jvm.Cond.code ({ cls := "java/lang/IllegalStateException", name := "<init>", desc := "(Ljava/lang/String;)V" } : Jvm.MethodName) prog_20_method_2_code (2 : Nat) (Option.none : Option Jvm.ClassFile.FieldType)) ∈ wA := wA_of_5 31 rfl rfl
set_option maxRecDepth 100000 in
theorem wd_992 : (Jvm.Cond.methodLink "java/lang/IllegalStateException" (7 : Nat) ({ cls := "java/lang/RuntimeException", name := "<init>", desc := "(Ljava/lang/String;)V" } : Jvm.MethodName)) ∈ wA := wA_of_5 32 rfl rfl
set_option maxRecDepth 100000 in
theorem wd_993 : (Jvm.Cond.lays "java/lang/IllegalStateException" "java/lang/Throwable" "depth" "I") ∈ wA := wA_of_5 33 rfl rfl
set_option maxRecDepth 100000 in
theorem wd_995 : (Jvm.Cond.methodLink "LateFalls" (248 : Nat) ({ cls := "LateFalls", name := "whyNot", desc := "(LLateFalls$Scene;J)I" } : Jvm.MethodName)) ∈ wA := wA_of_5 35 rfl rfl
set_option maxRecDepth 100000 in
theorem wd_996 : (Jvm.Cond.static ({ cls := "LateFalls", name := "whyNot", desc := "(LLateFalls$Scene;J)I" } : Jvm.MethodName)) ∈ wA := wA_of_5 36 rfl rfl
set_option maxRecDepth 100000 in
theorem wd_997 : (Jvm.Cond.code ({ cls := "LateFalls", name := "whyNot", desc := "(LLateFalls$Scene;J)I" } : Jvm.MethodName) prog_1_method_26_code (4 : Nat) (Option.some Jvm.ClassFile.FieldType.int)) ∈ wA := wA_of_5 37 rfl rfl
set_option maxRecDepth 100000 in
theorem wd_998 : (Jvm.Cond.constantLong "LateFalls" (275 : Nat) (-1 : Int64)) ∈ wA := wA_of_5 38 rfl rfl
set_option maxRecDepth 100000 in
theorem wd_999 : (Jvm.Cond.constantLong "LateFalls" (277 : Nat) (2000 : Int64)) ∈ wA := wA_of_5 39 rfl rfl
set_option maxRecDepth 100000 in
theorem wd_1000 : (Jvm.Cond.constantLong "LateFalls" (279 : Nat) (800 : Int64)) ∈ wA := wA_of_5 40 rfl rfl
set_option maxRecDepth 100000 in
theorem wd_1001 : (Jvm.Cond.constantLong "LateFalls" (281 : Nat) (1000 : Int64)) ∈ wA := wA_of_5 41 rfl rfl
set_option maxRecDepth 100000 in
theorem wd_1002 : (Jvm.Cond.constantLong "LateFalls" (283 : Nat) (1008 : Int64)) ∈ wA := wA_of_5 42 rfl rfl
set_option maxRecDepth 100000 in
theorem wd_1003 : (Jvm.Cond.methodLink "LateFalls" (252 : Nat) ({ cls := "LateFalls", name := "act", desc := "(LLateFalls$Scene;J)V" } : Jvm.MethodName)) ∈ wA := wA_of_5 43 rfl rfl
set_option maxRecDepth 100000 in
theorem wd_1004 : (Jvm.Cond.static ({ cls := "LateFalls", name := "act", desc := "(LLateFalls$Scene;J)V" } : Jvm.MethodName)) ∈ wA := wA_of_5 44 rfl rfl
set_option maxRecDepth 100000 in
theorem wd_1005 : (Jvm.Cond.code ({ cls := "LateFalls", name := "act", desc := "(LLateFalls$Scene;J)V" } : Jvm.MethodName) prog_1_method_27_code (5 : Nat) (Option.none : Option Jvm.ClassFile.FieldType)) ∈ wA := wA_of_5 45 rfl rfl
set_option maxRecDepth 100000 in
theorem wd_1006 : (Jvm.Cond.methodLink "LateFalls" (285 : Nat) ({ cls := "LateFalls$Scene", name := "nextFall", desc := "(I)Z" } : Jvm.MethodName)) ∈ wA := wA_of_5 46 rfl rfl
set_option maxRecDepth 100000 in
theorem wd_1007 : (Jvm.Cond.methodLink "LateFallsLaw" (199 : Nat) ({ cls := "LateFallsLaw", name := "perform", desc := "(LLateFalls;I[J)I" } : Jvm.MethodName)) ∈ wA := wA_of_5 47 rfl rfl
set_option maxRecDepth 100000 in
theorem wd_1008 : (Jvm.Cond.static ({ cls := "LateFallsLaw", name := "perform", desc := "(LLateFalls;I[J)I" } : Jvm.MethodName)) ∈ wA := wA_of_5 48 rfl rfl
set_option maxRecDepth 100000 in
theorem wd_1009 : (Jvm.Cond.codeWith ({ cls := "LateFallsLaw", name := "perform", desc := "(LLateFalls;I[J)I" } : Jvm.MethodName) method_12_code (4 : Nat) (Option.some Jvm.ClassFile.FieldType.int) [((0 : Nat), (9 : Nat), (12 : Nat), (19 : Nat)), ((0 : Nat), (9 : Nat), (15 : Nat), (43 : Nat))]) ∈ wA := wA_of_5 49 rfl rfl
set_option maxRecDepth 100000 in
theorem wd_1010 : (Jvm.Cond.methodLink "LateFallsLaw" (45 : Nat) ({ cls := "LateFalls", name := "perform", desc := "(I)I" } : Jvm.MethodName)) ∈ wA := wA_of_5 50 rfl rfl
set_option maxRecDepth 100000 in
theorem wd_1011 : (Jvm.Cond.instanceMethod ({ cls := "LateFalls", name := "perform", desc := "(I)I" } : Jvm.MethodName)) ∈ wA := wA_of_5 51 rfl rfl
set_option maxRecDepth 100000 in
theorem wd_1012 : (Jvm.Cond.selects "LateFalls" ({ cls := "LateFalls", name := "perform", desc := "(I)I" } : Jvm.MethodName) ({ cls := "LateFalls", name := "perform", desc := "(I)I" } : Jvm.MethodName)) ∈ wA := wA_of_5 52 rfl rfl
set_option maxRecDepth 100000 in
theorem wd_1013 : (Jvm.Cond.code ({ cls := "LateFalls", name := "perform", desc := "(I)I" } : Jvm.MethodName) prog_1_method_22_code (5 : Nat) (Option.some Jvm.ClassFile.FieldType.int)) ∈ wA := wA_of_5 53 rfl rfl
set_option maxRecDepth 100000 in
theorem wd_1014 : (Jvm.Cond.methodLink "LateFallsLaw" (202 : Nat) ({ cls := "LateFallsLaw", name := "season", desc := "(LLateFalls;II[J)I" } : Jvm.MethodName)) ∈ wA := wA_of_5 54 rfl rfl
set_option maxRecDepth 100000 in
theorem wd_1015 : (Jvm.Cond.static ({ cls := "LateFallsLaw", name := "season", desc := "(LLateFalls;II[J)I" } : Jvm.MethodName)) ∈ wA := wA_of_5 55 rfl rfl
set_option maxRecDepth 100000 in
theorem wd_1016 : (Jvm.Cond.codeWith ({ cls := "LateFallsLaw", name := "season", desc := "(LLateFalls;II[J)I" } : Jvm.MethodName) method_13_code (5 : Nat) (Option.some Jvm.ClassFile.FieldType.int) [((0 : Nat), (10 : Nat), (13 : Nat), (13 : Nat))]) ∈ wA := wA_of_5 56 rfl rfl
set_option maxRecDepth 100000 in
theorem wd_1017 : (Jvm.Cond.methodLink "LateFallsLaw" (48 : Nat) ({ cls := "LateFalls", name := "season", desc := "(II)I" } : Jvm.MethodName)) ∈ wA := wA_of_5 57 rfl rfl
set_option maxRecDepth 100000 in
theorem wd_1018 : (Jvm.Cond.instanceMethod ({ cls := "LateFalls", name := "season", desc := "(II)I" } : Jvm.MethodName)) ∈ wA := wA_of_5 58 rfl rfl
set_option maxRecDepth 100000 in
theorem wd_1019 : (Jvm.Cond.selects "LateFalls" ({ cls := "LateFalls", name := "season", desc := "(II)I" } : Jvm.MethodName) ({ cls := "LateFalls", name := "season", desc := "(II)I" } : Jvm.MethodName)) ∈ wA := wA_of_5 59 rfl rfl
set_option maxRecDepth 100000 in
theorem wd_1020 : (Jvm.Cond.code ({ cls := "LateFalls", name := "season", desc := "(II)I" } : Jvm.MethodName) prog_1_method_23_code (6 : Nat) (Option.some Jvm.ClassFile.FieldType.int)) ∈ wA := wA_of_5 60 rfl rfl
set_option maxRecDepth 100000 in
theorem wd_1021 : (Jvm.Cond.methodLink "LateFalls" (265 : Nat) ({ cls := "LateFalls", name := "drawDeed", desc := "()I" } : Jvm.MethodName)) ∈ wA := wA_of_5 61 rfl rfl
set_option maxRecDepth 100000 in
theorem wd_1023 : (Jvm.Cond.instanceMethod ({ cls := "LateFalls", name := "drawDeed", desc := "()I" } : Jvm.MethodName)) ∈ wA := wA_of_5 63 rfl rfl
set_option maxRecDepth 100000 in
theorem wd_1024 : (Jvm.Cond.code ({ cls := "LateFalls", name := "drawDeed", desc := "()I" } : Jvm.MethodName) prog_1_method_24_code (5 : Nat) (Option.some Jvm.ClassFile.FieldType.int)) ∈ wA := wA_of_5 64 rfl rfl
set_option maxRecDepth 100000 in
theorem wd_1025 : (Jvm.Cond.methodLink "LateFalls" (268 : Nat) ({ cls := "LateFalls", name := "draw", desc := "(I)I" } : Jvm.MethodName)) ∈ wA := wA_of_5 65 rfl rfl
set_option maxRecDepth 100000 in
theorem wd_1027 : (Jvm.Cond.instanceMethod ({ cls := "LateFalls", name := "draw", desc := "(I)I" } : Jvm.MethodName)) ∈ wA := wA_of_5 67 rfl rfl
set_option maxRecDepth 100000 in
theorem wd_1028 : (Jvm.Cond.code ({ cls := "LateFalls", name := "draw", desc := "(I)I" } : Jvm.MethodName) prog_1_method_25_code (2 : Nat) (Option.some Jvm.ClassFile.FieldType.int)) ∈ wA := wA_of_5 68 rfl rfl
set_option maxRecDepth 100000 in
theorem wd_1029 : (Jvm.Cond.constant "LateFalls" (274 : Nat) (1103515245 : Int32)) ∈ wA := wA_of_5 69 rfl rfl
set_option maxRecDepth 100000 in
theorem wd_1030 : (Jvm.Cond.methodLink "LateFallsLaw" (205 : Nat) ({ cls := "LateFallsLaw", name := "falls", desc := "(LLateFalls;I[J)I" } : Jvm.MethodName)) ∈ wA := wA_of_5 70 rfl rfl
set_option maxRecDepth 100000 in
theorem wd_1031 : (Jvm.Cond.static ({ cls := "LateFallsLaw", name := "falls", desc := "(LLateFalls;I[J)I" } : Jvm.MethodName)) ∈ wA := wA_of_5 71 rfl rfl
set_option maxRecDepth 100000 in
theorem wd_1032 : (Jvm.Cond.codeWith ({ cls := "LateFallsLaw", name := "falls", desc := "(LLateFalls;I[J)I" } : Jvm.MethodName) method_14_code (4 : Nat) (Option.some Jvm.ClassFile.FieldType.int) [((0 : Nat), (9 : Nat), (12 : Nat), (19 : Nat))]) ∈ wA := wA_of_5 72 rfl rfl
set_option maxRecDepth 100000 in
theorem wd_1033 : (Jvm.Cond.methodLink "LateFallsLaw" (51 : Nat) ({ cls := "LateFalls", name := "falls", desc := "(I)I" } : Jvm.MethodName)) ∈ wA := wA_of_5 73 rfl rfl
set_option maxRecDepth 100000 in
theorem wd_1034 : (Jvm.Cond.instanceMethod ({ cls := "LateFalls", name := "falls", desc := "(I)I" } : Jvm.MethodName)) ∈ wA := wA_of_5 74 rfl rfl
set_option maxRecDepth 100000 in
theorem wd_1035 : (Jvm.Cond.selects "LateFalls" ({ cls := "LateFalls", name := "falls", desc := "(I)I" } : Jvm.MethodName) ({ cls := "LateFalls", name := "falls", desc := "(I)I" } : Jvm.MethodName)) ∈ wA := wA_of_5 75 rfl rfl
set_option maxRecDepth 100000 in
theorem wd_1036 : (Jvm.Cond.code ({ cls := "LateFalls", name := "falls", desc := "(I)I" } : Jvm.MethodName) prog_1_method_28_code (2 : Nat) (Option.some Jvm.ClassFile.FieldType.int)) ∈ wA := wA_of_5 76 rfl rfl
set_option maxRecDepth 100000 in
theorem wd_1037 : (Jvm.Cond.methodLink "LateFalls" (292 : Nat) ({ cls := "LateFalls$Forecast", name := "fallOf", desc := "(I)I" } : Jvm.MethodName)) ∈ wA := wA_of_5 77 rfl rfl
set_option maxRecDepth 100000 in
theorem wd_1038 : (Jvm.Cond.instanceMethod ({ cls := "LateFalls$Forecast", name := "fallOf", desc := "(I)I" } : Jvm.MethodName)) ∈ wA := wA_of_5 78 rfl rfl
set_option maxRecDepth 100000 in
theorem wd_1039 : (Jvm.Cond.selects "LateFalls$Forecast" ({ cls := "LateFalls$Forecast", name := "fallOf", desc := "(I)I" } : Jvm.MethodName) ({ cls := "LateFalls$Forecast", name := "fallOf", desc := "(I)I" } : Jvm.MethodName)) ∈ wA := wA_of_5 79 rfl rfl
set_option maxRecDepth 100000 in
theorem wd_1040 : (Jvm.Cond.code ({ cls := "LateFalls$Forecast", name := "fallOf", desc := "(I)I" } : Jvm.MethodName) prog_3_method_3_code (3 : Nat) (Option.some Jvm.ClassFile.FieldType.int)) ∈ wA := wA_of_5 80 rfl rfl
set_option maxRecDepth 100000 in
theorem wd_1041 : (Jvm.Cond.methodLink "LateFallsLaw" (208 : Nat) ({ cls := "LateFallsLaw", name := "lands", desc := "(LLateFalls;I[J)I" } : Jvm.MethodName)) ∈ wA := wA_of_5 81 rfl rfl
set_option maxRecDepth 100000 in
theorem wd_1042 : (Jvm.Cond.static ({ cls := "LateFallsLaw", name := "lands", desc := "(LLateFalls;I[J)I" } : Jvm.MethodName)) ∈ wA := wA_of_5 82 rfl rfl
set_option maxRecDepth 100000 in
theorem wd_1043 : (Jvm.Cond.codeWith ({ cls := "LateFallsLaw", name := "lands", desc := "(LLateFalls;I[J)I" } : Jvm.MethodName) method_15_code (4 : Nat) (Option.some Jvm.ClassFile.FieldType.int) [((0 : Nat), (9 : Nat), (12 : Nat), (19 : Nat))]) ∈ wA := wA_of_5 83 rfl rfl
set_option maxRecDepth 100000 in
theorem wd_1044 : (Jvm.Cond.methodLink "LateFallsLaw" (54 : Nat) ({ cls := "LateFalls", name := "lands", desc := "(I)I" } : Jvm.MethodName)) ∈ wA := wA_of_5 84 rfl rfl
set_option maxRecDepth 100000 in
theorem wd_1045 : (Jvm.Cond.instanceMethod ({ cls := "LateFalls", name := "lands", desc := "(I)I" } : Jvm.MethodName)) ∈ wA := wA_of_5 85 rfl rfl
set_option maxRecDepth 100000 in
theorem wd_1046 : (Jvm.Cond.selects "LateFalls" ({ cls := "LateFalls", name := "lands", desc := "(I)I" } : Jvm.MethodName) ({ cls := "LateFalls", name := "lands", desc := "(I)I" } : Jvm.MethodName)) ∈ wA := wA_of_5 86 rfl rfl
set_option maxRecDepth 100000 in
theorem wd_1047 : (Jvm.Cond.code ({ cls := "LateFalls", name := "lands", desc := "(I)I" } : Jvm.MethodName) prog_1_method_29_code (2 : Nat) (Option.some Jvm.ClassFile.FieldType.int)) ∈ wA := wA_of_5 87 rfl rfl
set_option maxRecDepth 100000 in
theorem wd_1048 : (Jvm.Cond.methodLink "LateFallsLaw" (211 : Nat) ({ cls := "LateFallsLaw", name := "fallIn", desc := "(LLateFalls;I[J)I" } : Jvm.MethodName)) ∈ wA := wA_of_5 88 rfl rfl
set_option maxRecDepth 100000 in
theorem wd_1049 : (Jvm.Cond.static ({ cls := "LateFallsLaw", name := "fallIn", desc := "(LLateFalls;I[J)I" } : Jvm.MethodName)) ∈ wA := wA_of_5 89 rfl rfl
set_option maxRecDepth 100000 in
theorem wd_1050 : (Jvm.Cond.codeWith ({ cls := "LateFallsLaw", name := "fallIn", desc := "(LLateFalls;I[J)I" } : Jvm.MethodName) method_16_code (4 : Nat) (Option.some Jvm.ClassFile.FieldType.int) [((0 : Nat), (9 : Nat), (12 : Nat), (13 : Nat))]) ∈ wA := wA_of_5 90 rfl rfl
set_option maxRecDepth 100000 in
theorem wd_1051 : (Jvm.Cond.methodLink "LateFallsLaw" (57 : Nat) ({ cls := "LateFalls", name := "fallIn", desc := "(I)I" } : Jvm.MethodName)) ∈ wA := wA_of_5 91 rfl rfl
set_option maxRecDepth 100000 in
theorem wd_1052 : (Jvm.Cond.instanceMethod ({ cls := "LateFalls", name := "fallIn", desc := "(I)I" } : Jvm.MethodName)) ∈ wA := wA_of_5 92 rfl rfl
set_option maxRecDepth 100000 in
theorem wd_1053 : (Jvm.Cond.selects "LateFalls" ({ cls := "LateFalls", name := "fallIn", desc := "(I)I" } : Jvm.MethodName) ({ cls := "LateFalls", name := "fallIn", desc := "(I)I" } : Jvm.MethodName)) ∈ wA := wA_of_5 93 rfl rfl
set_option maxRecDepth 100000 in
theorem wd_1054 : (Jvm.Cond.code ({ cls := "LateFalls", name := "fallIn", desc := "(I)I" } : Jvm.MethodName) prog_1_method_30_code (4 : Nat) (Option.some Jvm.ClassFile.FieldType.int)) ∈ wA := wA_of_5 94 rfl rfl
set_option maxRecDepth 100000 in
theorem wd_1055 : (Jvm.Cond.methodLink "LateFallsLaw" (222 : Nat) ({ cls := "LateFallsLaw", name := "frees", desc := "(LLateFalls;I[J)I" } : Jvm.MethodName)) ∈ wA := wA_of_5 95 rfl rfl
set_option maxRecDepth 100000 in
theorem wd_1056 : (Jvm.Cond.static ({ cls := "LateFallsLaw", name := "frees", desc := "(LLateFalls;I[J)I" } : Jvm.MethodName)) ∈ wA := wA_of_5 96 rfl rfl
set_option maxRecDepth 100000 in
theorem wd_1057 : (Jvm.Cond.codeWith ({ cls := "LateFallsLaw", name := "frees", desc := "(LLateFalls;I[J)I" } : Jvm.MethodName) method_17_code (4 : Nat) (Option.some Jvm.ClassFile.FieldType.int) [((0 : Nat), (9 : Nat), (12 : Nat), (19 : Nat)), ((0 : Nat), (9 : Nat), (15 : Nat), (43 : Nat))]) ∈ wA := wA_of_5 97 rfl rfl
set_option maxRecDepth 100000 in
theorem wd_1058 : (Jvm.Cond.methodLink "LateFallsLaw" (60 : Nat) ({ cls := "LateFalls", name := "frees", desc := "(I)I" } : Jvm.MethodName)) ∈ wA := wA_of_5 98 rfl rfl
set_option maxRecDepth 100000 in
theorem wd_1059 : (Jvm.Cond.instanceMethod ({ cls := "LateFalls", name := "frees", desc := "(I)I" } : Jvm.MethodName)) ∈ wA := wA_of_5 99 rfl rfl
set_option maxRecDepth 100000 in
theorem wd_1060 : (Jvm.Cond.selects "LateFalls" ({ cls := "LateFalls", name := "frees", desc := "(I)I" } : Jvm.MethodName) ({ cls := "LateFalls", name := "frees", desc := "(I)I" } : Jvm.MethodName)) ∈ wA := wA_of_5 100 rfl rfl
set_option maxRecDepth 100000 in
theorem wd_1061 : (Jvm.Cond.code ({ cls := "LateFalls", name := "frees", desc := "(I)I" } : Jvm.MethodName) prog_1_method_33_code (2 : Nat) (Option.some Jvm.ClassFile.FieldType.int)) ∈ wA := wA_of_5 101 rfl rfl
set_option maxRecDepth 100000 in
theorem wd_1063 : (Jvm.Cond.methodLink "LateFalls" (312 : Nat) ({ cls := "LateFalls$Scene", name := "falling", desc := "(II)I" } : Jvm.MethodName)) ∈ wA := wA_of_5 103 rfl rfl
set_option maxRecDepth 100000 in
theorem wd_1064 : (Jvm.Cond.methodLink "LateFallsLaw" (225 : Nat) ({ cls := "LateFallsLaw", name := "heightIn", desc := "(LLateFalls;II[J)I" } : Jvm.MethodName)) ∈ wA := wA_of_5 104 rfl rfl
set_option maxRecDepth 100000 in
theorem wd_1065 : (Jvm.Cond.static ({ cls := "LateFallsLaw", name := "heightIn", desc := "(LLateFalls;II[J)I" } : Jvm.MethodName)) ∈ wA := wA_of_5 105 rfl rfl
set_option maxRecDepth 100000 in
theorem wd_1066 : (Jvm.Cond.codeWith ({ cls := "LateFallsLaw", name := "heightIn", desc := "(LLateFalls;II[J)I" } : Jvm.MethodName) method_18_code (5 : Nat) (Option.some Jvm.ClassFile.FieldType.int) [((0 : Nat), (10 : Nat), (13 : Nat), (19 : Nat)), ((0 : Nat), (10 : Nat), (17 : Nat), (13 : Nat))]) ∈ wA := wA_of_5 106 rfl rfl
set_option maxRecDepth 100000 in
theorem wd_1067 : (Jvm.Cond.methodLink "LateFallsLaw" (63 : Nat) ({ cls := "LateFalls", name := "heightIn", desc := "(II)I" } : Jvm.MethodName)) ∈ wA := wA_of_5 107 rfl rfl
set_option maxRecDepth 100000 in
theorem wd_1068 : (Jvm.Cond.instanceMethod ({ cls := "LateFalls", name := "heightIn", desc := "(II)I" } : Jvm.MethodName)) ∈ wA := wA_of_5 108 rfl rfl
set_option maxRecDepth 100000 in
theorem wd_1069 : (Jvm.Cond.selects "LateFalls" ({ cls := "LateFalls", name := "heightIn", desc := "(II)I" } : Jvm.MethodName) ({ cls := "LateFalls", name := "heightIn", desc := "(II)I" } : Jvm.MethodName)) ∈ wA := wA_of_5 109 rfl rfl
set_option maxRecDepth 100000 in
theorem wd_1070 : (Jvm.Cond.code ({ cls := "LateFalls", name := "heightIn", desc := "(II)I" } : Jvm.MethodName) prog_1_method_34_code (4 : Nat) (Option.some Jvm.ClassFile.FieldType.int)) ∈ wA := wA_of_5 110 rfl rfl
set_option maxRecDepth 100000 in
theorem wd_1071 : (Jvm.Cond.methodLink "LateFallsLaw" (228 : Nat) ({ cls := "LateFallsLaw", name := "hurtIn", desc := "(LLateFalls;I[J)I" } : Jvm.MethodName)) ∈ wA := wA_of_5 111 rfl rfl
set_option maxRecDepth 100000 in
theorem wd_1072 : (Jvm.Cond.static ({ cls := "LateFallsLaw", name := "hurtIn", desc := "(LLateFalls;I[J)I" } : Jvm.MethodName)) ∈ wA := wA_of_5 112 rfl rfl
set_option maxRecDepth 100000 in
theorem wd_1073 : (Jvm.Cond.codeWith ({ cls := "LateFallsLaw", name := "hurtIn", desc := "(LLateFalls;I[J)I" } : Jvm.MethodName) method_19_code (4 : Nat) (Option.some Jvm.ClassFile.FieldType.int) [((0 : Nat), (9 : Nat), (12 : Nat), (19 : Nat))]) ∈ wA := wA_of_5 113 rfl rfl
set_option maxRecDepth 100000 in
theorem wd_1074 : (Jvm.Cond.methodLink "LateFallsLaw" (66 : Nat) ({ cls := "LateFalls", name := "hurtIn", desc := "(I)I" } : Jvm.MethodName)) ∈ wA := wA_of_5 114 rfl rfl
set_option maxRecDepth 100000 in
theorem wd_1075 : (Jvm.Cond.instanceMethod ({ cls := "LateFalls", name := "hurtIn", desc := "(I)I" } : Jvm.MethodName)) ∈ wA := wA_of_5 115 rfl rfl
set_option maxRecDepth 100000 in
theorem wd_1076 : (Jvm.Cond.selects "LateFalls" ({ cls := "LateFalls", name := "hurtIn", desc := "(I)I" } : Jvm.MethodName) ({ cls := "LateFalls", name := "hurtIn", desc := "(I)I" } : Jvm.MethodName)) ∈ wA := wA_of_5 116 rfl rfl
set_option maxRecDepth 100000 in
theorem wd_1077 : (Jvm.Cond.code ({ cls := "LateFalls", name := "hurtIn", desc := "(I)I" } : Jvm.MethodName) prog_1_method_35_code (4 : Nat) (Option.some Jvm.ClassFile.FieldType.int)) ∈ wA := wA_of_5 117 rfl rfl
set_option maxRecDepth 100000 in
theorem wd_1078 : (Jvm.Cond.methodLink "LateFallsLaw" (231 : Nat) ({ cls := "LateFallsLaw", name := "hurts", desc := "(LLateFalls;I[J)I" } : Jvm.MethodName)) ∈ wA := wA_of_5 118 rfl rfl
set_option maxRecDepth 100000 in
theorem wd_1079 : (Jvm.Cond.static ({ cls := "LateFallsLaw", name := "hurts", desc := "(LLateFalls;I[J)I" } : Jvm.MethodName)) ∈ wA := wA_of_5 119 rfl rfl
set_option maxRecDepth 100000 in
theorem wd_1080 : (Jvm.Cond.codeWith ({ cls := "LateFallsLaw", name := "hurts", desc := "(LLateFalls;I[J)I" } : Jvm.MethodName) method_20_code (4 : Nat) (Option.some Jvm.ClassFile.FieldType.int) [((0 : Nat), (9 : Nat), (12 : Nat), (19 : Nat))]) ∈ wA := wA_of_5 120 rfl rfl
set_option maxRecDepth 100000 in
theorem wd_1081 : (Jvm.Cond.methodLink "LateFallsLaw" (69 : Nat) ({ cls := "LateFalls", name := "hurts", desc := "(I)I" } : Jvm.MethodName)) ∈ wA := wA_of_5 121 rfl rfl
set_option maxRecDepth 100000 in
theorem wd_1082 : (Jvm.Cond.instanceMethod ({ cls := "LateFalls", name := "hurts", desc := "(I)I" } : Jvm.MethodName)) ∈ wA := wA_of_5 122 rfl rfl
set_option maxRecDepth 100000 in
theorem wd_1083 : (Jvm.Cond.selects "LateFalls" ({ cls := "LateFalls", name := "hurts", desc := "(I)I" } : Jvm.MethodName) ({ cls := "LateFalls", name := "hurts", desc := "(I)I" } : Jvm.MethodName)) ∈ wA := wA_of_5 123 rfl rfl
set_option maxRecDepth 100000 in
theorem wd_1084 : (Jvm.Cond.code ({ cls := "LateFalls", name := "hurts", desc := "(I)I" } : Jvm.MethodName) prog_1_method_36_code (2 : Nat) (Option.some Jvm.ClassFile.FieldType.int)) ∈ wA := wA_of_5 124 rfl rfl
set_option maxRecDepth 100000 in
theorem wd_1085 : (Jvm.Cond.methodLink "LateFalls" (318 : Nat) ({ cls := "LateFalls$Forecast", name := "hurtOf", desc := "(III)I" } : Jvm.MethodName)) ∈ wA := wA_of_5 125 rfl rfl
set_option maxRecDepth 100000 in
theorem wd_1086 : (Jvm.Cond.instanceMethod ({ cls := "LateFalls$Forecast", name := "hurtOf", desc := "(III)I" } : Jvm.MethodName)) ∈ wA := wA_of_5 126 rfl rfl
set_option maxRecDepth 100000 in
theorem wd_1087 : (Jvm.Cond.selects "LateFalls$Forecast" ({ cls := "LateFalls$Forecast", name := "hurtOf", desc := "(III)I" } : Jvm.MethodName) ({ cls := "LateFalls$Forecast", name := "hurtOf", desc := "(III)I" } : Jvm.MethodName)) ∈ wA := wA_of_5 127 rfl rfl
set_option maxRecDepth 100000 in
theorem wd_1088 : (Jvm.Cond.code ({ cls := "LateFalls$Forecast", name := "hurtOf", desc := "(III)I" } : Jvm.MethodName) prog_3_method_5_code (7 : Nat) (Option.some Jvm.ClassFile.FieldType.int)) ∈ wA := wA_of_5 128 rfl rfl
set_option maxRecDepth 100000 in
theorem wd_1089 : (Jvm.Cond.methodLink "LateFalls$Forecast" (56 : Nat) ({ cls := "LateFalls$District", name := "walkerColumn", desc := "(II)I" } : Jvm.MethodName)) ∈ wA := wA_of_5 129 rfl rfl
set_option maxRecDepth 100000 in
theorem wd_1090 : (Jvm.Cond.methodLink "LateFalls$Forecast" (61 : Nat) ({ cls := "LateFalls$Forecast", name := "weightIn", desc := "(II)I" } : Jvm.MethodName)) ∈ wA := wA_of_5 130 rfl rfl
set_option maxRecDepth 100000 in
theorem wd_1091 : (Jvm.Cond.methodLink "LateFallsLaw" (234 : Nat) ({ cls := "LateFallsLaw", name := "spares", desc := "(LLateFalls;II[J)I" } : Jvm.MethodName)) ∈ wA := wA_of_5 131 rfl rfl
set_option maxRecDepth 100000 in
theorem wd_1092 : (Jvm.Cond.static ({ cls := "LateFallsLaw", name := "spares", desc := "(LLateFalls;II[J)I" } : Jvm.MethodName)) ∈ wA := wA_of_5 132 rfl rfl
set_option maxRecDepth 100000 in
theorem wd_1093 : (Jvm.Cond.codeWith ({ cls := "LateFallsLaw", name := "spares", desc := "(LLateFalls;II[J)I" } : Jvm.MethodName) method_21_code (5 : Nat) (Option.some Jvm.ClassFile.FieldType.int) [((0 : Nat), (10 : Nat), (13 : Nat), (19 : Nat))]) ∈ wA := wA_of_5 133 rfl rfl
set_option maxRecDepth 100000 in
theorem wd_1094 : (Jvm.Cond.methodLink "LateFallsLaw" (72 : Nat) ({ cls := "LateFalls", name := "spares", desc := "(II)I" } : Jvm.MethodName)) ∈ wA := wA_of_5 134 rfl rfl
set_option maxRecDepth 100000 in
theorem wd_1095 : (Jvm.Cond.instanceMethod ({ cls := "LateFalls", name := "spares", desc := "(II)I" } : Jvm.MethodName)) ∈ wA := wA_of_5 135 rfl rfl
set_option maxRecDepth 100000 in
theorem wd_1096 : (Jvm.Cond.selects "LateFalls" ({ cls := "LateFalls", name := "spares", desc := "(II)I" } : Jvm.MethodName) ({ cls := "LateFalls", name := "spares", desc := "(II)I" } : Jvm.MethodName)) ∈ wA := wA_of_5 136 rfl rfl
set_option maxRecDepth 100000 in
theorem wd_1097 : (Jvm.Cond.code ({ cls := "LateFalls", name := "spares", desc := "(II)I" } : Jvm.MethodName) prog_1_method_37_code (3 : Nat) (Option.some Jvm.ClassFile.FieldType.int)) ∈ wA := wA_of_5 137 rfl rfl
set_option maxRecDepth 100000 in
theorem wd_1098 : (Jvm.Cond.methodLink "LateFallsLaw" (237 : Nat) ({ cls := "LateFallsLaw", name := "fallsBy", desc := "(LLateFalls;IIII[J)I" } : Jvm.MethodName)) ∈ wA := wA_of_5 138 rfl rfl
set_option maxRecDepth 100000 in
theorem wd_1099 : (Jvm.Cond.static ({ cls := "LateFallsLaw", name := "fallsBy", desc := "(LLateFalls;IIII[J)I" } : Jvm.MethodName)) ∈ wA := wA_of_5 139 rfl rfl
set_option maxRecDepth 100000 in
theorem wd_1100 : (Jvm.Cond.codeWith ({ cls := "LateFallsLaw", name := "fallsBy", desc := "(LLateFalls;IIII[J)I" } : Jvm.MethodName) method_22_code (7 : Nat) (Option.some Jvm.ClassFile.FieldType.int) [((0 : Nat), (14 : Nat), (17 : Nat), (19 : Nat)), ((0 : Nat), (14 : Nat), (21 : Nat), (43 : Nat)), ((0 : Nat), (14 : Nat), (25 : Nat), (13 : Nat))]) ∈ wA := wA_of_5 140 rfl rfl
set_option maxRecDepth 100000 in
theorem wd_1101 : (Jvm.Cond.methodLink "LateFallsLaw" (75 : Nat) ({ cls := "LateFalls", name := "fallsBy", desc := "(IIII)I" } : Jvm.MethodName)) ∈ wA := wA_of_5 141 rfl rfl
set_option maxRecDepth 100000 in
theorem wd_1102 : (Jvm.Cond.instanceMethod ({ cls := "LateFalls", name := "fallsBy", desc := "(IIII)I" } : Jvm.MethodName)) ∈ wA := wA_of_5 142 rfl rfl
set_option maxRecDepth 100000 in
theorem wd_1103 : (Jvm.Cond.selects "LateFalls" ({ cls := "LateFalls", name := "fallsBy", desc := "(IIII)I" } : Jvm.MethodName) ({ cls := "LateFalls", name := "fallsBy", desc := "(IIII)I" } : Jvm.MethodName)) ∈ wA := wA_of_5 143 rfl rfl
set_option maxRecDepth 100000 in
theorem wd_1104 : (Jvm.Cond.code ({ cls := "LateFalls", name := "fallsBy", desc := "(IIII)I" } : Jvm.MethodName) prog_1_method_38_code (5 : Nat) (Option.some Jvm.ClassFile.FieldType.int)) ∈ wA := wA_of_5 144 rfl rfl
set_option maxRecDepth 100000 in
theorem wd_1105 : (Jvm.Cond.methodLink "LateFalls" (321 : Nat) ({ cls := "LateFalls", name := "needHeldAndPlace", desc := "(III)V" } : Jvm.MethodName)) ∈ wA := wA_of_5 145 rfl rfl
set_option maxRecDepth 100000 in
theorem wd_1107 : (Jvm.Cond.instanceMethod ({ cls := "LateFalls", name := "needHeldAndPlace", desc := "(III)V" } : Jvm.MethodName)) ∈ wA := wA_of_5 147 rfl rfl
set_option maxRecDepth 100000 in
theorem wd_1108 : (Jvm.Cond.code ({ cls := "LateFalls", name := "needHeldAndPlace", desc := "(III)V" } : Jvm.MethodName) prog_1_method_47_code (4 : Nat) (Option.none : Option Jvm.ClassFile.FieldType)) ∈ wA := wA_of_5 148 rfl rfl
set_option maxRecDepth 100000 in
theorem wd_1109 : (Jvm.Cond.methodLink "LateFalls" (331 : Nat) ({ cls := "LateFalls", name := "needHeld", desc := "(I)V" } : Jvm.MethodName)) ∈ wA := wA_of_5 149 rfl rfl
set_option maxRecDepth 100000 in
theorem wd_1111 : (Jvm.Cond.instanceMethod ({ cls := "LateFalls", name := "needHeld", desc := "(I)V" } : Jvm.MethodName)) ∈ wA := wA_of_5 151 rfl rfl
set_option maxRecDepth 100000 in
theorem wd_1112 : (Jvm.Cond.code ({ cls := "LateFalls", name := "needHeld", desc := "(I)V" } : Jvm.MethodName) prog_1_method_46_code (2 : Nat) (Option.none : Option Jvm.ClassFile.FieldType)) ∈ wA := wA_of_5 152 rfl rfl
set_option maxRecDepth 100000 in
theorem wd_1114 : (Jvm.Cond.methodLink "LateFalls" (324 : Nat) ({ cls := "LateFalls$Forecast", name := "fallAfter", desc := "(LLateFalls$Scene;IIII)I" } : Jvm.MethodName)) ∈ wA := wA_of_5 154 rfl rfl
set_option maxRecDepth 100000 in
theorem wd_1115 : (Jvm.Cond.instanceMethod ({ cls := "LateFalls$Forecast", name := "fallAfter", desc := "(LLateFalls$Scene;IIII)I" } : Jvm.MethodName)) ∈ wA := wA_of_5 155 rfl rfl
set_option maxRecDepth 100000 in
theorem wd_1116 : (Jvm.Cond.selects "LateFalls$Forecast" ({ cls := "LateFalls$Forecast", name := "fallAfter", desc := "(LLateFalls$Scene;IIII)I" } : Jvm.MethodName) ({ cls := "LateFalls$Forecast", name := "fallAfter", desc := "(LLateFalls$Scene;IIII)I" } : Jvm.MethodName)) ∈ wA := wA_of_5 156 rfl rfl
set_option maxRecDepth 100000 in
theorem wd_1117 : (Jvm.Cond.code ({ cls := "LateFalls$Forecast", name := "fallAfter", desc := "(LLateFalls$Scene;IIII)I" } : Jvm.MethodName) prog_3_method_6_code (8 : Nat) (Option.some Jvm.ClassFile.FieldType.int)) ∈ wA := wA_of_5 157 rfl rfl
set_option maxRecDepth 100000 in
theorem wd_1118 : (Jvm.Cond.methodLink "LateFalls$Forecast" (64 : Nat) ({ cls := "LateFalls$Scene", name := "whyNotLetGo", desc := "(III)I" } : Jvm.MethodName)) ∈ wA := wA_of_5 158 rfl rfl
set_option maxRecDepth 100000 in
theorem wd_1119 : (Jvm.Cond.methodLink "LateFalls$Forecast" (68 : Nat) ({ cls := "LateFalls$Scene", name := "release", desc := "(III)I" } : Jvm.MethodName)) ∈ wA := wA_of_5 159 rfl rfl
set_option maxRecDepth 100000 in
theorem wd_1120 : (Jvm.Cond.methodLink "LateFallsLaw" (240 : Nat) ({ cls := "LateFallsLaw", name := "waitFor", desc := "(LLateFalls;IIII[J)I" } : Jvm.MethodName)) ∈ wA := wA_of_5 160 rfl rfl
set_option maxRecDepth 100000 in
theorem wd_1121 : (Jvm.Cond.static ({ cls := "LateFallsLaw", name := "waitFor", desc := "(LLateFalls;IIII[J)I" } : Jvm.MethodName)) ∈ wA := wA_of_5 161 rfl rfl
set_option maxRecDepth 100000 in
theorem wd_1122 : (Jvm.Cond.codeWith ({ cls := "LateFallsLaw", name := "waitFor", desc := "(LLateFalls;IIII[J)I" } : Jvm.MethodName) method_23_code (7 : Nat) (Option.some Jvm.ClassFile.FieldType.int) [((0 : Nat), (14 : Nat), (17 : Nat), (19 : Nat)), ((0 : Nat), (14 : Nat), (21 : Nat), (43 : Nat)), ((0 : Nat), (14 : Nat), (25 : Nat), (13 : Nat))]) ∈ wA := wA_of_5 162 rfl rfl
set_option maxRecDepth 100000 in
theorem wd_1123 : (Jvm.Cond.methodLink "LateFallsLaw" (78 : Nat) ({ cls := "LateFalls", name := "waitFor", desc := "(IIII)I" } : Jvm.MethodName)) ∈ wA := wA_of_5 163 rfl rfl
set_option maxRecDepth 100000 in
theorem wd_1124 : (Jvm.Cond.instanceMethod ({ cls := "LateFalls", name := "waitFor", desc := "(IIII)I" } : Jvm.MethodName)) ∈ wA := wA_of_5 164 rfl rfl
set_option maxRecDepth 100000 in
theorem wd_1125 : (Jvm.Cond.selects "LateFalls" ({ cls := "LateFalls", name := "waitFor", desc := "(IIII)I" } : Jvm.MethodName) ({ cls := "LateFalls", name := "waitFor", desc := "(IIII)I" } : Jvm.MethodName)) ∈ wA := wA_of_5 165 rfl rfl
set_option maxRecDepth 100000 in
theorem wd_1126 : (Jvm.Cond.code ({ cls := "LateFalls", name := "waitFor", desc := "(IIII)I" } : Jvm.MethodName) prog_1_method_39_code (6 : Nat) (Option.some Jvm.ClassFile.FieldType.int)) ∈ wA := wA_of_5 166 rfl rfl
set_option maxRecDepth 100000 in
theorem wd_1127 : (Jvm.Cond.methodLink "LateFallsLaw" (243 : Nat) ({ cls := "LateFallsLaw", name := "waitSafe", desc := "(LLateFalls;III[J)I" } : Jvm.MethodName)) ∈ wA := wA_of_5 167 rfl rfl
set_option maxRecDepth 100000 in
theorem wd_1128 : (Jvm.Cond.static ({ cls := "LateFallsLaw", name := "waitSafe", desc := "(LLateFalls;III[J)I" } : Jvm.MethodName)) ∈ wA := wA_of_5 168 rfl rfl
set_option maxRecDepth 100000 in
theorem wd_1129 : (Jvm.Cond.codeWith ({ cls := "LateFallsLaw", name := "waitSafe", desc := "(LLateFalls;III[J)I" } : Jvm.MethodName) method_24_code (6 : Nat) (Option.some Jvm.ClassFile.FieldType.int) [((0 : Nat), (12 : Nat), (15 : Nat), (19 : Nat)), ((0 : Nat), (12 : Nat), (19 : Nat), (43 : Nat))]) ∈ wA := wA_of_5 169 rfl rfl
set_option maxRecDepth 100000 in
theorem wd_1130 : (Jvm.Cond.methodLink "LateFallsLaw" (81 : Nat) ({ cls := "LateFalls", name := "waitSafe", desc := "(III)I" } : Jvm.MethodName)) ∈ wA := wA_of_5 170 rfl rfl
set_option maxRecDepth 100000 in
theorem wd_1131 : (Jvm.Cond.instanceMethod ({ cls := "LateFalls", name := "waitSafe", desc := "(III)I" } : Jvm.MethodName)) ∈ wA := wA_of_5 171 rfl rfl
set_option maxRecDepth 100000 in
theorem wd_1132 : (Jvm.Cond.selects "LateFalls" ({ cls := "LateFalls", name := "waitSafe", desc := "(III)I" } : Jvm.MethodName) ({ cls := "LateFalls", name := "waitSafe", desc := "(III)I" } : Jvm.MethodName)) ∈ wA := wA_of_5 172 rfl rfl
set_option maxRecDepth 100000 in
theorem wd_1133 : (Jvm.Cond.code ({ cls := "LateFalls", name := "waitSafe", desc := "(III)I" } : Jvm.MethodName) prog_1_method_40_code (6 : Nat) (Option.some Jvm.ClassFile.FieldType.int)) ∈ wA := wA_of_5 173 rfl rfl
set_option maxRecDepth 100000 in
theorem wd_1134 : (Jvm.Cond.methodLink "LateFalls" (328 : Nat) ({ cls := "LateFalls$District", name := "walkersIn", desc := "(II)I" } : Jvm.MethodName)) ∈ wA := wA_of_5 174 rfl rfl
set_option maxRecDepth 100000 in
theorem wd_1135 : (Jvm.Cond.instanceMethod ({ cls := "LateFalls$District", name := "walkersIn", desc := "(II)I" } : Jvm.MethodName)) ∈ wA := wA_of_5 175 rfl rfl
set_option maxRecDepth 100000 in
theorem wd_1136 : (Jvm.Cond.selects "LateFalls$District" ({ cls := "LateFalls$District", name := "walkersIn", desc := "(II)I" } : Jvm.MethodName) ({ cls := "LateFalls$District", name := "walkersIn", desc := "(II)I" } : Jvm.MethodName)) ∈ wA := wA_of_5 176 rfl rfl
set_option maxRecDepth 100000 in
theorem wd_1137 : (Jvm.Cond.code ({ cls := "LateFalls$District", name := "walkersIn", desc := "(II)I" } : Jvm.MethodName) prog_2_method_4_code (5 : Nat) (Option.some Jvm.ClassFile.FieldType.int)) ∈ wA := wA_of_5 177 rfl rfl
set_option maxRecDepth 100000 in
theorem wd_1138 : (Jvm.Cond.methodLink "LateFalls$District" (37 : Nat) ({ cls := "LateFalls$District", name := "walkerColumn", desc := "(II)I" } : Jvm.MethodName)) ∈ wA := wA_of_5 178 rfl rfl
set_option maxRecDepth 100000 in
theorem wd_1139 : (Jvm.Cond.methodLink "LateFallsLaw" (247 : Nat) ({ cls := "LateFallsLaw", name := "waitHurt", desc := "(LLateFalls;IIII[J)I" } : Jvm.MethodName)) ∈ wA := wA_of_5 179 rfl rfl
set_option maxRecDepth 100000 in
theorem wd_1140 : (Jvm.Cond.static ({ cls := "LateFallsLaw", name := "waitHurt", desc := "(LLateFalls;IIII[J)I" } : Jvm.MethodName)) ∈ wA := wA_of_5 180 rfl rfl
set_option maxRecDepth 100000 in
theorem wd_1141 : (Jvm.Cond.codeWith ({ cls := "LateFallsLaw", name := "waitHurt", desc := "(LLateFalls;IIII[J)I" } : Jvm.MethodName) method_25_code (7 : Nat) (Option.some Jvm.ClassFile.FieldType.int) [((0 : Nat), (14 : Nat), (17 : Nat), (19 : Nat)), ((0 : Nat), (14 : Nat), (21 : Nat), (43 : Nat))]) ∈ wA := wA_of_5 181 rfl rfl
set_option maxRecDepth 100000 in
theorem wd_1142 : (Jvm.Cond.methodLink "LateFallsLaw" (85 : Nat) ({ cls := "LateFalls", name := "waitHurt", desc := "(IIII)I" } : Jvm.MethodName)) ∈ wA := wA_of_5 182 rfl rfl
set_option maxRecDepth 100000 in
theorem wd_1143 : (Jvm.Cond.instanceMethod ({ cls := "LateFalls", name := "waitHurt", desc := "(IIII)I" } : Jvm.MethodName)) ∈ wA := wA_of_5 183 rfl rfl
set_option maxRecDepth 100000 in
theorem wd_1144 : (Jvm.Cond.selects "LateFalls" ({ cls := "LateFalls", name := "waitHurt", desc := "(IIII)I" } : Jvm.MethodName) ({ cls := "LateFalls", name := "waitHurt", desc := "(IIII)I" } : Jvm.MethodName)) ∈ wA := wA_of_5 184 rfl rfl
set_option maxRecDepth 100000 in
theorem wd_1145 : (Jvm.Cond.code ({ cls := "LateFalls", name := "waitHurt", desc := "(IIII)I" } : Jvm.MethodName) prog_1_method_41_code (7 : Nat) (Option.some Jvm.ClassFile.FieldType.int)) ∈ wA := wA_of_5 185 rfl rfl
set_option maxRecDepth 100000 in
theorem wd_1146 : (Jvm.Cond.methodLink "LateFallsLaw" (250 : Nat) ({ cls := "LateFallsLaw", name := "place", desc := "(LLateFalls;IZ[J)I" } : Jvm.MethodName)) ∈ wA := wA_of_5 186 rfl rfl
set_option maxRecDepth 100000 in
theorem wd_1147 : (Jvm.Cond.static ({ cls := "LateFallsLaw", name := "place", desc := "(LLateFalls;IZ[J)I" } : Jvm.MethodName)) ∈ wA := wA_of_5 187 rfl rfl
set_option maxRecDepth 100000 in
theorem wd_1148 : (Jvm.Cond.codeWith ({ cls := "LateFallsLaw", name := "place", desc := "(LLateFalls;IZ[J)I" } : Jvm.MethodName) method_26_code (5 : Nat) (Option.some Jvm.ClassFile.FieldType.int) [((0 : Nat), (10 : Nat), (13 : Nat), (19 : Nat)), ((0 : Nat), (10 : Nat), (17 : Nat), (43 : Nat))]) ∈ wA := wA_of_5 188 rfl rfl
set_option maxRecDepth 100000 in
theorem wd_1149 : (Jvm.Cond.methodLink "LateFallsLaw" (88 : Nat) ({ cls := "LateFalls", name := "place", desc := "(IZ)I" } : Jvm.MethodName)) ∈ wA := wA_of_5 189 rfl rfl
set_option maxRecDepth 100000 in
theorem wd_1150 : (Jvm.Cond.instanceMethod ({ cls := "LateFalls", name := "place", desc := "(IZ)I" } : Jvm.MethodName)) ∈ wA := wA_of_5 190 rfl rfl
set_option maxRecDepth 100000 in
theorem wd_1151 : (Jvm.Cond.selects "LateFalls" ({ cls := "LateFalls", name := "place", desc := "(IZ)I" } : Jvm.MethodName) ({ cls := "LateFalls", name := "place", desc := "(IZ)I" } : Jvm.MethodName)) ∈ wA := wA_of_5 191 rfl rfl
set_option maxRecDepth 100000 in
theorem wd_1152 : (Jvm.Cond.code ({ cls := "LateFalls", name := "place", desc := "(IZ)I" } : Jvm.MethodName) prog_1_method_42_code (9 : Nat) (Option.some Jvm.ClassFile.FieldType.int)) ∈ wA := wA_of_5 192 rfl rfl
set_option maxRecDepth 100000 in
theorem wd_1153 : (Jvm.Cond.methodLink "LateFallsLaw" (254 : Nat) ({ cls := "LateFallsLaw", name := "worst", desc := "(LLateFalls;II[J)I" } : Jvm.MethodName)) ∈ wA := wA_of_5 193 rfl rfl
set_option maxRecDepth 100000 in
theorem wd_1154 : (Jvm.Cond.static ({ cls := "LateFallsLaw", name := "worst", desc := "(LLateFalls;II[J)I" } : Jvm.MethodName)) ∈ wA := wA_of_5 194 rfl rfl
set_option maxRecDepth 100000 in
theorem wd_1155 : (Jvm.Cond.codeWith ({ cls := "LateFallsLaw", name := "worst", desc := "(LLateFalls;II[J)I" } : Jvm.MethodName) method_27_code (5 : Nat) (Option.some Jvm.ClassFile.FieldType.int) [((0 : Nat), (10 : Nat), (13 : Nat), (19 : Nat)), ((0 : Nat), (10 : Nat), (17 : Nat), (43 : Nat)), ((0 : Nat), (10 : Nat), (21 : Nat), (13 : Nat))]) ∈ wA := wA_of_5 195 rfl rfl
set_option maxRecDepth 100000 in
theorem wd_1156 : (Jvm.Cond.methodLink "LateFallsLaw" (92 : Nat) ({ cls := "LateFalls", name := "worst", desc := "(II)I" } : Jvm.MethodName)) ∈ wA := wA_of_5 196 rfl rfl
set_option maxRecDepth 100000 in
theorem wd_1157 : (Jvm.Cond.instanceMethod ({ cls := "LateFalls", name := "worst", desc := "(II)I" } : Jvm.MethodName)) ∈ wA := wA_of_5 197 rfl rfl
set_option maxRecDepth 100000 in
theorem wd_1158 : (Jvm.Cond.selects "LateFalls" ({ cls := "LateFalls", name := "worst", desc := "(II)I" } : Jvm.MethodName) ({ cls := "LateFalls", name := "worst", desc := "(II)I" } : Jvm.MethodName)) ∈ wA := wA_of_5 198 rfl rfl
set_option maxRecDepth 100000 in
theorem wd_1159 : (Jvm.Cond.code ({ cls := "LateFalls", name := "worst", desc := "(II)I" } : Jvm.MethodName) prog_1_method_43_code (10 : Nat) (Option.some Jvm.ClassFile.FieldType.int)) ∈ wA := wA_of_5 199 rfl rfl
set_option maxRecDepth 100000 in
theorem wd_1160 : (Jvm.Cond.methodLink "LateFalls" (336 : Nat) ({ cls := "LateFalls$Scene", name := "weightOf", desc := "(II)I" } : Jvm.MethodName)) ∈ wA := wA_of_5 200 rfl rfl
set_option maxRecDepth 100000 in
theorem wd_1161 : (Jvm.Cond.methodLink "LateFallsLaw" (257 : Nat) ({ cls := "LateFallsLaw", name := "both", desc := "(LLateFalls;IIIIII[J)I" } : Jvm.MethodName)) ∈ wA := wA_of_5 201 rfl rfl
set_option maxRecDepth 100000 in
theorem wd_1162 : (Jvm.Cond.static ({ cls := "LateFallsLaw", name := "both", desc := "(LLateFalls;IIIIII[J)I" } : Jvm.MethodName)) ∈ wA := wA_of_5 202 rfl rfl
set_option maxRecDepth 100000 in
theorem wd_1163 : (Jvm.Cond.codeWith ({ cls := "LateFallsLaw", name := "both", desc := "(LLateFalls;IIIIII[J)I" } : Jvm.MethodName) method_28_code (9 : Nat) (Option.some Jvm.ClassFile.FieldType.int) [((0 : Nat), (18 : Nat), (21 : Nat), (19 : Nat)), ((0 : Nat), (18 : Nat), (25 : Nat), (43 : Nat)), ((0 : Nat), (18 : Nat), (29 : Nat), (13 : Nat))]) ∈ wA := wA_of_5 203 rfl rfl
set_option maxRecDepth 100000 in
theorem wd_1164 : (Jvm.Cond.methodLink "LateFallsLaw" (95 : Nat) ({ cls := "LateFalls", name := "both", desc := "(IIIIII)I" } : Jvm.MethodName)) ∈ wA := wA_of_5 204 rfl rfl
set_option maxRecDepth 100000 in
theorem wd_1165 : (Jvm.Cond.instanceMethod ({ cls := "LateFalls", name := "both", desc := "(IIIIII)I" } : Jvm.MethodName)) ∈ wA := wA_of_5 205 rfl rfl
set_option maxRecDepth 100000 in
theorem wd_1166 : (Jvm.Cond.selects "LateFalls" ({ cls := "LateFalls", name := "both", desc := "(IIIIII)I" } : Jvm.MethodName) ({ cls := "LateFalls", name := "both", desc := "(IIIIII)I" } : Jvm.MethodName)) ∈ wA := wA_of_5 206 rfl rfl
set_option maxRecDepth 100000 in
theorem wd_1167 : (Jvm.Cond.code ({ cls := "LateFalls", name := "both", desc := "(IIIIII)I" } : Jvm.MethodName) prog_1_method_44_code (13 : Nat) (Option.some Jvm.ClassFile.FieldType.int)) ∈ wA := wA_of_5 207 rfl rfl
set_option maxRecDepth 100000 in
theorem wd_1169 : (Jvm.Cond.methodLink "LateFalls" (341 : Nat) ({ cls := "LateFalls", name := "firstWaitFor", desc := "(I)I" } : Jvm.MethodName)) ∈ wA := wA_of_5 209 rfl rfl
set_option maxRecDepth 100000 in
theorem wd_1171 : (Jvm.Cond.instanceMethod ({ cls := "LateFalls", name := "firstWaitFor", desc := "(I)I" } : Jvm.MethodName)) ∈ wA := wA_of_5 211 rfl rfl
set_option maxRecDepth 100000 in
theorem wd_1172 : (Jvm.Cond.code ({ cls := "LateFalls", name := "firstWaitFor", desc := "(I)I" } : Jvm.MethodName) prog_1_method_45_code (3 : Nat) (Option.some Jvm.ClassFile.FieldType.int)) ∈ wA := wA_of_5 212 rfl rfl
set_option maxRecDepth 100000 in
theorem wd_1173 : (Jvm.Cond.methodLink "LateFallsLaw" (261 : Nat) ({ cls := "LateFallsLaw", name := "safeWay", desc := "(LLateFalls;III[J)I" } : Jvm.MethodName)) ∈ wA := wA_of_5 213 rfl rfl
set_option maxRecDepth 100000 in
theorem wd_1174 : (Jvm.Cond.static ({ cls := "LateFallsLaw", name := "safeWay", desc := "(LLateFalls;III[J)I" } : Jvm.MethodName)) ∈ wA := wA_of_5 214 rfl rfl
set_option maxRecDepth 100000 in
theorem wd_1175 : (Jvm.Cond.codeWith ({ cls := "LateFallsLaw", name := "safeWay", desc := "(LLateFalls;III[J)I" } : Jvm.MethodName) method_29_code (6 : Nat) (Option.some Jvm.ClassFile.FieldType.int) [((0 : Nat), (12 : Nat), (15 : Nat), (19 : Nat)), ((0 : Nat), (12 : Nat), (19 : Nat), (13 : Nat))]) ∈ wA := wA_of_5 215 rfl rfl
set_option maxRecDepth 100000 in
theorem wd_1176 : (Jvm.Cond.methodLink "LateFallsLaw" (99 : Nat) ({ cls := "LateFalls", name := "safeWay", desc := "(III)I" } : Jvm.MethodName)) ∈ wA := wA_of_5 216 rfl rfl
set_option maxRecDepth 100000 in
theorem wd_1177 : (Jvm.Cond.instanceMethod ({ cls := "LateFalls", name := "safeWay", desc := "(III)I" } : Jvm.MethodName)) ∈ wA := wA_of_5 217 rfl rfl
set_option maxRecDepth 100000 in
theorem wd_1178 : (Jvm.Cond.selects "LateFalls" ({ cls := "LateFalls", name := "safeWay", desc := "(III)I" } : Jvm.MethodName) ({ cls := "LateFalls", name := "safeWay", desc := "(III)I" } : Jvm.MethodName)) ∈ wA := wA_of_5 218 rfl rfl
set_option maxRecDepth 100000 in
theorem wd_1179 : (Jvm.Cond.code ({ cls := "LateFalls", name := "safeWay", desc := "(III)I" } : Jvm.MethodName) prog_1_method_48_code (5 : Nat) (Option.some Jvm.ClassFile.FieldType.int)) ∈ wA := wA_of_5 219 rfl rfl
set_option maxRecDepth 100000 in
theorem wd_1180 : (Jvm.Cond.methodLink "LateFalls" (346 : Nat) ({ cls := "LateFalls$Ways", name := "look", desc := "(LLateFalls$Forecast;I)V" } : Jvm.MethodName)) ∈ wA := wA_of_5 220 rfl rfl
set_option maxRecDepth 100000 in
theorem wd_1181 : (Jvm.Cond.instanceMethod ({ cls := "LateFalls$Ways", name := "look", desc := "(LLateFalls$Forecast;I)V" } : Jvm.MethodName)) ∈ wA := wA_of_5 221 rfl rfl
set_option maxRecDepth 100000 in
theorem wd_1182 : (Jvm.Cond.selects "LateFalls$Ways" ({ cls := "LateFalls$Ways", name := "look", desc := "(LLateFalls$Forecast;I)V" } : Jvm.MethodName) ({ cls := "LateFalls$Ways", name := "look", desc := "(LLateFalls$Forecast;I)V" } : Jvm.MethodName)) ∈ wA := wA_of_5 222 rfl rfl
set_option maxRecDepth 100000 in
theorem wd_1183 : (Jvm.Cond.code ({ cls := "LateFalls$Ways", name := "look", desc := "(LLateFalls$Forecast;I)V" } : Jvm.MethodName) prog_11_method_2_code (7 : Nat) (Option.none : Option Jvm.ClassFile.FieldType)) ∈ wA := wA_of_5 223 rfl rfl
set_option maxRecDepth 100000 in
theorem wd_1184 : (Jvm.Cond.methodLink "LateFalls$Ways" (55 : Nat) ({ cls := "LateFalls$Forecast", name := "weightIn", desc := "(II)I" } : Jvm.MethodName)) ∈ wA := wA_of_5 224 rfl rfl
set_option maxRecDepth 100000 in
theorem wd_1185 : (Jvm.Cond.methodLink "LateFalls$Ways" (59 : Nat) ({ cls := "LateFalls$Ways", name := "near", desc := "(I)I" } : Jvm.MethodName)) ∈ wA := wA_of_5 225 rfl rfl
set_option maxRecDepth 100000 in
theorem wd_1187 : (Jvm.Cond.instanceMethod ({ cls := "LateFalls$Ways", name := "near", desc := "(I)I" } : Jvm.MethodName)) ∈ wA := wA_of_5 227 rfl rfl
set_option maxRecDepth 100000 in
theorem wd_1188 : (Jvm.Cond.code ({ cls := "LateFalls$Ways", name := "near", desc := "(I)I" } : Jvm.MethodName) prog_11_method_3_code (2 : Nat) (Option.some Jvm.ClassFile.FieldType.int)) ∈ wA := wA_of_5 228 rfl rfl
set_option maxRecDepth 100000 in
theorem wd_1189 : (Jvm.Cond.methodLink "LateFalls" (349 : Nat) ({ cls := "LateFalls$Ways", name := "soonest", desc := "(I)I" } : Jvm.MethodName)) ∈ wA := wA_of_5 229 rfl rfl
set_option maxRecDepth 100000 in
theorem wd_1190 : (Jvm.Cond.instanceMethod ({ cls := "LateFalls$Ways", name := "soonest", desc := "(I)I" } : Jvm.MethodName)) ∈ wA := wA_of_5 230 rfl rfl
set_option maxRecDepth 100000 in
theorem wd_1191 : (Jvm.Cond.selects "LateFalls$Ways" ({ cls := "LateFalls$Ways", name := "soonest", desc := "(I)I" } : Jvm.MethodName) ({ cls := "LateFalls$Ways", name := "soonest", desc := "(I)I" } : Jvm.MethodName)) ∈ wA := wA_of_5 231 rfl rfl
set_option maxRecDepth 100000 in
theorem wd_1192 : (Jvm.Cond.code ({ cls := "LateFalls$Ways", name := "soonest", desc := "(I)I" } : Jvm.MethodName) prog_11_method_4_code (3 : Nat) (Option.some Jvm.ClassFile.FieldType.int)) ∈ wA := wA_of_5 232 rfl rfl
set_option maxRecDepth 100000 in
theorem wd_1193 : (Jvm.Cond.methodLink "LateFalls" (352 : Nat) ({ cls := "LateFalls$Ways", name := "columnOnWay", desc := "(IIII)I" } : Jvm.MethodName)) ∈ wA := wA_of_5 233 rfl rfl
set_option maxRecDepth 100000 in
theorem wd_1194 : (Jvm.Cond.instanceMethod ({ cls := "LateFalls$Ways", name := "columnOnWay", desc := "(IIII)I" } : Jvm.MethodName)) ∈ wA := wA_of_5 234 rfl rfl
set_option maxRecDepth 100000 in
theorem wd_1195 : (Jvm.Cond.selects "LateFalls$Ways" ({ cls := "LateFalls$Ways", name := "columnOnWay", desc := "(IIII)I" } : Jvm.MethodName) ({ cls := "LateFalls$Ways", name := "columnOnWay", desc := "(IIII)I" } : Jvm.MethodName)) ∈ wA := wA_of_5 235 rfl rfl
set_option maxRecDepth 100000 in
theorem wd_1196 : (Jvm.Cond.code ({ cls := "LateFalls$Ways", name := "columnOnWay", desc := "(IIII)I" } : Jvm.MethodName) prog_11_method_5_code (7 : Nat) (Option.some Jvm.ClassFile.FieldType.int)) ∈ wA := wA_of_5 236 rfl rfl
set_option maxRecDepth 100000 in
theorem wd_1197 : (Jvm.Cond.methodLink "LateFalls$Ways" (63 : Nat) ({ cls := "java/lang/Integer", name := "numberOfTrailingZeros", desc := "(I)I" } : Jvm.MethodName)) ∈ wA := wA_of_5 237 rfl rfl
set_option maxRecDepth 100000 in
theorem wd_1198 : (Jvm.Cond.static ({ cls := "java/lang/Integer", name := "numberOfTrailingZeros", desc := "(I)I" } : Jvm.MethodName)) ∈ wA := wA_of_5 238 rfl rfl
set_option maxRecDepth 100000 in
theorem wd_1199 : (Jvm.Cond.code ({ cls := "java/lang/Integer", name := "numberOfTrailingZeros", desc := "(I)I" } : Jvm.MethodName) prog_22_method_48_code (2 : Nat) (Option.some Jvm.ClassFile.FieldType.int)) ∈ wA := wA_of_5 239 rfl rfl
set_option maxRecDepth 100000 in
theorem wd_1200 : (Jvm.Cond.constant "java/lang/Integer" (264 : Nat) (65536 : Int32)) ∈ wA := wA_of_6 0 rfl rfl
set_option maxRecDepth 100000 in
theorem wd_1201 : (Jvm.Cond.methodLink "LateFallsLaw" (264 : Nat) ({ cls := "LateFallsLaw", name := "safeWays", desc := "(LLateFalls;III[J)I" } : Jvm.MethodName)) ∈ wA := wA_of_6 1 rfl rfl
set_option maxRecDepth 100000 in
theorem wd_1202 : (Jvm.Cond.static ({ cls := "LateFallsLaw", name := "safeWays", desc := "(LLateFalls;III[J)I" } : Jvm.MethodName)) ∈ wA := wA_of_6 2 rfl rfl
set_option maxRecDepth 100000 in
theorem wd_1203 : (Jvm.Cond.codeWith ({ cls := "LateFallsLaw", name := "safeWays", desc := "(LLateFalls;III[J)I" } : Jvm.MethodName) method_30_code (6 : Nat) (Option.some Jvm.ClassFile.FieldType.int) [((0 : Nat), (11 : Nat), (14 : Nat), (19 : Nat)), ((0 : Nat), (11 : Nat), (18 : Nat), (13 : Nat))]) ∈ wA := wA_of_6 3 rfl rfl
set_option maxRecDepth 100000 in
theorem wd_1204 : (Jvm.Cond.methodLink "LateFallsLaw" (102 : Nat) ({ cls := "LateFalls", name := "safeWays", desc := "(III)J" } : Jvm.MethodName)) ∈ wA := wA_of_6 4 rfl rfl
set_option maxRecDepth 100000 in
theorem wd_1205 : (Jvm.Cond.instanceMethod ({ cls := "LateFalls", name := "safeWays", desc := "(III)J" } : Jvm.MethodName)) ∈ wA := wA_of_6 5 rfl rfl
set_option maxRecDepth 100000 in
theorem wd_1206 : (Jvm.Cond.selects "LateFalls" ({ cls := "LateFalls", name := "safeWays", desc := "(III)J" } : Jvm.MethodName) ({ cls := "LateFalls", name := "safeWays", desc := "(III)J" } : Jvm.MethodName)) ∈ wA := wA_of_6 6 rfl rfl
set_option maxRecDepth 100000 in
theorem wd_1207 : (Jvm.Cond.code ({ cls := "LateFalls", name := "safeWays", desc := "(III)J" } : Jvm.MethodName) prog_1_method_49_code (4 : Nat) (Option.some Jvm.ClassFile.FieldType.long)) ∈ wA := wA_of_6 7 rfl rfl
set_option maxRecDepth 100000 in
theorem wd_1208 : (Jvm.Cond.methodLink "LateFalls" (356 : Nat) ({ cls := "LateFalls$Ways", name := "howMany", desc := "(III)J" } : Jvm.MethodName)) ∈ wA := wA_of_6 8 rfl rfl
set_option maxRecDepth 100000 in
theorem wd_1209 : (Jvm.Cond.instanceMethod ({ cls := "LateFalls$Ways", name := "howMany", desc := "(III)J" } : Jvm.MethodName)) ∈ wA := wA_of_6 9 rfl rfl
set_option maxRecDepth 100000 in
theorem wd_1210 : (Jvm.Cond.selects "LateFalls$Ways" ({ cls := "LateFalls$Ways", name := "howMany", desc := "(III)J" } : Jvm.MethodName) ({ cls := "LateFalls$Ways", name := "howMany", desc := "(III)J" } : Jvm.MethodName)) ∈ wA := wA_of_6 10 rfl rfl
set_option maxRecDepth 100000 in
theorem wd_1211 : (Jvm.Cond.code ({ cls := "LateFalls$Ways", name := "howMany", desc := "(III)J" } : Jvm.MethodName) prog_11_method_6_code (7 : Nat) (Option.some Jvm.ClassFile.FieldType.long)) ∈ wA := wA_of_6 11 rfl rfl
set_option maxRecDepth 100000 in
theorem wd_1212 : (Jvm.Cond.methodLink "LateFalls$Ways" (68 : Nat) ({ cls := "java/lang/System", name := "arraycopy", desc := "(Ljava/lang/Object;ILjava/lang/Object;II)V" } : Jvm.MethodName)) ∈ wA := wA_of_6 12 rfl rfl
set_option maxRecDepth 100000 in
theorem wd_1213 : (Jvm.Cond.methodLink "LateFalls$Ways" (74 : Nat) ({ cls := "LateFalls$Ways", name := "beside", desc := "(I)J" } : Jvm.MethodName)) ∈ wA := wA_of_6 13 rfl rfl
set_option maxRecDepth 100000 in
theorem wd_1215 : (Jvm.Cond.instanceMethod ({ cls := "LateFalls$Ways", name := "beside", desc := "(I)J" } : Jvm.MethodName)) ∈ wA := wA_of_6 15 rfl rfl
set_option maxRecDepth 100000 in
theorem wd_1216 : (Jvm.Cond.code ({ cls := "LateFalls$Ways", name := "beside", desc := "(I)J" } : Jvm.MethodName) prog_11_method_7_code (2 : Nat) (Option.some Jvm.ClassFile.FieldType.long)) ∈ wA := wA_of_6 16 rfl rfl
set_option maxRecDepth 100000 in
theorem wd_1217 : (Jvm.Cond.methodLink "LateFallsLaw" (267 : Nat) ({ cls := "LateFallsLaw", name := "safeIn", desc := "(LLateFalls;II[J)I" } : Jvm.MethodName)) ∈ wA := wA_of_6 17 rfl rfl
set_option maxRecDepth 100000 in
theorem wd_1218 : (Jvm.Cond.static ({ cls := "LateFallsLaw", name := "safeIn", desc := "(LLateFalls;II[J)I" } : Jvm.MethodName)) ∈ wA := wA_of_6 18 rfl rfl
set_option maxRecDepth 100000 in
theorem wd_1219 : (Jvm.Cond.codeWith ({ cls := "LateFallsLaw", name := "safeIn", desc := "(LLateFalls;II[J)I" } : Jvm.MethodName) method_31_code (5 : Nat) (Option.some Jvm.ClassFile.FieldType.int) [((0 : Nat), (10 : Nat), (13 : Nat), (19 : Nat)), ((0 : Nat), (10 : Nat), (17 : Nat), (13 : Nat))]) ∈ wA := wA_of_6 19 rfl rfl
set_option maxRecDepth 100000 in
theorem wd_1220 : (Jvm.Cond.methodLink "LateFallsLaw" (106 : Nat) ({ cls := "LateFalls", name := "safeIn", desc := "(II)I" } : Jvm.MethodName)) ∈ wA := wA_of_6 20 rfl rfl
set_option maxRecDepth 100000 in
theorem wd_1221 : (Jvm.Cond.instanceMethod ({ cls := "LateFalls", name := "safeIn", desc := "(II)I" } : Jvm.MethodName)) ∈ wA := wA_of_6 21 rfl rfl
set_option maxRecDepth 100000 in
theorem wd_1222 : (Jvm.Cond.selects "LateFalls" ({ cls := "LateFalls", name := "safeIn", desc := "(II)I" } : Jvm.MethodName) ({ cls := "LateFalls", name := "safeIn", desc := "(II)I" } : Jvm.MethodName)) ∈ wA := wA_of_6 22 rfl rfl
set_option maxRecDepth 100000 in
theorem wd_1223 : (Jvm.Cond.code ({ cls := "LateFalls", name := "safeIn", desc := "(II)I" } : Jvm.MethodName) prog_1_method_50_code (3 : Nat) (Option.some Jvm.ClassFile.FieldType.int)) ∈ wA := wA_of_6 23 rfl rfl
set_option maxRecDepth 100000 in
theorem wd_1224 : (Jvm.Cond.methodLink "LateFallsLaw" (274 : Nat) ({ cls := "LateFallsLaw", name := "later", desc := "(LLateFalls;II[J)I" } : Jvm.MethodName)) ∈ wA := wA_of_6 24 rfl rfl
set_option maxRecDepth 100000 in
theorem wd_1225 : (Jvm.Cond.static ({ cls := "LateFallsLaw", name := "later", desc := "(LLateFalls;II[J)I" } : Jvm.MethodName)) ∈ wA := wA_of_6 25 rfl rfl
set_option maxRecDepth 100000 in
theorem wd_1226 : (Jvm.Cond.codeWith ({ cls := "LateFallsLaw", name := "later", desc := "(LLateFalls;II[J)I" } : Jvm.MethodName) method_32_code (5 : Nat) (Option.some Jvm.ClassFile.FieldType.int) [((0 : Nat), (10 : Nat), (13 : Nat), (19 : Nat)), ((0 : Nat), (10 : Nat), (17 : Nat), (13 : Nat))]) ∈ wA := wA_of_6 26 rfl rfl
set_option maxRecDepth 100000 in
theorem wd_1227 : (Jvm.Cond.methodLink "LateFallsLaw" (109 : Nat) ({ cls := "LateFalls", name := "later", desc := "(II)I" } : Jvm.MethodName)) ∈ wA := wA_of_6 27 rfl rfl
set_option maxRecDepth 100000 in
theorem wd_1228 : (Jvm.Cond.instanceMethod ({ cls := "LateFalls", name := "later", desc := "(II)I" } : Jvm.MethodName)) ∈ wA := wA_of_6 28 rfl rfl
set_option maxRecDepth 100000 in
theorem wd_1229 : (Jvm.Cond.selects "LateFalls" ({ cls := "LateFalls", name := "later", desc := "(II)I" } : Jvm.MethodName) ({ cls := "LateFalls", name := "later", desc := "(II)I" } : Jvm.MethodName)) ∈ wA := wA_of_6 29 rfl rfl
set_option maxRecDepth 100000 in
theorem wd_1230 : (Jvm.Cond.code ({ cls := "LateFalls", name := "later", desc := "(II)I" } : Jvm.MethodName) prog_1_method_52_code (3 : Nat) (Option.some Jvm.ClassFile.FieldType.int)) ∈ wA := wA_of_6 30 rfl rfl
set_option maxRecDepth 100000 in
theorem wd_1231 : (Jvm.Cond.methodLink "LateFallsLaw" (277 : Nat) ({ cls := "LateFallsLaw", name := "letGoBy", desc := "(LLateFalls;III[J)I" } : Jvm.MethodName)) ∈ wA := wA_of_6 31 rfl rfl
set_option maxRecDepth 100000 in
theorem wd_1232 : (Jvm.Cond.static ({ cls := "LateFallsLaw", name := "letGoBy", desc := "(LLateFalls;III[J)I" } : Jvm.MethodName)) ∈ wA := wA_of_6 32 rfl rfl
set_option maxRecDepth 100000 in
theorem wd_1233 : (Jvm.Cond.codeWith ({ cls := "LateFallsLaw", name := "letGoBy", desc := "(LLateFalls;III[J)I" } : Jvm.MethodName) method_33_code (6 : Nat) (Option.some Jvm.ClassFile.FieldType.int) [((0 : Nat), (12 : Nat), (15 : Nat), (19 : Nat)), ((0 : Nat), (12 : Nat), (19 : Nat), (13 : Nat))]) ∈ wA := wA_of_6 33 rfl rfl
set_option maxRecDepth 100000 in
theorem wd_1234 : (Jvm.Cond.methodLink "LateFallsLaw" (112 : Nat) ({ cls := "LateFalls", name := "letGoBy", desc := "(III)I" } : Jvm.MethodName)) ∈ wA := wA_of_6 34 rfl rfl
set_option maxRecDepth 100000 in
theorem wd_1235 : (Jvm.Cond.instanceMethod ({ cls := "LateFalls", name := "letGoBy", desc := "(III)I" } : Jvm.MethodName)) ∈ wA := wA_of_6 35 rfl rfl
set_option maxRecDepth 100000 in
theorem wd_1236 : (Jvm.Cond.selects "LateFalls" ({ cls := "LateFalls", name := "letGoBy", desc := "(III)I" } : Jvm.MethodName) ({ cls := "LateFalls", name := "letGoBy", desc := "(III)I" } : Jvm.MethodName)) ∈ wA := wA_of_6 36 rfl rfl
set_option maxRecDepth 100000 in
theorem wd_1237 : (Jvm.Cond.code ({ cls := "LateFalls", name := "letGoBy", desc := "(III)I" } : Jvm.MethodName) prog_1_method_53_code (7 : Nat) (Option.some Jvm.ClassFile.FieldType.int)) ∈ wA := wA_of_6 37 rfl rfl
set_option maxRecDepth 100000 in
theorem wd_1238 : (Jvm.Cond.methodLink "LateFalls" (368 : Nat) ({ cls := "LateFalls", name := "isLetGoBy", desc := "(IIIII)Z" } : Jvm.MethodName)) ∈ wA := wA_of_6 38 rfl rfl
set_option maxRecDepth 100000 in
theorem wd_1240 : (Jvm.Cond.instanceMethod ({ cls := "LateFalls", name := "isLetGoBy", desc := "(IIIII)Z" } : Jvm.MethodName)) ∈ wA := wA_of_6 40 rfl rfl
set_option maxRecDepth 100000 in
theorem wd_1241 : (Jvm.Cond.code ({ cls := "LateFalls", name := "isLetGoBy", desc := "(IIIII)Z" } : Jvm.MethodName) prog_1_method_56_code (6 : Nat) (Option.some Jvm.ClassFile.FieldType.boolean)) ∈ wA := wA_of_6 41 rfl rfl
set_option maxRecDepth 100000 in
theorem wd_1242 : (Jvm.Cond.methodLink "LateFallsLaw" (280 : Nat) ({ cls := "LateFallsLaw", name := "letGoAt", desc := "(LLateFalls;IIII[J)I" } : Jvm.MethodName)) ∈ wA := wA_of_6 42 rfl rfl
set_option maxRecDepth 100000 in
theorem wd_1243 : (Jvm.Cond.static ({ cls := "LateFallsLaw", name := "letGoAt", desc := "(LLateFalls;IIII[J)I" } : Jvm.MethodName)) ∈ wA := wA_of_6 43 rfl rfl
set_option maxRecDepth 100000 in
theorem wd_1244 : (Jvm.Cond.codeWith ({ cls := "LateFallsLaw", name := "letGoAt", desc := "(LLateFalls;IIII[J)I" } : Jvm.MethodName) method_34_code (7 : Nat) (Option.some Jvm.ClassFile.FieldType.int) [((0 : Nat), (14 : Nat), (17 : Nat), (19 : Nat)), ((0 : Nat), (14 : Nat), (21 : Nat), (13 : Nat))]) ∈ wA := wA_of_6 44 rfl rfl
set_option maxRecDepth 100000 in
theorem wd_1245 : (Jvm.Cond.methodLink "LateFallsLaw" (115 : Nat) ({ cls := "LateFalls", name := "letGoAt", desc := "(IIII)I" } : Jvm.MethodName)) ∈ wA := wA_of_6 45 rfl rfl
set_option maxRecDepth 100000 in
theorem wd_1246 : (Jvm.Cond.instanceMethod ({ cls := "LateFalls", name := "letGoAt", desc := "(IIII)I" } : Jvm.MethodName)) ∈ wA := wA_of_6 46 rfl rfl
set_option maxRecDepth 100000 in
theorem wd_1247 : (Jvm.Cond.selects "LateFalls" ({ cls := "LateFalls", name := "letGoAt", desc := "(IIII)I" } : Jvm.MethodName) ({ cls := "LateFalls", name := "letGoAt", desc := "(IIII)I" } : Jvm.MethodName)) ∈ wA := wA_of_6 47 rfl rfl
set_option maxRecDepth 100000 in
theorem wd_1248 : (Jvm.Cond.code ({ cls := "LateFalls", name := "letGoAt", desc := "(IIII)I" } : Jvm.MethodName) prog_1_method_54_code (8 : Nat) (Option.some Jvm.ClassFile.FieldType.int)) ∈ wA := wA_of_6 48 rfl rfl
set_option maxRecDepth 100000 in
theorem wd_1249 : (Jvm.Cond.constant "LateFalls" (372 : Nat) (2147483647 : Int32)) ∈ wA := wA_of_6 49 rfl rfl
set_option maxRecDepth 100000 in
theorem wd_1250 : (Jvm.Cond.methodLink "LateFallsLaw" (283 : Nat) ({ cls := "LateFallsLaw", name := "levels", desc := "(LLateFalls;IIII[J)I" } : Jvm.MethodName)) ∈ wA := wA_of_6 50 rfl rfl
set_option maxRecDepth 100000 in
theorem wd_1251 : (Jvm.Cond.static ({ cls := "LateFallsLaw", name := "levels", desc := "(LLateFalls;IIII[J)I" } : Jvm.MethodName)) ∈ wA := wA_of_6 51 rfl rfl
set_option maxRecDepth 100000 in
theorem wd_1252 : (Jvm.Cond.codeWith ({ cls := "LateFallsLaw", name := "levels", desc := "(LLateFalls;IIII[J)I" } : Jvm.MethodName) method_35_code (7 : Nat) (Option.some Jvm.ClassFile.FieldType.int) [((0 : Nat), (14 : Nat), (17 : Nat), (19 : Nat)), ((0 : Nat), (14 : Nat), (21 : Nat), (13 : Nat))]) ∈ wA := wA_of_6 52 rfl rfl
set_option maxRecDepth 100000 in
theorem wd_1253 : (Jvm.Cond.methodLink "LateFallsLaw" (118 : Nat) ({ cls := "LateFalls", name := "levels", desc := "(IIII)I" } : Jvm.MethodName)) ∈ wA := wA_of_6 53 rfl rfl
set_option maxRecDepth 100000 in
theorem wd_1254 : (Jvm.Cond.instanceMethod ({ cls := "LateFalls", name := "levels", desc := "(IIII)I" } : Jvm.MethodName)) ∈ wA := wA_of_6 54 rfl rfl
set_option maxRecDepth 100000 in
theorem wd_1255 : (Jvm.Cond.selects "LateFalls" ({ cls := "LateFalls", name := "levels", desc := "(IIII)I" } : Jvm.MethodName) ({ cls := "LateFalls", name := "levels", desc := "(IIII)I" } : Jvm.MethodName)) ∈ wA := wA_of_6 55 rfl rfl
set_option maxRecDepth 100000 in
theorem wd_1256 : (Jvm.Cond.code ({ cls := "LateFalls", name := "levels", desc := "(IIII)I" } : Jvm.MethodName) prog_1_method_55_code (7 : Nat) (Option.some Jvm.ClassFile.FieldType.int)) ∈ wA := wA_of_6 56 rfl rfl
set_option maxRecDepth 100000 in
theorem wd_1257 : (Jvm.Cond.methodLink "LateFallsLaw" (286 : Nat) ({ cls := "LateFallsLaw", name := "tray", desc := "(LLateFalls;III)I" } : Jvm.MethodName)) ∈ wA := wA_of_6 57 rfl rfl
set_option maxRecDepth 100000 in
theorem wd_1258 : (Jvm.Cond.static ({ cls := "LateFallsLaw", name := "tray", desc := "(LLateFalls;III)I" } : Jvm.MethodName)) ∈ wA := wA_of_6 58 rfl rfl
set_option maxRecDepth 100000 in
theorem wd_1259 : (Jvm.Cond.codeWith ({ cls := "LateFallsLaw", name := "tray", desc := "(LLateFalls;III)I" } : Jvm.MethodName) method_36_code (5 : Nat) (Option.some Jvm.ClassFile.FieldType.int) [((0 : Nat), (7 : Nat), (10 : Nat), (19 : Nat)), ((0 : Nat), (7 : Nat), (14 : Nat), (13 : Nat))]) ∈ wA := wA_of_6 59 rfl rfl
set_option maxRecDepth 100000 in
theorem wd_1260 : (Jvm.Cond.methodLink "LateFallsLaw" (121 : Nat) ({ cls := "LateFalls", name := "tray", desc := "(III)V" } : Jvm.MethodName)) ∈ wA := wA_of_6 60 rfl rfl
set_option maxRecDepth 100000 in
theorem wd_1261 : (Jvm.Cond.instanceMethod ({ cls := "LateFalls", name := "tray", desc := "(III)V" } : Jvm.MethodName)) ∈ wA := wA_of_6 61 rfl rfl
set_option maxRecDepth 100000 in
theorem wd_1262 : (Jvm.Cond.selects "LateFalls" ({ cls := "LateFalls", name := "tray", desc := "(III)V" } : Jvm.MethodName) ({ cls := "LateFalls", name := "tray", desc := "(III)V" } : Jvm.MethodName)) ∈ wA := wA_of_6 62 rfl rfl
set_option maxRecDepth 100000 in
theorem wd_1263 : (Jvm.Cond.code ({ cls := "LateFalls", name := "tray", desc := "(III)V" } : Jvm.MethodName) prog_1_method_57_code (5 : Nat) (Option.none : Option Jvm.ClassFile.FieldType)) ∈ wA := wA_of_6 63 rfl rfl
set_option maxRecDepth 100000 in
theorem wd_1265 : (Jvm.Cond.methodLink "LateFalls" (378 : Nat) ({ cls := "LateFalls$Tray", name := "lay", desc := "(II)V" } : Jvm.MethodName)) ∈ wA := wA_of_6 65 rfl rfl
set_option maxRecDepth 100000 in
theorem wd_1266 : (Jvm.Cond.instanceMethod ({ cls := "LateFalls$Tray", name := "lay", desc := "(II)V" } : Jvm.MethodName)) ∈ wA := wA_of_6 66 rfl rfl
set_option maxRecDepth 100000 in
theorem wd_1267 : (Jvm.Cond.selects "LateFalls$Tray" ({ cls := "LateFalls$Tray", name := "lay", desc := "(II)V" } : Jvm.MethodName) ({ cls := "LateFalls$Tray", name := "lay", desc := "(II)V" } : Jvm.MethodName)) ∈ wA := wA_of_6 67 rfl rfl
set_option maxRecDepth 100000 in
theorem wd_1268 : (Jvm.Cond.code ({ cls := "LateFalls$Tray", name := "lay", desc := "(II)V" } : Jvm.MethodName) prog_10_method_2_code (4 : Nat) (Option.none : Option Jvm.ClassFile.FieldType)) ∈ wA := wA_of_6 68 rfl rfl
set_option maxRecDepth 100000 in
theorem wd_1269 : (Jvm.Cond.methodLink "LateFallsLaw" (292 : Nat) ({ cls := "LateFallsLaw", name := "write", desc := "(LLateFalls;IIJ[J)I" } : Jvm.MethodName)) ∈ wA := wA_of_6 69 rfl rfl
set_option maxRecDepth 100000 in
theorem wd_1270 : (Jvm.Cond.static ({ cls := "LateFallsLaw", name := "write", desc := "(LLateFalls;IIJ[J)I" } : Jvm.MethodName)) ∈ wA := wA_of_6 70 rfl rfl
set_option maxRecDepth 100000 in
theorem wd_1271 : (Jvm.Cond.codeWith ({ cls := "LateFallsLaw", name := "write", desc := "(LLateFalls;IIJ[J)I" } : Jvm.MethodName) method_37_code (7 : Nat) (Option.some Jvm.ClassFile.FieldType.int) [((0 : Nat), (11 : Nat), (14 : Nat), (19 : Nat)), ((0 : Nat), (11 : Nat), (18 : Nat), (43 : Nat)), ((0 : Nat), (11 : Nat), (22 : Nat), (129 : Nat))]) ∈ wA := wA_of_6 71 rfl rfl
set_option maxRecDepth 100000 in
theorem wd_1272 : (Jvm.Cond.classLink "LateFallsLaw" (129 : Nat) "java/lang/IndexOutOfBoundsException") ∈ wA := wA_of_6 72 rfl rfl
set_option maxRecDepth 100000 in
theorem wd_1273 : (Jvm.Cond.methodLink "LateFallsLaw" (125 : Nat) ({ cls := "LateFalls", name := "write", desc := "(IIJ)J" } : Jvm.MethodName)) ∈ wA := wA_of_6 73 rfl rfl
set_option maxRecDepth 100000 in
theorem wd_1274 : (Jvm.Cond.instanceMethod ({ cls := "LateFalls", name := "write", desc := "(IIJ)J" } : Jvm.MethodName)) ∈ wA := wA_of_6 74 rfl rfl
set_option maxRecDepth 100000 in
theorem wd_1275 : (Jvm.Cond.selects "LateFalls" ({ cls := "LateFalls", name := "write", desc := "(IIJ)J" } : Jvm.MethodName) ({ cls := "LateFalls", name := "write", desc := "(IIJ)J" } : Jvm.MethodName)) ∈ wA := wA_of_6 75 rfl rfl
set_option maxRecDepth 100000 in
theorem wd_1276 : (Jvm.Cond.code ({ cls := "LateFalls", name := "write", desc := "(IIJ)J" } : Jvm.MethodName) prog_1_method_58_code (6 : Nat) (Option.some Jvm.ClassFile.FieldType.long)) ∈ wA := wA_of_6 76 rfl rfl
set_option maxRecDepth 100000 in
theorem wd_1277 : (Jvm.Cond.classLink "LateFalls" (381 : Nat) "java/lang/IndexOutOfBoundsException") ∈ wA := wA_of_6 77 rfl rfl
set_option maxRecDepth 100000 in
theorem wd_1278 : (Jvm.Cond.instantiable "java/lang/IndexOutOfBoundsException" (6 : Nat)) ∈ wA := wA_of_6 78 rfl rfl
set_option maxRecDepth 100000 in
theorem wd_1280 : (Jvm.Cond.selects "java/lang/IndexOutOfBoundsException" ({ cls := "java/lang/Throwable", name := "fillInStackTrace", desc := "(I)Ljava/lang/Throwable;" } : Jvm.MethodName) ({ cls := "java/lang/Throwable", name := "fillInStackTrace", desc := "(I)Ljava/lang/Throwable;" } : Jvm.MethodName)) ∈ wA := wA_of_6 80 rfl rfl
set_option maxRecDepth 100000 in
theorem wd_1281 : (Jvm.Cond.lays "java/lang/IndexOutOfBoundsException" "java/lang/Throwable" "cause" "Ljava/lang/Throwable;") ∈ wA := wA_of_6 81 rfl rfl
set_option maxRecDepth 100000 in
theorem wd_1282 : (Jvm.Cond.lays "java/lang/IndexOutOfBoundsException" "java/lang/Throwable" "stackTrace" "[Ljava/lang/StackTraceElement;") ∈ wA := wA_of_6 82 rfl rfl
set_option maxRecDepth 100000 in
theorem wd_1283 : (Jvm.Cond.lays "java/lang/IndexOutOfBoundsException" "java/lang/Throwable" "suppressedExceptions" "Ljava/util/List;") ∈ wA := wA_of_6 83 rfl rfl
set_option maxRecDepth 100000 in
theorem wd_1284 : (Jvm.Cond.lays "java/lang/IndexOutOfBoundsException" "java/lang/Throwable" "detailMessage" "Ljava/lang/String;") ∈ wA := wA_of_6 84 rfl rfl
set_option maxRecDepth 100000 in
theorem wd_1285 : (Jvm.Cond.lays "java/lang/IndexOutOfBoundsException" "java/lang/Throwable" "backtrace" "Ljava/lang/Object;") ∈ wA := wA_of_6 85 rfl rfl
set_option maxRecDepth 100000 in
theorem wd_1286 : (Jvm.Cond.methodLink "LateFalls" (383 : Nat) ({ cls := "java/lang/IndexOutOfBoundsException", name := "<init>", desc := "(Ljava/lang/String;)V" } : Jvm.MethodName)) ∈ wA := wA_of_6 86 rfl rfl
set_option maxRecDepth 100000 in
theorem wd_1287 : (Jvm.Cond.instanceMethod ({ cls := "java/lang/IndexOutOfBoundsException", name := "<init>", desc := "(Ljava/lang/String;)V" } : Jvm.MethodName)) ∈ wA := wA_of_6 87 rfl rfl
set_option maxRecDepth 100000 in
theorem wd_1288 : (Jvm.Cond.code ({ cls := "java/lang/IndexOutOfBoundsException", name := "<init>", desc := "(Ljava/lang/String;)V" } : Jvm.MethodName) prog_21_method_2_code (2 : Nat) (Option.none : Option Jvm.ClassFile.FieldType)) ∈ wA := wA_of_6 88 rfl rfl
set_option maxRecDepth 100000 in
theorem wd_1289 : (Jvm.Cond.methodLink "java/lang/IndexOutOfBoundsException" (7 : Nat) ({ cls := "java/lang/RuntimeException", name := "<init>", desc := "(Ljava/lang/String;)V" } : Jvm.MethodName)) ∈ wA := wA_of_6 89 rfl rfl
set_option maxRecDepth 100000 in
theorem wd_1290 : (Jvm.Cond.lays "java/lang/IndexOutOfBoundsException" "java/lang/Throwable" "depth" "I") ∈ wA := wA_of_6 90 rfl rfl
set_option maxRecDepth 100000 in
theorem wd_1292 : (Jvm.Cond.methodLink "LateFalls" (384 : Nat) ({ cls := "LateFalls$Tray", name := "put", desc := "(IJ)J" } : Jvm.MethodName)) ∈ wA := wA_of_6 92 rfl rfl
set_option maxRecDepth 100000 in
theorem wd_1293 : (Jvm.Cond.instanceMethod ({ cls := "LateFalls$Tray", name := "put", desc := "(IJ)J" } : Jvm.MethodName)) ∈ wA := wA_of_6 93 rfl rfl
set_option maxRecDepth 100000 in
theorem wd_1294 : (Jvm.Cond.selects "LateFalls$Tray" ({ cls := "LateFalls$Tray", name := "put", desc := "(IJ)J" } : Jvm.MethodName) ({ cls := "LateFalls$Tray", name := "put", desc := "(IJ)J" } : Jvm.MethodName)) ∈ wA := wA_of_6 94 rfl rfl
set_option maxRecDepth 100000 in
theorem wd_1295 : (Jvm.Cond.code ({ cls := "LateFalls$Tray", name := "put", desc := "(IJ)J" } : Jvm.MethodName) prog_10_method_3_code (4 : Nat) (Option.some Jvm.ClassFile.FieldType.long)) ∈ wA := wA_of_6 95 rfl rfl
set_option maxRecDepth 100000 in
theorem wd_1296 : (Jvm.Cond.methodLink "LateFalls$Tray" (22 : Nat) ({ cls := "LateFalls$Tray", name := "cut", desc := "(J)J" } : Jvm.MethodName)) ∈ wA := wA_of_6 96 rfl rfl
set_option maxRecDepth 100000 in
theorem wd_1298 : (Jvm.Cond.instanceMethod ({ cls := "LateFalls$Tray", name := "cut", desc := "(J)J" } : Jvm.MethodName)) ∈ wA := wA_of_6 98 rfl rfl
set_option maxRecDepth 100000 in
theorem wd_1299 : (Jvm.Cond.code ({ cls := "LateFalls$Tray", name := "cut", desc := "(J)J" } : Jvm.MethodName) prog_10_method_4_code (3 : Nat) (Option.some Jvm.ClassFile.FieldType.long)) ∈ wA := wA_of_6 99 rfl rfl
set_option maxRecDepth 100000 in
theorem wd_1300 : (Jvm.Cond.methodLink "LateFallsLaw" (296 : Nat) ({ cls := "LateFallsLaw", name := "copy", desc := "(LLateFalls;I[J)I" } : Jvm.MethodName)) ∈ wA := wA_of_6 100 rfl rfl
set_option maxRecDepth 100000 in
theorem wd_1301 : (Jvm.Cond.static ({ cls := "LateFallsLaw", name := "copy", desc := "(LLateFalls;I[J)I" } : Jvm.MethodName)) ∈ wA := wA_of_6 101 rfl rfl
set_option maxRecDepth 100000 in
theorem wd_1302 : (Jvm.Cond.codeWith ({ cls := "LateFallsLaw", name := "copy", desc := "(LLateFalls;I[J)I" } : Jvm.MethodName) method_38_code (4 : Nat) (Option.some Jvm.ClassFile.FieldType.int) [((0 : Nat), (9 : Nat), (12 : Nat), (19 : Nat)), ((0 : Nat), (9 : Nat), (15 : Nat), (43 : Nat))]) ∈ wA := wA_of_6 102 rfl rfl
set_option maxRecDepth 100000 in
theorem wd_1303 : (Jvm.Cond.methodLink "LateFallsLaw" (131 : Nat) ({ cls := "LateFalls", name := "copy", desc := "(I)I" } : Jvm.MethodName)) ∈ wA := wA_of_6 103 rfl rfl
set_option maxRecDepth 100000 in
theorem wd_1304 : (Jvm.Cond.instanceMethod ({ cls := "LateFalls", name := "copy", desc := "(I)I" } : Jvm.MethodName)) ∈ wA := wA_of_6 104 rfl rfl
set_option maxRecDepth 100000 in
theorem wd_1305 : (Jvm.Cond.selects "LateFalls" ({ cls := "LateFalls", name := "copy", desc := "(I)I" } : Jvm.MethodName) ({ cls := "LateFalls", name := "copy", desc := "(I)I" } : Jvm.MethodName)) ∈ wA := wA_of_6 105 rfl rfl
set_option maxRecDepth 100000 in
theorem wd_1306 : (Jvm.Cond.code ({ cls := "LateFalls", name := "copy", desc := "(I)I" } : Jvm.MethodName) prog_1_method_59_code (5 : Nat) (Option.some Jvm.ClassFile.FieldType.int)) ∈ wA := wA_of_6 106 rfl rfl
set_option maxRecDepth 100000 in
theorem wd_1307 : (Jvm.Cond.methodLink "LateFallsLaw" (299 : Nat) ({ cls := "LateFallsLaw", name := "image", desc := "(LLateFalls;I)I" } : Jvm.MethodName)) ∈ wA := wA_of_6 107 rfl rfl
set_option maxRecDepth 100000 in
theorem wd_1308 : (Jvm.Cond.static ({ cls := "LateFallsLaw", name := "image", desc := "(LLateFalls;I)I" } : Jvm.MethodName)) ∈ wA := wA_of_6 108 rfl rfl
set_option maxRecDepth 100000 in
theorem wd_1309 : (Jvm.Cond.codeWith ({ cls := "LateFallsLaw", name := "image", desc := "(LLateFalls;I)I" } : Jvm.MethodName) method_39_code (3 : Nat) (Option.some Jvm.ClassFile.FieldType.int) [((0 : Nat), (5 : Nat), (8 : Nat), (19 : Nat))]) ∈ wA := wA_of_6 109 rfl rfl
set_option maxRecDepth 100000 in
theorem wd_1310 : (Jvm.Cond.methodLink "LateFallsLaw" (134 : Nat) ({ cls := "LateFalls", name := "image", desc := "(I)V" } : Jvm.MethodName)) ∈ wA := wA_of_6 110 rfl rfl
set_option maxRecDepth 100000 in
theorem wd_1311 : (Jvm.Cond.instanceMethod ({ cls := "LateFalls", name := "image", desc := "(I)V" } : Jvm.MethodName)) ∈ wA := wA_of_6 111 rfl rfl
set_option maxRecDepth 100000 in
theorem wd_1312 : (Jvm.Cond.selects "LateFalls" ({ cls := "LateFalls", name := "image", desc := "(I)V" } : Jvm.MethodName) ({ cls := "LateFalls", name := "image", desc := "(I)V" } : Jvm.MethodName)) ∈ wA := wA_of_6 112 rfl rfl
set_option maxRecDepth 100000 in
theorem wd_1313 : (Jvm.Cond.code ({ cls := "LateFalls", name := "image", desc := "(I)V" } : Jvm.MethodName) prog_1_method_60_code (2 : Nat) (Option.none : Option Jvm.ClassFile.FieldType)) ∈ wA := wA_of_6 113 rfl rfl
set_option maxRecDepth 100000 in
theorem wd_1314 : (Jvm.Cond.methodLink "LateFalls" (388 : Nat) ({ cls := "LateFalls", name := "needImage", desc := "(I)V" } : Jvm.MethodName)) ∈ wA := wA_of_6 114 rfl rfl
set_option maxRecDepth 100000 in
theorem wd_1315 : (Jvm.Cond.static ({ cls := "LateFalls", name := "needImage", desc := "(I)V" } : Jvm.MethodName)) ∈ wA := wA_of_6 115 rfl rfl
set_option maxRecDepth 100000 in
theorem wd_1316 : (Jvm.Cond.code ({ cls := "LateFalls", name := "needImage", desc := "(I)V" } : Jvm.MethodName) prog_1_method_65_code (1 : Nat) (Option.none : Option Jvm.ClassFile.FieldType)) ∈ wA := wA_of_6 116 rfl rfl
set_option maxRecDepth 100000 in
theorem wd_1318 : (Jvm.Cond.instantiable "LateFalls$Image" (2 : Nat)) ∈ wA := wA_of_6 118 rfl rfl
set_option maxRecDepth 100000 in
theorem wd_1319 : (Jvm.Cond.methodLink "LateFalls" (391 : Nat) ({ cls := "LateFalls$Image", name := "<init>", desc := "(LLateFalls$District;)V" } : Jvm.MethodName)) ∈ wA := wA_of_6 119 rfl rfl
set_option maxRecDepth 100000 in
theorem wd_1320 : (Jvm.Cond.instanceMethod ({ cls := "LateFalls$Image", name := "<init>", desc := "(LLateFalls$District;)V" } : Jvm.MethodName)) ∈ wA := wA_of_6 120 rfl rfl
set_option maxRecDepth 100000 in
theorem wd_1321 : (Jvm.Cond.code ({ cls := "LateFalls$Image", name := "<init>", desc := "(LLateFalls$District;)V" } : Jvm.MethodName) prog_5_method_1_code (2 : Nat) (Option.none : Option Jvm.ClassFile.FieldType)) ∈ wA := wA_of_6 121 rfl rfl
set_option maxRecDepth 100000 in
theorem wd_1322 : (Jvm.Cond.methodLink "LateFalls$Image" (1 : Nat) ({ cls := "java/lang/Object", name := "<init>", desc := "()V" } : Jvm.MethodName)) ∈ wA := wA_of_6 122 rfl rfl
set_option maxRecDepth 100000 in
theorem wd_1323 : (Jvm.Cond.classLink "LateFalls$Image" (7 : Nat) "LateFalls$Scene") ∈ wA := wA_of_6 123 rfl rfl
set_option maxRecDepth 100000 in
theorem wd_1324 : (Jvm.Cond.methodLink "LateFalls$Image" (9 : Nat) ({ cls := "LateFalls$Scene", name := "<init>", desc := "(LLateFalls$District;)V" } : Jvm.MethodName)) ∈ wA := wA_of_6 124 rfl rfl
set_option maxRecDepth 100000 in
theorem wd_1325 : (Jvm.Cond.classLink "LateFalls$Image" (18 : Nat) "LateFalls$History") ∈ wA := wA_of_6 125 rfl rfl
set_option maxRecDepth 100000 in
theorem wd_1326 : (Jvm.Cond.methodLink "LateFalls$Image" (20 : Nat) ({ cls := "LateFalls$History", name := "<init>", desc := "(LLateFalls$District;)V" } : Jvm.MethodName)) ∈ wA := wA_of_6 126 rfl rfl
set_option maxRecDepth 100000 in
theorem wd_1327 : (Jvm.Cond.fieldLink "LateFalls$Image" (12 : Nat) "LateFalls$Image" "scene" "LLateFalls$Scene;") ∈ wA := wA_of_6 127 rfl rfl
set_option maxRecDepth 100000 in
theorem wd_1328 : (Jvm.Cond.fieldLink "LateFalls" (392 : Nat) "LateFalls$Image" "scene" "LLateFalls$Scene;") ∈ wA := wA_of_6 128 rfl rfl
set_option maxRecDepth 100000 in
theorem wd_1329 : (Jvm.Cond.fieldLink "LateFalls$Image" (21 : Nat) "LateFalls$Image" "history" "LLateFalls$History;") ∈ wA := wA_of_6 129 rfl rfl
set_option maxRecDepth 100000 in
theorem wd_1330 : (Jvm.Cond.fieldLink "LateFalls" (393 : Nat) "LateFalls$Image" "history" "LLateFalls$History;") ∈ wA := wA_of_6 130 rfl rfl
set_option maxRecDepth 100000 in
theorem wd_1331 : (Jvm.Cond.laysFinal "LateFalls$Image" "LateFalls$Image" "scene" "LLateFalls$Scene;") ∈ wA := wA_of_6 131 rfl rfl
set_option maxRecDepth 100000 in
theorem wd_1333 : (Jvm.Cond.laysFinal "LateFalls$Image" "LateFalls$Image" "history" "LLateFalls$History;") ∈ wA := wA_of_6 133 rfl rfl
set_option maxRecDepth 100000 in
theorem wd_1336 : (Jvm.Cond.methodLink "LateFalls" (394 : Nat) ({ cls := "LateFalls$History", name := "copyFrom", desc := "(LLateFalls$History;)V" } : Jvm.MethodName)) ∈ wA := wA_of_6 136 rfl rfl
set_option maxRecDepth 100000 in
theorem wd_1337 : (Jvm.Cond.instanceMethod ({ cls := "LateFalls$History", name := "copyFrom", desc := "(LLateFalls$History;)V" } : Jvm.MethodName)) ∈ wA := wA_of_6 137 rfl rfl
set_option maxRecDepth 100000 in
theorem wd_1338 : (Jvm.Cond.selects "LateFalls$History" ({ cls := "LateFalls$History", name := "copyFrom", desc := "(LLateFalls$History;)V" } : Jvm.MethodName) ({ cls := "LateFalls$History", name := "copyFrom", desc := "(LLateFalls$History;)V" } : Jvm.MethodName)) ∈ wA := wA_of_6 138 rfl rfl
set_option maxRecDepth 100000 in
theorem wd_1339 : (Jvm.Cond.code ({ cls := "LateFalls$History", name := "copyFrom", desc := "(LLateFalls$History;)V" } : Jvm.MethodName) prog_4_method_5_code (3 : Nat) (Option.none : Option Jvm.ClassFile.FieldType)) ∈ wA := wA_of_6 139 rfl rfl
set_option maxRecDepth 100000 in
theorem wd_1340 : (Jvm.Cond.methodLink "LateFallsLaw" (303 : Nat) ({ cls := "LateFallsLaw", name := "restore", desc := "(LLateFalls;I)I" } : Jvm.MethodName)) ∈ wA := wA_of_6 140 rfl rfl
set_option maxRecDepth 100000 in
theorem wd_1341 : (Jvm.Cond.static ({ cls := "LateFallsLaw", name := "restore", desc := "(LLateFalls;I)I" } : Jvm.MethodName)) ∈ wA := wA_of_6 141 rfl rfl
set_option maxRecDepth 100000 in
theorem wd_1342 : (Jvm.Cond.codeWith ({ cls := "LateFallsLaw", name := "restore", desc := "(LLateFalls;I)I" } : Jvm.MethodName) method_40_code (3 : Nat) (Option.some Jvm.ClassFile.FieldType.int) [((0 : Nat), (5 : Nat), (8 : Nat), (19 : Nat)), ((0 : Nat), (5 : Nat), (11 : Nat), (43 : Nat))]) ∈ wA := wA_of_6 142 rfl rfl
set_option maxRecDepth 100000 in
theorem wd_1343 : (Jvm.Cond.methodLink "LateFallsLaw" (138 : Nat) ({ cls := "LateFalls", name := "restore", desc := "(I)V" } : Jvm.MethodName)) ∈ wA := wA_of_6 143 rfl rfl
set_option maxRecDepth 100000 in
theorem wd_1344 : (Jvm.Cond.instanceMethod ({ cls := "LateFalls", name := "restore", desc := "(I)V" } : Jvm.MethodName)) ∈ wA := wA_of_6 144 rfl rfl
set_option maxRecDepth 100000 in
theorem wd_1345 : (Jvm.Cond.selects "LateFalls" ({ cls := "LateFalls", name := "restore", desc := "(I)V" } : Jvm.MethodName) ({ cls := "LateFalls", name := "restore", desc := "(I)V" } : Jvm.MethodName)) ∈ wA := wA_of_6 145 rfl rfl
set_option maxRecDepth 100000 in
theorem wd_1346 : (Jvm.Cond.code ({ cls := "LateFalls", name := "restore", desc := "(I)V" } : Jvm.MethodName) prog_1_method_61_code (3 : Nat) (Option.none : Option Jvm.ClassFile.FieldType)) ∈ wA := wA_of_6 146 rfl rfl
set_option maxRecDepth 100000 in
theorem wd_1348 : (Jvm.Cond.classLink "LateFallsLaw" (142 : Nat) "LateFallsModel") ∈ wA := wA_of_6 148 rfl rfl
set_option maxRecDepth 100000 in
theorem wd_1349 : (Jvm.Cond.instantiable "LateFallsModel" (39 : Nat)) ∈ wA := wA_of_6 149 rfl rfl
set_option maxRecDepth 100000 in
theorem wd_1350 : (Jvm.Cond.methodLink "LateFallsLaw" (144 : Nat) ({ cls := "LateFallsModel", name := "<init>", desc := "()V" } : Jvm.MethodName)) ∈ wA := wA_of_6 150 rfl rfl
set_option maxRecDepth 100000 in
theorem wd_1351 : (Jvm.Cond.instanceMethod ({ cls := "LateFallsModel", name := "<init>", desc := "()V" } : Jvm.MethodName)) ∈ wA := wA_of_6 151 rfl rfl
set_option maxRecDepth 100000 in
theorem wd_1352 : (Jvm.Cond.code ({ cls := "LateFallsModel", name := "<init>", desc := "()V" } : Jvm.MethodName) prog_13_method_1_code (1 : Nat) (Option.none : Option Jvm.ClassFile.FieldType)) ∈ wA := wA_of_6 152 rfl rfl
set_option maxRecDepth 100000 in
theorem wd_1353 : (Jvm.Cond.methodLink "LateFallsModel" (1 : Nat) ({ cls := "java/lang/Object", name := "<init>", desc := "()V" } : Jvm.MethodName)) ∈ wA := wA_of_6 153 rfl rfl
set_option maxRecDepth 100000 in
theorem wd_1354 : (Jvm.Cond.fieldLink "LateFallsModel" (9 : Nat) "LateFallsModel" "known" "[I") ∈ wA := wA_of_6 154 rfl rfl
set_option maxRecDepth 100000 in
theorem wd_1355 : (Jvm.Cond.fieldLink "LateFallsModel" (13 : Nat) "LateFallsModel" "telling" "[I") ∈ wA := wA_of_6 155 rfl rfl
set_option maxRecDepth 100000 in
theorem wd_1356 : (Jvm.Cond.fieldLink "LateFallsModel" (16 : Nat) "LateFallsModel" "images" "[I") ∈ wA := wA_of_6 156 rfl rfl
set_option maxRecDepth 100000 in
theorem wd_1357 : (Jvm.Cond.fieldLink "LateFallsModel" (19 : Nat) "LateFallsModel" "isImage" "[Z") ∈ wA := wA_of_6 157 rfl rfl
set_option maxRecDepth 100000 in
theorem wd_1358 : (Jvm.Cond.fieldLink "LateFallsModel" (70 : Nat) "LateFallsModel" "thrown" "I") ∈ wA := wA_of_6 158 rfl rfl
set_option maxRecDepth 100000 in
theorem wd_1359 : (Jvm.Cond.fieldLink "LateFallsModel" (23 : Nat) "LateFallsModel" "tape" "[I") ∈ wA := wA_of_6 159 rfl rfl
set_option maxRecDepth 100000 in
theorem wd_1360 : (Jvm.Cond.fieldLink "LateFallsModel" (73 : Nat) "LateFallsModel" "taped" "I") ∈ wA := wA_of_6 160 rfl rfl
set_option maxRecDepth 100000 in
theorem wd_1361 : (Jvm.Cond.fieldLink "LateFallsModel" (76 : Nat) "LateFallsModel" "length" "I") ∈ wA := wA_of_6 161 rfl rfl
set_option maxRecDepth 100000 in
theorem wd_1362 : (Jvm.Cond.fieldLink "LateFallsModel" (79 : Nat) "LateFallsModel" "head" "I") ∈ wA := wA_of_6 162 rfl rfl
set_option maxRecDepth 100000 in
theorem wd_1363 : (Jvm.Cond.fieldLink "LateFallsModel" (82 : Nat) "LateFallsModel" "begin" "I") ∈ wA := wA_of_6 163 rfl rfl
set_option maxRecDepth 100000 in
theorem wd_1364 : (Jvm.Cond.fieldLink "LateFallsModel" (85 : Nat) "LateFallsModel" "token" "I") ∈ wA := wA_of_6 164 rfl rfl
set_option maxRecDepth 100000 in
theorem wd_1365 : (Jvm.Cond.fieldLink "LateFallsModel" (99 : Nat) "LateFallsModel" "value" "I") ∈ wA := wA_of_6 165 rfl rfl
set_option maxRecDepth 100000 in
theorem wd_1366 : (Jvm.Cond.fieldLink "LateFallsModel" (105 : Nat) "LateFallsModel" "bad" "I") ∈ wA := wA_of_6 166 rfl rfl
set_option maxRecDepth 100000 in
theorem wd_1367 : (Jvm.Cond.fieldLink "LateFallsModel" (108 : Nat) "LateFallsModel" "badPlace" "I") ∈ wA := wA_of_6 167 rfl rfl
set_option maxRecDepth 100000 in
theorem wd_1368 : (Jvm.Cond.fieldLink "LateFallsModel" (277 : Nat) "LateFallsModel" "faultKind" "I") ∈ wA := wA_of_6 168 rfl rfl
set_option maxRecDepth 100000 in
theorem wd_1369 : (Jvm.Cond.fieldLink "LateFallsModel" (26 : Nat) "LateFallsModel" "faultPlace" "I") ∈ wA := wA_of_6 169 rfl rfl
set_option maxRecDepth 100000 in
theorem wd_1370 : (Jvm.Cond.fieldLink "LateFallsModel" (144 : Nat) "LateFallsModel" "deep" "I") ∈ wA := wA_of_6 170 rfl rfl
set_option maxRecDepth 100000 in
theorem wd_1371 : (Jvm.Cond.fieldLink "LateFallsModel" (141 : Nat) "LateFallsModel" "lawMany" "I") ∈ wA := wA_of_6 171 rfl rfl
set_option maxRecDepth 100000 in
theorem wd_1372 : (Jvm.Cond.fieldLink "LateFallsModel" (138 : Nat) "LateFallsModel" "lawAt" "I") ∈ wA := wA_of_6 172 rfl rfl
set_option maxRecDepth 100000 in
theorem wd_1373 : (Jvm.Cond.fieldLink "LateFallsModel" (30 : Nat) "LateFallsModel" "stack" "[I") ∈ wA := wA_of_6 173 rfl rfl
set_option maxRecDepth 100000 in
theorem wd_1374 : (Jvm.Cond.fieldLink "LateFallsModel" (33 : Nat) "LateFallsModel" "asked" "[I") ∈ wA := wA_of_6 174 rfl rfl
set_option maxRecDepth 100000 in
theorem wd_1375 : (Jvm.Cond.fieldLink "LateFallsModel" (339 : Nat) "LateFallsModel" "fell" "I") ∈ wA := wA_of_6 175 rfl rfl
set_option maxRecDepth 100000 in
theorem wd_1376 : (Jvm.Cond.fieldLink "LateFallsModel" (342 : Nat) "LateFallsModel" "fellIn" "I") ∈ wA := wA_of_6 176 rfl rfl
set_option maxRecDepth 100000 in
theorem wd_1377 : (Jvm.Cond.fieldLink "LateFallsModel" (36 : Nat) "LateFallsModel" "aside" "[I") ∈ wA := wA_of_6 177 rfl rfl
set_option maxRecDepth 100000 in
theorem wd_1378 : (Jvm.Cond.fieldLink "LateFallsModel" (444 : Nat) "LateFallsModel" "state" "I") ∈ wA := wA_of_6 178 rfl rfl
set_option maxRecDepth 100000 in
theorem wd_1379 : (Jvm.Cond.fieldLink "LateFallsModel" (458 : Nat) "LateFallsModel" "landed" "I") ∈ wA := wA_of_6 179 rfl rfl
set_option maxRecDepth 100000 in
theorem wd_1380 : (Jvm.Cond.fieldLink "LateFallsModel" (468 : Nat) "LateFallsModel" "waitFalls" "I") ∈ wA := wA_of_6 180 rfl rfl
set_option maxRecDepth 100000 in
theorem wd_1381 : (Jvm.Cond.fieldLink "LateFallsModel" (471 : Nat) "LateFallsModel" "waitWeight" "I") ∈ wA := wA_of_6 181 rfl rfl
set_option maxRecDepth 100000 in
theorem wd_1382 : (Jvm.Cond.fieldLink "LateFallsModel" (39 : Nat) "LateFallsModel" "fallsAfter" "[I") ∈ wA := wA_of_6 182 rfl rfl
set_option maxRecDepth 100000 in
theorem wd_1383 : (Jvm.Cond.fieldLink "LateFallsModel" (42 : Nat) "LateFallsModel" "falling" "[I") ∈ wA := wA_of_6 183 rfl rfl
set_option maxRecDepth 100000 in
theorem wd_1384 : (Jvm.Cond.fieldLink "LateFallsModel" (45 : Nat) "LateFallsModel" "comes" "[I") ∈ wA := wA_of_6 184 rfl rfl
set_option maxRecDepth 100000 in
theorem wd_1385 : (Jvm.Cond.fieldLink "LateFallsModel" (48 : Nat) "LateFallsModel" "goesOn" "[I") ∈ wA := wA_of_6 185 rfl rfl
set_option maxRecDepth 100000 in
theorem wd_1386 : (Jvm.Cond.fieldLink "LateFallsModel" (51 : Nat) "LateFallsModel" "wayRow" "[I") ∈ wA := wA_of_6 186 rfl rfl
set_option maxRecDepth 100000 in
theorem wd_1387 : (Jvm.Cond.fieldLink "LateFallsModel" (54 : Nat) "LateFallsModel" "many" "[J") ∈ wA := wA_of_6 187 rfl rfl
set_option maxRecDepth 100000 in
theorem wd_1388 : (Jvm.Cond.fieldLink "LateFallsModel" (58 : Nat) "LateFallsModel" "manyThen" "[J") ∈ wA := wA_of_6 188 rfl rfl
set_option maxRecDepth 100000 in
theorem wd_1389 : (Jvm.Cond.fieldLink "LateFallsModel" (514 : Nat) "LateFallsModel" "toldLet" "I") ∈ wA := wA_of_6 189 rfl rfl
set_option maxRecDepth 100000 in
theorem wd_1390 : (Jvm.Cond.fieldLink "LateFallsModel" (61 : Nat) "LateFallsModel" "tSort" "[I") ∈ wA := wA_of_6 190 rfl rfl
set_option maxRecDepth 100000 in
theorem wd_1391 : (Jvm.Cond.fieldLink "LateFallsModel" (64 : Nat) "LateFallsModel" "tMany" "[I") ∈ wA := wA_of_6 191 rfl rfl
set_option maxRecDepth 100000 in
theorem wd_1392 : (Jvm.Cond.fieldLink "LateFallsModel" (67 : Nat) "LateFallsModel" "numbers" "[J") ∈ wA := wA_of_6 192 rfl rfl
set_option maxRecDepth 100000 in
theorem wd_1393 : (Jvm.Cond.laysFinal "LateFallsModel" "LateFallsModel" "known" "[I") ∈ wA := wA_of_6 193 rfl rfl
set_option maxRecDepth 100000 in
theorem wd_1395 : (Jvm.Cond.laysFinal "LateFallsModel" "LateFallsModel" "telling" "[I") ∈ wA := wA_of_6 195 rfl rfl
set_option maxRecDepth 100000 in
theorem wd_1397 : (Jvm.Cond.laysFinal "LateFallsModel" "LateFallsModel" "images" "[I") ∈ wA := wA_of_6 197 rfl rfl
set_option maxRecDepth 100000 in
theorem wd_1399 : (Jvm.Cond.laysFinal "LateFallsModel" "LateFallsModel" "isImage" "[Z") ∈ wA := wA_of_6 199 rfl rfl
set_option maxRecDepth 100000 in
theorem wd_1401 : (Jvm.Cond.lays "LateFallsModel" "LateFallsModel" "thrown" "I") ∈ wA := wA_of_6 201 rfl rfl
set_option maxRecDepth 100000 in
theorem wd_1403 : (Jvm.Cond.laysFinal "LateFallsModel" "LateFallsModel" "tape" "[I") ∈ wA := wA_of_6 203 rfl rfl
set_option maxRecDepth 100000 in
theorem wd_1405 : (Jvm.Cond.lays "LateFallsModel" "LateFallsModel" "taped" "I") ∈ wA := wA_of_6 205 rfl rfl
set_option maxRecDepth 100000 in
theorem wd_1407 : (Jvm.Cond.lays "LateFallsModel" "LateFallsModel" "length" "I") ∈ wA := wA_of_6 207 rfl rfl
set_option maxRecDepth 100000 in
theorem wd_1409 : (Jvm.Cond.lays "LateFallsModel" "LateFallsModel" "head" "I") ∈ wA := wA_of_6 209 rfl rfl
set_option maxRecDepth 100000 in
theorem wd_1411 : (Jvm.Cond.lays "LateFallsModel" "LateFallsModel" "begin" "I") ∈ wA := wA_of_6 211 rfl rfl
set_option maxRecDepth 100000 in
theorem wd_1413 : (Jvm.Cond.lays "LateFallsModel" "LateFallsModel" "token" "I") ∈ wA := wA_of_6 213 rfl rfl
set_option maxRecDepth 100000 in
theorem wd_1415 : (Jvm.Cond.lays "LateFallsModel" "LateFallsModel" "value" "I") ∈ wA := wA_of_6 215 rfl rfl
set_option maxRecDepth 100000 in
theorem wd_1417 : (Jvm.Cond.lays "LateFallsModel" "LateFallsModel" "bad" "I") ∈ wA := wA_of_6 217 rfl rfl
set_option maxRecDepth 100000 in
theorem wd_1419 : (Jvm.Cond.lays "LateFallsModel" "LateFallsModel" "badPlace" "I") ∈ wA := wA_of_6 219 rfl rfl
set_option maxRecDepth 100000 in
theorem wd_1421 : (Jvm.Cond.lays "LateFallsModel" "LateFallsModel" "faultKind" "I") ∈ wA := wA_of_6 221 rfl rfl
set_option maxRecDepth 100000 in
theorem wd_1423 : (Jvm.Cond.lays "LateFallsModel" "LateFallsModel" "faultPlace" "I") ∈ wA := wA_of_6 223 rfl rfl
set_option maxRecDepth 100000 in
theorem wd_1425 : (Jvm.Cond.lays "LateFallsModel" "LateFallsModel" "deep" "I") ∈ wA := wA_of_6 225 rfl rfl
set_option maxRecDepth 100000 in
theorem wd_1427 : (Jvm.Cond.lays "LateFallsModel" "LateFallsModel" "lawMany" "I") ∈ wA := wA_of_6 227 rfl rfl
set_option maxRecDepth 100000 in
theorem wd_1429 : (Jvm.Cond.lays "LateFallsModel" "LateFallsModel" "lawAt" "I") ∈ wA := wA_of_6 229 rfl rfl
set_option maxRecDepth 100000 in
theorem wd_1431 : (Jvm.Cond.laysFinal "LateFallsModel" "LateFallsModel" "stack" "[I") ∈ wA := wA_of_6 231 rfl rfl
set_option maxRecDepth 100000 in
theorem wd_1433 : (Jvm.Cond.laysFinal "LateFallsModel" "LateFallsModel" "asked" "[I") ∈ wA := wA_of_6 233 rfl rfl
set_option maxRecDepth 100000 in
theorem wd_1435 : (Jvm.Cond.lays "LateFallsModel" "LateFallsModel" "fell" "I") ∈ wA := wA_of_6 235 rfl rfl
set_option maxRecDepth 100000 in
theorem wd_1437 : (Jvm.Cond.lays "LateFallsModel" "LateFallsModel" "fellIn" "I") ∈ wA := wA_of_6 237 rfl rfl
set_option maxRecDepth 100000 in
theorem wd_1439 : (Jvm.Cond.laysFinal "LateFallsModel" "LateFallsModel" "aside" "[I") ∈ wA := wA_of_6 239 rfl rfl
set_option maxRecDepth 100000 in
theorem wd_1441 : (Jvm.Cond.lays "LateFallsModel" "LateFallsModel" "state" "I") ∈ wA := wA_of_7 1 rfl rfl
set_option maxRecDepth 100000 in
theorem wd_1443 : (Jvm.Cond.lays "LateFallsModel" "LateFallsModel" "landed" "I") ∈ wA := wA_of_7 3 rfl rfl
set_option maxRecDepth 100000 in
theorem wd_1445 : (Jvm.Cond.lays "LateFallsModel" "LateFallsModel" "waitFalls" "I") ∈ wA := wA_of_7 5 rfl rfl
set_option maxRecDepth 100000 in
theorem wd_1447 : (Jvm.Cond.lays "LateFallsModel" "LateFallsModel" "waitWeight" "I") ∈ wA := wA_of_7 7 rfl rfl
set_option maxRecDepth 100000 in
theorem wd_1449 : (Jvm.Cond.laysFinal "LateFallsModel" "LateFallsModel" "fallsAfter" "[I") ∈ wA := wA_of_7 9 rfl rfl
set_option maxRecDepth 100000 in
theorem wd_1451 : (Jvm.Cond.laysFinal "LateFallsModel" "LateFallsModel" "falling" "[I") ∈ wA := wA_of_7 11 rfl rfl
set_option maxRecDepth 100000 in
theorem wd_1453 : (Jvm.Cond.laysFinal "LateFallsModel" "LateFallsModel" "comes" "[I") ∈ wA := wA_of_7 13 rfl rfl
set_option maxRecDepth 100000 in
theorem wd_1455 : (Jvm.Cond.laysFinal "LateFallsModel" "LateFallsModel" "goesOn" "[I") ∈ wA := wA_of_7 15 rfl rfl
set_option maxRecDepth 100000 in
theorem wd_1457 : (Jvm.Cond.laysFinal "LateFallsModel" "LateFallsModel" "wayRow" "[I") ∈ wA := wA_of_7 17 rfl rfl
set_option maxRecDepth 100000 in
theorem wd_1459 : (Jvm.Cond.laysFinal "LateFallsModel" "LateFallsModel" "many" "[J") ∈ wA := wA_of_7 19 rfl rfl
set_option maxRecDepth 100000 in
theorem wd_1461 : (Jvm.Cond.laysFinal "LateFallsModel" "LateFallsModel" "manyThen" "[J") ∈ wA := wA_of_7 21 rfl rfl
set_option maxRecDepth 100000 in
theorem wd_1463 : (Jvm.Cond.lays "LateFallsModel" "LateFallsModel" "toldLet" "I") ∈ wA := wA_of_7 23 rfl rfl
set_option maxRecDepth 100000 in
theorem wd_1465 : (Jvm.Cond.laysFinal "LateFallsModel" "LateFallsModel" "tSort" "[I") ∈ wA := wA_of_7 25 rfl rfl
set_option maxRecDepth 100000 in
theorem wd_1467 : (Jvm.Cond.laysFinal "LateFallsModel" "LateFallsModel" "tMany" "[I") ∈ wA := wA_of_7 27 rfl rfl
set_option maxRecDepth 100000 in
theorem wd_1469 : (Jvm.Cond.laysFinal "LateFallsModel" "LateFallsModel" "numbers" "[J") ∈ wA := wA_of_7 29 rfl rfl
set_option maxRecDepth 100000 in
theorem wd_1472 : (Jvm.Cond.arrayClass Jvm.ClassFile.FieldType.boolean) ∈ wA := wA_of_7 32 rfl rfl
set_option maxRecDepth 100000 in
theorem wd_1473 : (Jvm.Cond.methodLink "LateFallsLaw" (149 : Nat) ({ cls := "LateFallsModel", name := "feed", desc := "(IIIII)I" } : Jvm.MethodName)) ∈ wA := wA_of_7 33 rfl rfl
set_option maxRecDepth 100000 in
theorem wd_1474 : (Jvm.Cond.instanceMethod ({ cls := "LateFallsModel", name := "feed", desc := "(IIIII)I" } : Jvm.MethodName)) ∈ wA := wA_of_7 34 rfl rfl
set_option maxRecDepth 100000 in
theorem wd_1475 : (Jvm.Cond.selects "LateFallsModel" ({ cls := "LateFallsModel", name := "feed", desc := "(IIIII)I" } : Jvm.MethodName) ({ cls := "LateFallsModel", name := "feed", desc := "(IIIII)I" } : Jvm.MethodName)) ∈ wA := wA_of_7 35 rfl rfl
set_option maxRecDepth 100000 in
theorem wd_1476 : (Jvm.Cond.code ({ cls := "LateFallsModel", name := "feed", desc := "(IIIII)I" } : Jvm.MethodName) prog_13_method_7_code (8 : Nat) (Option.some Jvm.ClassFile.FieldType.int)) ∈ wA := wA_of_7 36 rfl rfl
set_option maxRecDepth 100000 in
theorem wd_1477 : (Jvm.Cond.methodLink "LateFallsLaw" (155 : Nat) ({ cls := "LateFallsModel", name := "district", desc := "(I)I" } : Jvm.MethodName)) ∈ wA := wA_of_7 37 rfl rfl
set_option maxRecDepth 100000 in
theorem wd_1478 : (Jvm.Cond.instanceMethod ({ cls := "LateFallsModel", name := "district", desc := "(I)I" } : Jvm.MethodName)) ∈ wA := wA_of_7 38 rfl rfl
set_option maxRecDepth 100000 in
theorem wd_1479 : (Jvm.Cond.selects "LateFallsModel" ({ cls := "LateFallsModel", name := "district", desc := "(I)I" } : Jvm.MethodName) ({ cls := "LateFallsModel", name := "district", desc := "(I)I" } : Jvm.MethodName)) ∈ wA := wA_of_7 39 rfl rfl
set_option maxRecDepth 100000 in
theorem wd_1480 : (Jvm.Cond.code ({ cls := "LateFallsModel", name := "district", desc := "(I)I" } : Jvm.MethodName) prog_13_method_40_code (3 : Nat) (Option.some Jvm.ClassFile.FieldType.int)) ∈ wA := wA_of_7 40 rfl rfl
set_option maxRecDepth 100000 in
theorem wd_1481 : (Jvm.Cond.methodLink "LateFallsModel" (131 : Nat) ({ cls := "LateFallsModel", name := "within", desc := "(JJJ)Z" } : Jvm.MethodName)) ∈ wA := wA_of_7 41 rfl rfl
set_option maxRecDepth 100000 in
theorem wd_1482 : (Jvm.Cond.static ({ cls := "LateFallsModel", name := "within", desc := "(JJJ)Z" } : Jvm.MethodName)) ∈ wA := wA_of_7 42 rfl rfl
set_option maxRecDepth 100000 in
theorem wd_1483 : (Jvm.Cond.code ({ cls := "LateFallsModel", name := "within", desc := "(JJJ)Z" } : Jvm.MethodName) prog_13_method_4_code (6 : Nat) (Option.some Jvm.ClassFile.FieldType.boolean)) ∈ wA := wA_of_7 43 rfl rfl
set_option maxRecDepth 100000 in
theorem wd_1484 : (Jvm.Cond.methodLink "LateFallsModel" (269 : Nat) ({ cls := "LateFallsModel", name := "fails", desc := "(I)I" } : Jvm.MethodName)) ∈ wA := wA_of_7 44 rfl rfl
set_option maxRecDepth 100000 in
theorem wd_1486 : (Jvm.Cond.instanceMethod ({ cls := "LateFallsModel", name := "fails", desc := "(I)I" } : Jvm.MethodName)) ∈ wA := wA_of_7 46 rfl rfl
set_option maxRecDepth 100000 in
theorem wd_1487 : (Jvm.Cond.code ({ cls := "LateFallsModel", name := "fails", desc := "(I)I" } : Jvm.MethodName) prog_13_method_3_code (2 : Nat) (Option.some Jvm.ClassFile.FieldType.int)) ∈ wA := wA_of_7 47 rfl rfl
set_option maxRecDepth 100000 in
theorem wd_1488 : (Jvm.Cond.methodLink "LateFallsModel" (124 : Nat) ({ cls := "LateFallsModel", name := "readsOn", desc := "()V" } : Jvm.MethodName)) ∈ wA := wA_of_7 48 rfl rfl
set_option maxRecDepth 100000 in
theorem wd_1490 : (Jvm.Cond.instanceMethod ({ cls := "LateFallsModel", name := "readsOn", desc := "()V" } : Jvm.MethodName)) ∈ wA := wA_of_7 50 rfl rfl
set_option maxRecDepth 100000 in
theorem wd_1491 : (Jvm.Cond.code ({ cls := "LateFallsModel", name := "readsOn", desc := "()V" } : Jvm.MethodName) prog_13_method_12_code (2 : Nat) (Option.none : Option Jvm.ClassFile.FieldType)) ∈ wA := wA_of_7 51 rfl rfl
set_option maxRecDepth 100000 in
theorem wd_1492 : (Jvm.Cond.methodLink "LateFallsModel" (88 : Nat) ({ cls := "LateFallsModel", name := "isLetter", desc := "(I)Z" } : Jvm.MethodName)) ∈ wA := wA_of_7 52 rfl rfl
set_option maxRecDepth 100000 in
theorem wd_1493 : (Jvm.Cond.static ({ cls := "LateFallsModel", name := "isLetter", desc := "(I)Z" } : Jvm.MethodName)) ∈ wA := wA_of_7 53 rfl rfl
set_option maxRecDepth 100000 in
theorem wd_1494 : (Jvm.Cond.code ({ cls := "LateFallsModel", name := "isLetter", desc := "(I)Z" } : Jvm.MethodName) prog_13_method_9_code (1 : Nat) (Option.some Jvm.ClassFile.FieldType.boolean)) ∈ wA := wA_of_7 54 rfl rfl
set_option maxRecDepth 100000 in
theorem wd_1495 : (Jvm.Cond.methodLink "LateFallsModel" (92 : Nat) ({ cls := "LateFallsModel", name := "see", desc := "(I)I" } : Jvm.MethodName)) ∈ wA := wA_of_7 55 rfl rfl
set_option maxRecDepth 100000 in
theorem wd_1497 : (Jvm.Cond.instanceMethod ({ cls := "LateFallsModel", name := "see", desc := "(I)I" } : Jvm.MethodName)) ∈ wA := wA_of_7 57 rfl rfl
set_option maxRecDepth 100000 in
theorem wd_1498 : (Jvm.Cond.code ({ cls := "LateFallsModel", name := "see", desc := "(I)I" } : Jvm.MethodName) prog_13_method_8_code (2 : Nat) (Option.some Jvm.ClassFile.FieldType.int)) ∈ wA := wA_of_7 58 rfl rfl
set_option maxRecDepth 100000 in
theorem wd_1499 : (Jvm.Cond.methodLink "LateFallsModel" (96 : Nat) ({ cls := "LateFallsModel", name := "isDigit", desc := "(I)Z" } : Jvm.MethodName)) ∈ wA := wA_of_7 59 rfl rfl
set_option maxRecDepth 100000 in
theorem wd_1500 : (Jvm.Cond.static ({ cls := "LateFallsModel", name := "isDigit", desc := "(I)Z" } : Jvm.MethodName)) ∈ wA := wA_of_7 60 rfl rfl
set_option maxRecDepth 100000 in
theorem wd_1501 : (Jvm.Cond.code ({ cls := "LateFallsModel", name := "isDigit", desc := "(I)Z" } : Jvm.MethodName) prog_13_method_10_code (1 : Nat) (Option.some Jvm.ClassFile.FieldType.boolean)) ∈ wA := wA_of_7 61 rfl rfl
set_option maxRecDepth 100000 in
theorem wd_1502 : (Jvm.Cond.methodLink "LateFallsModel" (102 : Nat) ({ cls := "LateFallsModel", name := "isSignByte", desc := "(I)Z" } : Jvm.MethodName)) ∈ wA := wA_of_7 62 rfl rfl
set_option maxRecDepth 100000 in
theorem wd_1503 : (Jvm.Cond.static ({ cls := "LateFallsModel", name := "isSignByte", desc := "(I)Z" } : Jvm.MethodName)) ∈ wA := wA_of_7 63 rfl rfl
set_option maxRecDepth 100000 in
theorem wd_1504 : (Jvm.Cond.code ({ cls := "LateFallsModel", name := "isSignByte", desc := "(I)Z" } : Jvm.MethodName) prog_13_method_11_code (2 : Nat) (Option.some Jvm.ClassFile.FieldType.boolean)) ∈ wA := wA_of_7 64 rfl rfl
set_option maxRecDepth 100000 in
theorem wd_1506 : (Jvm.Cond.methodLink "LateFallsModel" (222 : Nat) ({ cls := "LateFallsModel", name := "mustWord", desc := "(Ljava/lang/String;)V" } : Jvm.MethodName)) ∈ wA := wA_of_7 66 rfl rfl
set_option maxRecDepth 100000 in
theorem wd_1508 : (Jvm.Cond.instanceMethod ({ cls := "LateFallsModel", name := "mustWord", desc := "(Ljava/lang/String;)V" } : Jvm.MethodName)) ∈ wA := wA_of_7 68 rfl rfl
set_option maxRecDepth 100000 in
theorem wd_1509 : (Jvm.Cond.code ({ cls := "LateFallsModel", name := "mustWord", desc := "(Ljava/lang/String;)V" } : Jvm.MethodName) prog_13_method_19_code (2 : Nat) (Option.none : Option Jvm.ClassFile.FieldType)) ∈ wA := wA_of_7 69 rfl rfl
set_option maxRecDepth 100000 in
theorem wd_1510 : (Jvm.Cond.methodLink "LateFallsModel" (135 : Nat) ({ cls := "LateFallsModel", name := "took", desc := "(Ljava/lang/String;)Z" } : Jvm.MethodName)) ∈ wA := wA_of_7 70 rfl rfl
set_option maxRecDepth 100000 in
theorem wd_1512 : (Jvm.Cond.instanceMethod ({ cls := "LateFallsModel", name := "took", desc := "(Ljava/lang/String;)Z" } : Jvm.MethodName)) ∈ wA := wA_of_7 72 rfl rfl
set_option maxRecDepth 100000 in
theorem wd_1513 : (Jvm.Cond.code ({ cls := "LateFallsModel", name := "took", desc := "(Ljava/lang/String;)Z" } : Jvm.MethodName) prog_13_method_15_code (3 : Nat) (Option.some Jvm.ClassFile.FieldType.boolean)) ∈ wA := wA_of_7 73 rfl rfl
set_option maxRecDepth 100000 in
theorem wd_1514 : (Jvm.Cond.methodLink "LateFallsModel" (120 : Nat) ({ cls := "LateFallsModel", name := "isWord", desc := "(Ljava/lang/String;)Z" } : Jvm.MethodName)) ∈ wA := wA_of_7 74 rfl rfl
set_option maxRecDepth 100000 in
theorem wd_1516 : (Jvm.Cond.instanceMethod ({ cls := "LateFallsModel", name := "isWord", desc := "(Ljava/lang/String;)Z" } : Jvm.MethodName)) ∈ wA := wA_of_7 76 rfl rfl
set_option maxRecDepth 100000 in
theorem wd_1517 : (Jvm.Cond.code ({ cls := "LateFallsModel", name := "isWord", desc := "(Ljava/lang/String;)Z" } : Jvm.MethodName) prog_13_method_14_code (4 : Nat) (Option.some Jvm.ClassFile.FieldType.boolean)) ∈ wA := wA_of_7 77 rfl rfl
set_option maxRecDepth 100000 in
theorem wd_1518 : (Jvm.Cond.methodLink "LateFallsModel" (111 : Nat) ({ cls := "java/lang/String", name := "length", desc := "()I" } : Jvm.MethodName)) ∈ wA := wA_of_7 78 rfl rfl
set_option maxRecDepth 100000 in
theorem wd_1519 : (Jvm.Cond.methodLink "LateFallsModel" (116 : Nat) ({ cls := "java/lang/String", name := "charAt", desc := "(I)C" } : Jvm.MethodName)) ∈ wA := wA_of_7 79 rfl rfl
set_option maxRecDepth 100000 in
theorem wd_1520 : (Jvm.Cond.methodLink "LateFallsModel" (127 : Nat) ({ cls := "LateFallsModel", name := "blames", desc := "(I)V" } : Jvm.MethodName)) ∈ wA := wA_of_7 80 rfl rfl
set_option maxRecDepth 100000 in
theorem wd_1522 : (Jvm.Cond.instanceMethod ({ cls := "LateFallsModel", name := "blames", desc := "(I)V" } : Jvm.MethodName)) ∈ wA := wA_of_7 82 rfl rfl
set_option maxRecDepth 100000 in
theorem wd_1523 : (Jvm.Cond.code ({ cls := "LateFallsModel", name := "blames", desc := "(I)V" } : Jvm.MethodName) prog_13_method_13_code (2 : Nat) (Option.none : Option Jvm.ClassFile.FieldType)) ∈ wA := wA_of_7 83 rfl rfl
set_option maxRecDepth 100000 in
theorem wd_1524 : (Jvm.Cond.methodLink "LateFallsModel" (212 : Nat) ({ cls := "LateFallsModel", name := "number", desc := "(II)I" } : Jvm.MethodName)) ∈ wA := wA_of_7 84 rfl rfl
set_option maxRecDepth 100000 in
theorem wd_1526 : (Jvm.Cond.instanceMethod ({ cls := "LateFallsModel", name := "number", desc := "(II)I" } : Jvm.MethodName)) ∈ wA := wA_of_7 86 rfl rfl
set_option maxRecDepth 100000 in
theorem wd_1527 : (Jvm.Cond.code ({ cls := "LateFallsModel", name := "number", desc := "(II)I" } : Jvm.MethodName) prog_13_method_18_code (4 : Nat) (Option.some Jvm.ClassFile.FieldType.int)) ∈ wA := wA_of_7 87 rfl rfl
set_option maxRecDepth 100000 in
theorem wd_1528 : (Jvm.Cond.methodLink "LateFallsModel" (266 : Nat) ({ cls := "LateFallsModel", name := "readStop", desc := "()V" } : Jvm.MethodName)) ∈ wA := wA_of_7 88 rfl rfl
set_option maxRecDepth 100000 in
theorem wd_1530 : (Jvm.Cond.instanceMethod ({ cls := "LateFallsModel", name := "readStop", desc := "()V" } : Jvm.MethodName)) ∈ wA := wA_of_7 90 rfl rfl
set_option maxRecDepth 100000 in
theorem wd_1531 : (Jvm.Cond.code ({ cls := "LateFallsModel", name := "readStop", desc := "()V" } : Jvm.MethodName) prog_13_method_38_code (1 : Nat) (Option.none : Option Jvm.ClassFile.FieldType)) ∈ wA := wA_of_7 91 rfl rfl
set_option maxRecDepth 100000 in
theorem wd_1532 : (Jvm.Cond.methodLink "LateFallsModel" (171 : Nat) ({ cls := "LateFallsModel", name := "mustSign", desc := "(I)V" } : Jvm.MethodName)) ∈ wA := wA_of_7 92 rfl rfl
set_option maxRecDepth 100000 in
theorem wd_1534 : (Jvm.Cond.instanceMethod ({ cls := "LateFallsModel", name := "mustSign", desc := "(I)V" } : Jvm.MethodName)) ∈ wA := wA_of_7 94 rfl rfl
set_option maxRecDepth 100000 in
theorem wd_1535 : (Jvm.Cond.code ({ cls := "LateFallsModel", name := "mustSign", desc := "(I)V" } : Jvm.MethodName) prog_13_method_17_code (2 : Nat) (Option.none : Option Jvm.ClassFile.FieldType)) ∈ wA := wA_of_7 95 rfl rfl
set_option maxRecDepth 100000 in
theorem wd_1536 : (Jvm.Cond.methodLink "LateFallsModel" (274 : Nat) ({ cls := "LateFallsModel", name := "readLine", desc := "()V" } : Jvm.MethodName)) ∈ wA := wA_of_7 96 rfl rfl
set_option maxRecDepth 100000 in
theorem wd_1538 : (Jvm.Cond.instanceMethod ({ cls := "LateFallsModel", name := "readLine", desc := "()V" } : Jvm.MethodName)) ∈ wA := wA_of_7 98 rfl rfl
set_option maxRecDepth 100000 in
theorem wd_1539 : (Jvm.Cond.code ({ cls := "LateFallsModel", name := "readLine", desc := "()V" } : Jvm.MethodName) prog_13_method_39_code (1 : Nat) (Option.none : Option Jvm.ClassFile.FieldType)) ∈ wA := wA_of_7 99 rfl rfl
set_option maxRecDepth 100000 in
theorem wd_1541 : (Jvm.Cond.methodLink "LateFallsModel" (250 : Nat) ({ cls := "LateFallsModel", name := "readThing", desc := "()V" } : Jvm.MethodName)) ∈ wA := wA_of_7 101 rfl rfl
set_option maxRecDepth 100000 in
theorem wd_1543 : (Jvm.Cond.instanceMethod ({ cls := "LateFallsModel", name := "readThing", desc := "()V" } : Jvm.MethodName)) ∈ wA := wA_of_7 103 rfl rfl
set_option maxRecDepth 100000 in
theorem wd_1544 : (Jvm.Cond.code ({ cls := "LateFallsModel", name := "readThing", desc := "()V" } : Jvm.MethodName) prog_13_method_36_code (4 : Nat) (Option.none : Option Jvm.ClassFile.FieldType)) ∈ wA := wA_of_7 104 rfl rfl
set_option maxRecDepth 100000 in
theorem wd_1545 : (Jvm.Cond.methodLink "LateFallsModel" (234 : Nat) ({ cls := "LateFallsModel", name := "begins", desc := "(II)Z" } : Jvm.MethodName)) ∈ wA := wA_of_7 105 rfl rfl
set_option maxRecDepth 100000 in
theorem wd_1547 : (Jvm.Cond.instanceMethod ({ cls := "LateFallsModel", name := "begins", desc := "(II)Z" } : Jvm.MethodName)) ∈ wA := wA_of_7 107 rfl rfl
set_option maxRecDepth 100000 in
theorem wd_1548 : (Jvm.Cond.code ({ cls := "LateFallsModel", name := "begins", desc := "(II)Z" } : Jvm.MethodName) prog_13_method_32_code (3 : Nat) (Option.some Jvm.ClassFile.FieldType.boolean)) ∈ wA := wA_of_7 108 rfl rfl
set_option maxRecDepth 100000 in
theorem wd_1550 : (Jvm.Cond.methodLink "LateFallsModel" (226 : Nat) ({ cls := "LateFallsModel", name := "lays", desc := "(IIIII)V" } : Jvm.MethodName)) ∈ wA := wA_of_7 110 rfl rfl
set_option maxRecDepth 100000 in
theorem wd_1552 : (Jvm.Cond.instanceMethod ({ cls := "LateFallsModel", name := "lays", desc := "(IIIII)V" } : Jvm.MethodName)) ∈ wA := wA_of_7 112 rfl rfl
set_option maxRecDepth 100000 in
theorem wd_1553 : (Jvm.Cond.code ({ cls := "LateFallsModel", name := "lays", desc := "(IIIII)V" } : Jvm.MethodName) prog_13_method_35_code (6 : Nat) (Option.none : Option Jvm.ClassFile.FieldType)) ∈ wA := wA_of_7 113 rfl rfl
set_option maxRecDepth 100000 in
theorem wd_1555 : (Jvm.Cond.methodLink "LateFallsModel" (240 : Nat) ({ cls := "LateFallsModel", name := "readUp", desc := "(I)V" } : Jvm.MethodName)) ∈ wA := wA_of_7 115 rfl rfl
set_option maxRecDepth 100000 in
theorem wd_1557 : (Jvm.Cond.instanceMethod ({ cls := "LateFallsModel", name := "readUp", desc := "(I)V" } : Jvm.MethodName)) ∈ wA := wA_of_7 117 rfl rfl
set_option maxRecDepth 100000 in
theorem wd_1558 : (Jvm.Cond.code ({ cls := "LateFallsModel", name := "readUp", desc := "(I)V" } : Jvm.MethodName) prog_13_method_33_code (5 : Nat) (Option.none : Option Jvm.ClassFile.FieldType)) ∈ wA := wA_of_7 118 rfl rfl
set_option maxRecDepth 100000 in
theorem wd_1559 : (Jvm.Cond.methodLink "LateFallsModel" (216 : Nat) ({ cls := "LateFallsModel", name := "isFreeIn", desc := "([III)Z" } : Jvm.MethodName)) ∈ wA := wA_of_7 119 rfl rfl
set_option maxRecDepth 100000 in
theorem wd_1560 : (Jvm.Cond.static ({ cls := "LateFallsModel", name := "isFreeIn", desc := "([III)Z" } : Jvm.MethodName)) ∈ wA := wA_of_7 120 rfl rfl
set_option maxRecDepth 100000 in
theorem wd_1561 : (Jvm.Cond.code ({ cls := "LateFallsModel", name := "isFreeIn", desc := "([III)Z" } : Jvm.MethodName) prog_13_method_49_code (4 : Nat) (Option.some Jvm.ClassFile.FieldType.boolean)) ∈ wA := wA_of_7 121 rfl rfl
set_option maxRecDepth 100000 in
theorem wd_1562 : (Jvm.Cond.methodLink "LateFallsModel" (230 : Nat) ({ cls := "LateFallsModel", name := "lyingIn", desc := "([II)I" } : Jvm.MethodName)) ∈ wA := wA_of_7 122 rfl rfl
set_option maxRecDepth 100000 in
theorem wd_1563 : (Jvm.Cond.static ({ cls := "LateFallsModel", name := "lyingIn", desc := "([II)I" } : Jvm.MethodName)) ∈ wA := wA_of_7 123 rfl rfl
set_option maxRecDepth 100000 in
theorem wd_1564 : (Jvm.Cond.code ({ cls := "LateFallsModel", name := "lyingIn", desc := "([II)I" } : Jvm.MethodName) prog_13_method_48_code (4 : Nat) (Option.some Jvm.ClassFile.FieldType.int)) ∈ wA := wA_of_7 124 rfl rfl
set_option maxRecDepth 100000 in
theorem wd_1567 : (Jvm.Cond.methodLink "LateFallsModel" (245 : Nat) ({ cls := "LateFallsModel", name := "readOn", desc := "(I)V" } : Jvm.MethodName)) ∈ wA := wA_of_7 127 rfl rfl
set_option maxRecDepth 100000 in
theorem wd_1569 : (Jvm.Cond.instanceMethod ({ cls := "LateFallsModel", name := "readOn", desc := "(I)V" } : Jvm.MethodName)) ∈ wA := wA_of_7 129 rfl rfl
set_option maxRecDepth 100000 in
theorem wd_1570 : (Jvm.Cond.code ({ cls := "LateFallsModel", name := "readOn", desc := "(I)V" } : Jvm.MethodName) prog_13_method_34_code (3 : Nat) (Option.none : Option Jvm.ClassFile.FieldType)) ∈ wA := wA_of_7 130 rfl rfl
set_option maxRecDepth 100000 in
theorem wd_1572 : (Jvm.Cond.methodLink "LateFallsModel" (255 : Nat) ({ cls := "LateFallsModel", name := "readWalker", desc := "()V" } : Jvm.MethodName)) ∈ wA := wA_of_7 132 rfl rfl
set_option maxRecDepth 100000 in
theorem wd_1574 : (Jvm.Cond.instanceMethod ({ cls := "LateFallsModel", name := "readWalker", desc := "()V" } : Jvm.MethodName)) ∈ wA := wA_of_7 134 rfl rfl
set_option maxRecDepth 100000 in
theorem wd_1575 : (Jvm.Cond.code ({ cls := "LateFallsModel", name := "readWalker", desc := "()V" } : Jvm.MethodName) prog_13_method_37_code (4 : Nat) (Option.none : Option Jvm.ClassFile.FieldType)) ∈ wA := wA_of_7 135 rfl rfl
set_option maxRecDepth 100000 in
theorem wd_1578 : (Jvm.Cond.methodLink "LateFallsModel" (260 : Nat) ({ cls := "LateFallsModel", name := "beginsLaw", desc := "(II)V" } : Jvm.MethodName)) ∈ wA := wA_of_7 138 rfl rfl
set_option maxRecDepth 100000 in
theorem wd_1580 : (Jvm.Cond.instanceMethod ({ cls := "LateFallsModel", name := "beginsLaw", desc := "(II)V" } : Jvm.MethodName)) ∈ wA := wA_of_7 140 rfl rfl
set_option maxRecDepth 100000 in
theorem wd_1581 : (Jvm.Cond.code ({ cls := "LateFallsModel", name := "beginsLaw", desc := "(II)V" } : Jvm.MethodName) prog_13_method_21_code (3 : Nat) (Option.none : Option Jvm.ClassFile.FieldType)) ∈ wA := wA_of_7 141 rfl rfl
set_option maxRecDepth 100000 in
theorem wd_1582 : (Jvm.Cond.methodLink "LateFallsModel" (174 : Nat) ({ cls := "LateFallsModel", name := "readSum", desc := "()V" } : Jvm.MethodName)) ∈ wA := wA_of_7 142 rfl rfl
set_option maxRecDepth 100000 in
theorem wd_1584 : (Jvm.Cond.instanceMethod ({ cls := "LateFallsModel", name := "readSum", desc := "()V" } : Jvm.MethodName)) ∈ wA := wA_of_7 144 rfl rfl
set_option maxRecDepth 100000 in
theorem wd_1585 : (Jvm.Cond.code ({ cls := "LateFallsModel", name := "readSum", desc := "()V" } : Jvm.MethodName) prog_13_method_26_code (2 : Nat) (Option.none : Option Jvm.ClassFile.FieldType)) ∈ wA := wA_of_7 145 rfl rfl
set_option maxRecDepth 100000 in
theorem wd_1586 : (Jvm.Cond.methodLink "LateFallsModel" (177 : Nat) ({ cls := "LateFallsModel", name := "readTerm", desc := "()V" } : Jvm.MethodName)) ∈ wA := wA_of_7 146 rfl rfl
set_option maxRecDepth 100000 in
theorem wd_1588 : (Jvm.Cond.instanceMethod ({ cls := "LateFallsModel", name := "readTerm", desc := "()V" } : Jvm.MethodName)) ∈ wA := wA_of_7 148 rfl rfl
set_option maxRecDepth 100000 in
theorem wd_1589 : (Jvm.Cond.code ({ cls := "LateFallsModel", name := "readTerm", desc := "()V" } : Jvm.MethodName) prog_13_method_27_code (1 : Nat) (Option.none : Option Jvm.ClassFile.FieldType)) ∈ wA := wA_of_7 149 rfl rfl
set_option maxRecDepth 100000 in
theorem wd_1590 : (Jvm.Cond.methodLink "LateFallsModel" (180 : Nat) ({ cls := "LateFallsModel", name := "readAtom", desc := "()V" } : Jvm.MethodName)) ∈ wA := wA_of_7 150 rfl rfl
set_option maxRecDepth 100000 in
theorem wd_1592 : (Jvm.Cond.instanceMethod ({ cls := "LateFallsModel", name := "readAtom", desc := "()V" } : Jvm.MethodName)) ∈ wA := wA_of_7 152 rfl rfl
set_option maxRecDepth 100000 in
theorem wd_1593 : (Jvm.Cond.code ({ cls := "LateFallsModel", name := "readAtom", desc := "()V" } : Jvm.MethodName) prog_13_method_31_code (3 : Nat) (Option.none : Option Jvm.ClassFile.FieldType)) ∈ wA := wA_of_7 153 rfl rfl
set_option maxRecDepth 100000 in
theorem wd_1594 : (Jvm.Cond.methodLink "LateFallsModel" (209 : Nat) ({ cls := "LateFallsModel", name := "lawWord", desc := "()I" } : Jvm.MethodName)) ∈ wA := wA_of_7 154 rfl rfl
set_option maxRecDepth 100000 in
theorem wd_1596 : (Jvm.Cond.instanceMethod ({ cls := "LateFallsModel", name := "lawWord", desc := "()I" } : Jvm.MethodName)) ∈ wA := wA_of_7 156 rfl rfl
set_option maxRecDepth 100000 in
theorem wd_1597 : (Jvm.Cond.code ({ cls := "LateFallsModel", name := "lawWord", desc := "()I" } : Jvm.MethodName) prog_13_method_30_code (1 : Nat) (Option.some Jvm.ClassFile.FieldType.int)) ∈ wA := wA_of_7 157 rfl rfl
set_option maxRecDepth 100000 in
theorem wd_1598 : (Jvm.Cond.methodLink "LateFallsModel" (203 : Nat) ({ cls := "LateFallsModel", name := "hangWord", desc := "()I" } : Jvm.MethodName)) ∈ wA := wA_of_7 158 rfl rfl
set_option maxRecDepth 100000 in
theorem wd_1600 : (Jvm.Cond.instanceMethod ({ cls := "LateFallsModel", name := "hangWord", desc := "()I" } : Jvm.MethodName)) ∈ wA := wA_of_7 160 rfl rfl
set_option maxRecDepth 100000 in
theorem wd_1601 : (Jvm.Cond.code ({ cls := "LateFallsModel", name := "hangWord", desc := "()I" } : Jvm.MethodName) prog_13_method_28_code (1 : Nat) (Option.some Jvm.ClassFile.FieldType.int)) ∈ wA := wA_of_7 161 rfl rfl
set_option maxRecDepth 100000 in
theorem wd_1606 : (Jvm.Cond.methodLink "LateFallsModel" (206 : Nat) ({ cls := "LateFallsModel", name := "freeWord", desc := "()I" } : Jvm.MethodName)) ∈ wA := wA_of_7 166 rfl rfl
set_option maxRecDepth 100000 in
theorem wd_1608 : (Jvm.Cond.instanceMethod ({ cls := "LateFallsModel", name := "freeWord", desc := "()I" } : Jvm.MethodName)) ∈ wA := wA_of_7 168 rfl rfl
set_option maxRecDepth 100000 in
theorem wd_1609 : (Jvm.Cond.code ({ cls := "LateFallsModel", name := "freeWord", desc := "()I" } : Jvm.MethodName) prog_13_method_29_code (1 : Nat) (Option.some Jvm.ClassFile.FieldType.int)) ∈ wA := wA_of_7 169 rfl rfl
set_option maxRecDepth 100000 in
theorem wd_1614 : (Jvm.Cond.methodLink "LateFallsModel" (152 : Nat) ({ cls := "LateFallsModel", name := "laysStep", desc := "(I)V" } : Jvm.MethodName)) ∈ wA := wA_of_7 174 rfl rfl
set_option maxRecDepth 100000 in
theorem wd_1616 : (Jvm.Cond.instanceMethod ({ cls := "LateFallsModel", name := "laysStep", desc := "(I)V" } : Jvm.MethodName)) ∈ wA := wA_of_7 176 rfl rfl
set_option maxRecDepth 100000 in
theorem wd_1617 : (Jvm.Cond.code ({ cls := "LateFallsModel", name := "laysStep", desc := "(I)V" } : Jvm.MethodName) prog_13_method_20_code (2 : Nat) (Option.none : Option Jvm.ClassFile.FieldType)) ∈ wA := wA_of_7 177 rfl rfl
set_option maxRecDepth 100000 in
theorem wd_1618 : (Jvm.Cond.methodLink "LateFallsModel" (165 : Nat) ({ cls := "LateFallsModel", name := "isSign", desc := "(I)Z" } : Jvm.MethodName)) ∈ wA := wA_of_7 178 rfl rfl
set_option maxRecDepth 100000 in
theorem wd_1620 : (Jvm.Cond.instanceMethod ({ cls := "LateFallsModel", name := "isSign", desc := "(I)Z" } : Jvm.MethodName)) ∈ wA := wA_of_7 180 rfl rfl
set_option maxRecDepth 100000 in
theorem wd_1621 : (Jvm.Cond.code ({ cls := "LateFallsModel", name := "isSign", desc := "(I)Z" } : Jvm.MethodName) prog_13_method_16_code (2 : Nat) (Option.some Jvm.ClassFile.FieldType.boolean)) ∈ wA := wA_of_7 181 rfl rfl
set_option maxRecDepth 100000 in
theorem wd_1622 : (Jvm.Cond.methodLink "LateFallsModel" (162 : Nat) ({ cls := "LateFallsModel", name := "goesIn", desc := "()V" } : Jvm.MethodName)) ∈ wA := wA_of_7 182 rfl rfl
set_option maxRecDepth 100000 in
theorem wd_1624 : (Jvm.Cond.instanceMethod ({ cls := "LateFallsModel", name := "goesIn", desc := "()V" } : Jvm.MethodName)) ∈ wA := wA_of_7 184 rfl rfl
set_option maxRecDepth 100000 in
theorem wd_1625 : (Jvm.Cond.code ({ cls := "LateFallsModel", name := "goesIn", desc := "()V" } : Jvm.MethodName) prog_13_method_22_code (1 : Nat) (Option.none : Option Jvm.ClassFile.FieldType)) ∈ wA := wA_of_7 185 rfl rfl
set_option maxRecDepth 100000 in
theorem wd_1627 : (Jvm.Cond.methodLink "LateFallsModel" (168 : Nat) ({ cls := "LateFallsModel", name := "readTruth", desc := "()V" } : Jvm.MethodName)) ∈ wA := wA_of_7 187 rfl rfl
set_option maxRecDepth 100000 in
theorem wd_1629 : (Jvm.Cond.instanceMethod ({ cls := "LateFallsModel", name := "readTruth", desc := "()V" } : Jvm.MethodName)) ∈ wA := wA_of_7 189 rfl rfl
set_option maxRecDepth 100000 in
theorem wd_1630 : (Jvm.Cond.code ({ cls := "LateFallsModel", name := "readTruth", desc := "()V" } : Jvm.MethodName) prog_13_method_23_code (1 : Nat) (Option.none : Option Jvm.ClassFile.FieldType)) ∈ wA := wA_of_7 190 rfl rfl
set_option maxRecDepth 100000 in
theorem wd_1631 : (Jvm.Cond.methodLink "LateFallsModel" (147 : Nat) ({ cls := "LateFallsModel", name := "readBoth", desc := "()V" } : Jvm.MethodName)) ∈ wA := wA_of_7 191 rfl rfl
set_option maxRecDepth 100000 in
theorem wd_1633 : (Jvm.Cond.instanceMethod ({ cls := "LateFallsModel", name := "readBoth", desc := "()V" } : Jvm.MethodName)) ∈ wA := wA_of_7 193 rfl rfl
set_option maxRecDepth 100000 in
theorem wd_1634 : (Jvm.Cond.code ({ cls := "LateFallsModel", name := "readBoth", desc := "()V" } : Jvm.MethodName) prog_13_method_24_code (1 : Nat) (Option.none : Option Jvm.ClassFile.FieldType)) ∈ wA := wA_of_7 194 rfl rfl
set_option maxRecDepth 100000 in
theorem wd_1635 : (Jvm.Cond.methodLink "LateFallsModel" (155 : Nat) ({ cls := "LateFallsModel", name := "readUnit", desc := "()V" } : Jvm.MethodName)) ∈ wA := wA_of_7 195 rfl rfl
set_option maxRecDepth 100000 in
theorem wd_1637 : (Jvm.Cond.instanceMethod ({ cls := "LateFallsModel", name := "readUnit", desc := "()V" } : Jvm.MethodName)) ∈ wA := wA_of_7 197 rfl rfl
set_option maxRecDepth 100000 in
theorem wd_1638 : (Jvm.Cond.code ({ cls := "LateFallsModel", name := "readUnit", desc := "()V" } : Jvm.MethodName) prog_13_method_25_code (2 : Nat) (Option.none : Option Jvm.ClassFile.FieldType)) ∈ wA := wA_of_7 198 rfl rfl
set_option maxRecDepth 100000 in
theorem wd_1642 : (Jvm.Cond.methodLink "LateFallsModel" (280 : Nat) ({ cls := "LateFallsModel", name := "things", desc := "()I" } : Jvm.MethodName)) ∈ wA := wA_of_7 202 rfl rfl
set_option maxRecDepth 100000 in
theorem wd_1644 : (Jvm.Cond.instanceMethod ({ cls := "LateFallsModel", name := "things", desc := "()I" } : Jvm.MethodName)) ∈ wA := wA_of_7 204 rfl rfl
set_option maxRecDepth 100000 in
theorem wd_1645 : (Jvm.Cond.code ({ cls := "LateFallsModel", name := "things", desc := "()I" } : Jvm.MethodName) prog_13_method_42_code (1 : Nat) (Option.some Jvm.ClassFile.FieldType.int)) ∈ wA := wA_of_7 205 rfl rfl
set_option maxRecDepth 100000 in
theorem wd_1646 : (Jvm.Cond.methodLink "LateFallsModel" (283 : Nat) ({ cls := "LateFallsModel", name := "is", desc := "(II)Z" } : Jvm.MethodName)) ∈ wA := wA_of_7 206 rfl rfl
set_option maxRecDepth 100000 in
theorem wd_1648 : (Jvm.Cond.instanceMethod ({ cls := "LateFallsModel", name := "is", desc := "(II)Z" } : Jvm.MethodName)) ∈ wA := wA_of_7 208 rfl rfl
set_option maxRecDepth 100000 in
theorem wd_1649 : (Jvm.Cond.code ({ cls := "LateFallsModel", name := "is", desc := "(II)Z" } : Jvm.MethodName) prog_13_method_43_code (3 : Nat) (Option.some Jvm.ClassFile.FieldType.boolean)) ∈ wA := wA_of_7 209 rfl rfl
set_option maxRecDepth 100000 in
theorem wd_1650 : (Jvm.Cond.methodLink "LateFallsLaw" (159 : Nat) ({ cls := "LateFallsModel", name := "fault", desc := "(I)I" } : Jvm.MethodName)) ∈ wA := wA_of_7 210 rfl rfl
set_option maxRecDepth 100000 in
theorem wd_1651 : (Jvm.Cond.instanceMethod ({ cls := "LateFallsModel", name := "fault", desc := "(I)I" } : Jvm.MethodName)) ∈ wA := wA_of_7 211 rfl rfl
set_option maxRecDepth 100000 in
theorem wd_1652 : (Jvm.Cond.selects "LateFallsModel" ({ cls := "LateFallsModel", name := "fault", desc := "(I)I" } : Jvm.MethodName) ({ cls := "LateFallsModel", name := "fault", desc := "(I)I" } : Jvm.MethodName)) ∈ wA := wA_of_7 212 rfl rfl
set_option maxRecDepth 100000 in
theorem wd_1653 : (Jvm.Cond.code ({ cls := "LateFallsModel", name := "fault", desc := "(I)I" } : Jvm.MethodName) prog_13_method_41_code (2 : Nat) (Option.some Jvm.ClassFile.FieldType.int)) ∈ wA := wA_of_7 213 rfl rfl
set_option maxRecDepth 100000 in
theorem wd_1654 : (Jvm.Cond.methodLink "LateFallsLaw" (163 : Nat) ({ cls := "LateFallsModel", name := "thing", desc := "(II)I" } : Jvm.MethodName)) ∈ wA := wA_of_7 214 rfl rfl
set_option maxRecDepth 100000 in
theorem wd_1655 : (Jvm.Cond.instanceMethod ({ cls := "LateFallsModel", name := "thing", desc := "(II)I" } : Jvm.MethodName)) ∈ wA := wA_of_7 215 rfl rfl
set_option maxRecDepth 100000 in
theorem wd_1656 : (Jvm.Cond.selects "LateFallsModel" ({ cls := "LateFallsModel", name := "thing", desc := "(II)I" } : Jvm.MethodName) ({ cls := "LateFallsModel", name := "thing", desc := "(II)I" } : Jvm.MethodName)) ∈ wA := wA_of_7 216 rfl rfl
set_option maxRecDepth 100000 in
theorem wd_1657 : (Jvm.Cond.code ({ cls := "LateFallsModel", name := "thing", desc := "(II)I" } : Jvm.MethodName) prog_13_method_66_code (3 : Nat) (Option.some Jvm.ClassFile.FieldType.int)) ∈ wA := wA_of_7 217 rfl rfl
set_option maxRecDepth 100000 in
theorem wd_1658 : (Jvm.Cond.methodLink "LateFallsModel" (363 : Nat) ({ cls := "LateFallsModel", name := "isThing", desc := "(J)Z" } : Jvm.MethodName)) ∈ wA := wA_of_7 218 rfl rfl
set_option maxRecDepth 100000 in
theorem wd_1660 : (Jvm.Cond.instanceMethod ({ cls := "LateFallsModel", name := "isThing", desc := "(J)Z" } : Jvm.MethodName)) ∈ wA := wA_of_7 220 rfl rfl
set_option maxRecDepth 100000 in
theorem wd_1661 : (Jvm.Cond.code ({ cls := "LateFallsModel", name := "isThing", desc := "(J)Z" } : Jvm.MethodName) prog_13_method_44_code (3 : Nat) (Option.some Jvm.ClassFile.FieldType.boolean)) ∈ wA := wA_of_7 221 rfl rfl
set_option maxRecDepth 100000 in
theorem wd_1662 : (Jvm.Cond.constantLong "LateFallsModel" (366 : Nat) (5 : Int64)) ∈ wA := wA_of_7 222 rfl rfl
set_option maxRecDepth 100000 in
theorem wd_1663 : (Jvm.Cond.methodLink "LateFallsLaw" (166 : Nat) ({ cls := "LateFallsModel", name := "walker", desc := "(II)I" } : Jvm.MethodName)) ∈ wA := wA_of_7 223 rfl rfl
set_option maxRecDepth 100000 in
theorem wd_1664 : (Jvm.Cond.instanceMethod ({ cls := "LateFallsModel", name := "walker", desc := "(II)I" } : Jvm.MethodName)) ∈ wA := wA_of_7 224 rfl rfl
set_option maxRecDepth 100000 in
theorem wd_1665 : (Jvm.Cond.selects "LateFallsModel" ({ cls := "LateFallsModel", name := "walker", desc := "(II)I" } : Jvm.MethodName) ({ cls := "LateFallsModel", name := "walker", desc := "(II)I" } : Jvm.MethodName)) ∈ wA := wA_of_7 225 rfl rfl
set_option maxRecDepth 100000 in
theorem wd_1666 : (Jvm.Cond.code ({ cls := "LateFallsModel", name := "walker", desc := "(II)I" } : Jvm.MethodName) prog_13_method_67_code (3 : Nat) (Option.some Jvm.ClassFile.FieldType.int)) ∈ wA := wA_of_7 226 rfl rfl
set_option maxRecDepth 100000 in
theorem wd_1667 : (Jvm.Cond.methodLink "LateFallsModel" (368 : Nat) ({ cls := "LateFallsModel", name := "isWalker", desc := "(I)Z" } : Jvm.MethodName)) ∈ wA := wA_of_7 227 rfl rfl
set_option maxRecDepth 100000 in
theorem wd_1669 : (Jvm.Cond.instanceMethod ({ cls := "LateFallsModel", name := "isWalker", desc := "(I)Z" } : Jvm.MethodName)) ∈ wA := wA_of_7 229 rfl rfl
set_option maxRecDepth 100000 in
theorem wd_1670 : (Jvm.Cond.code ({ cls := "LateFallsModel", name := "isWalker", desc := "(I)Z" } : Jvm.MethodName) prog_13_method_47_code (2 : Nat) (Option.some Jvm.ClassFile.FieldType.boolean)) ∈ wA := wA_of_7 230 rfl rfl
set_option maxRecDepth 100000 in
theorem wd_1671 : (Jvm.Cond.constantLong "LateFallsModel" (371 : Nat) (2 : Int64)) ∈ wA := wA_of_7 231 rfl rfl
set_option maxRecDepth 100000 in
theorem wd_1672 : (Jvm.Cond.methodLink "LateFallsModel" (345 : Nat) ({ cls := "LateFallsModel", name := "walks", desc := "(II)I" } : Jvm.MethodName)) ∈ wA := wA_of_7 232 rfl rfl
set_option maxRecDepth 100000 in
theorem wd_1674 : (Jvm.Cond.instanceMethod ({ cls := "LateFallsModel", name := "walks", desc := "(II)I" } : Jvm.MethodName)) ∈ wA := wA_of_7 234 rfl rfl
set_option maxRecDepth 100000 in
theorem wd_1675 : (Jvm.Cond.code ({ cls := "LateFallsModel", name := "walks", desc := "(II)I" } : Jvm.MethodName) prog_13_method_51_code (3 : Nat) (Option.some Jvm.ClassFile.FieldType.int)) ∈ wA := wA_of_7 235 rfl rfl
set_option maxRecDepth 100000 in
theorem wd_1676 : (Jvm.Cond.methodLink "LateFallsLaw" (169 : Nat) ({ cls := "LateFallsModel", name := "height", desc := "(I)I" } : Jvm.MethodName)) ∈ wA := wA_of_7 236 rfl rfl
set_option maxRecDepth 100000 in
theorem wd_1677 : (Jvm.Cond.instanceMethod ({ cls := "LateFallsModel", name := "height", desc := "(I)I" } : Jvm.MethodName)) ∈ wA := wA_of_7 237 rfl rfl
set_option maxRecDepth 100000 in
theorem wd_1678 : (Jvm.Cond.selects "LateFallsModel" ({ cls := "LateFallsModel", name := "height", desc := "(I)I" } : Jvm.MethodName) ({ cls := "LateFallsModel", name := "height", desc := "(I)I" } : Jvm.MethodName)) ∈ wA := wA_of_7 238 rfl rfl
set_option maxRecDepth 100000 in
theorem wd_1679 : (Jvm.Cond.code ({ cls := "LateFallsModel", name := "height", desc := "(I)I" } : Jvm.MethodName) prog_13_method_68_code (2 : Nat) (Option.some Jvm.ClassFile.FieldType.int)) ∈ wA := wA_of_7 239 rfl rfl
set_option maxRecDepth 100000 in
theorem wd_1680 : (Jvm.Cond.methodLink "LateFallsModel" (286 : Nat) ({ cls := "LateFallsModel", name := "isColumn", desc := "(J)Z" } : Jvm.MethodName)) ∈ wA := wA_of_8 0 rfl rfl
set_option maxRecDepth 100000 in
theorem wd_1682 : (Jvm.Cond.instanceMethod ({ cls := "LateFallsModel", name := "isColumn", desc := "(J)Z" } : Jvm.MethodName)) ∈ wA := wA_of_8 2 rfl rfl
set_option maxRecDepth 100000 in
theorem wd_1683 : (Jvm.Cond.code ({ cls := "LateFallsModel", name := "isColumn", desc := "(J)Z" } : Jvm.MethodName) prog_13_method_45_code (3 : Nat) (Option.some Jvm.ClassFile.FieldType.boolean)) ∈ wA := wA_of_8 3 rfl rfl
set_option maxRecDepth 100000 in
theorem wd_1684 : (Jvm.Cond.methodLink "LateFallsModel" (311 : Nat) ({ cls := "LateFallsModel", name := "lying", desc := "(I)I" } : Jvm.MethodName)) ∈ wA := wA_of_8 4 rfl rfl
set_option maxRecDepth 100000 in
theorem wd_1686 : (Jvm.Cond.instanceMethod ({ cls := "LateFallsModel", name := "lying", desc := "(I)I" } : Jvm.MethodName)) ∈ wA := wA_of_8 6 rfl rfl
set_option maxRecDepth 100000 in
theorem wd_1687 : (Jvm.Cond.code ({ cls := "LateFallsModel", name := "lying", desc := "(I)I" } : Jvm.MethodName) prog_13_method_50_code (2 : Nat) (Option.some Jvm.ClassFile.FieldType.int)) ∈ wA := wA_of_8 7 rfl rfl
set_option maxRecDepth 100000 in
theorem wd_1688 : (Jvm.Cond.methodLink "LateFallsLaw" (172 : Nat) ({ cls := "LateFallsModel", name := "at", desc := "(II)I" } : Jvm.MethodName)) ∈ wA := wA_of_8 8 rfl rfl
set_option maxRecDepth 100000 in
theorem wd_1689 : (Jvm.Cond.instanceMethod ({ cls := "LateFallsModel", name := "at", desc := "(II)I" } : Jvm.MethodName)) ∈ wA := wA_of_8 9 rfl rfl
set_option maxRecDepth 100000 in
theorem wd_1690 : (Jvm.Cond.selects "LateFallsModel" ({ cls := "LateFallsModel", name := "at", desc := "(II)I" } : Jvm.MethodName) ({ cls := "LateFallsModel", name := "at", desc := "(II)I" } : Jvm.MethodName)) ∈ wA := wA_of_8 10 rfl rfl
set_option maxRecDepth 100000 in
theorem wd_1691 : (Jvm.Cond.code ({ cls := "LateFallsModel", name := "at", desc := "(II)I" } : Jvm.MethodName) prog_13_method_69_code (4 : Nat) (Option.some Jvm.ClassFile.FieldType.int)) ∈ wA := wA_of_8 11 rfl rfl
set_option maxRecDepth 100000 in
theorem wd_1692 : (Jvm.Cond.methodLink "LateFallsModel" (373 : Nat) ({ cls := "LateFallsModel", name := "isPlace", desc := "(JJ)Z" } : Jvm.MethodName)) ∈ wA := wA_of_8 12 rfl rfl
set_option maxRecDepth 100000 in
theorem wd_1694 : (Jvm.Cond.instanceMethod ({ cls := "LateFallsModel", name := "isPlace", desc := "(JJ)Z" } : Jvm.MethodName)) ∈ wA := wA_of_8 14 rfl rfl
set_option maxRecDepth 100000 in
theorem wd_1695 : (Jvm.Cond.code ({ cls := "LateFallsModel", name := "isPlace", desc := "(JJ)Z" } : Jvm.MethodName) prog_13_method_46_code (5 : Nat) (Option.some Jvm.ClassFile.FieldType.boolean)) ∈ wA := wA_of_8 15 rfl rfl
set_option maxRecDepth 100000 in
theorem wd_1696 : (Jvm.Cond.methodLink "LateFallsLaw" (176 : Nat) ({ cls := "LateFallsModel", name := "hanging", desc := "(IIII)I" } : Jvm.MethodName)) ∈ wA := wA_of_8 16 rfl rfl
set_option maxRecDepth 100000 in
theorem wd_1697 : (Jvm.Cond.instanceMethod ({ cls := "LateFallsModel", name := "hanging", desc := "(IIII)I" } : Jvm.MethodName)) ∈ wA := wA_of_8 17 rfl rfl
set_option maxRecDepth 100000 in
theorem wd_1698 : (Jvm.Cond.selects "LateFallsModel" ({ cls := "LateFallsModel", name := "hanging", desc := "(IIII)I" } : Jvm.MethodName) ({ cls := "LateFallsModel", name := "hanging", desc := "(IIII)I" } : Jvm.MethodName)) ∈ wA := wA_of_8 18 rfl rfl
set_option maxRecDepth 100000 in
theorem wd_1699 : (Jvm.Cond.code ({ cls := "LateFallsModel", name := "hanging", desc := "(IIII)I" } : Jvm.MethodName) prog_13_method_70_code (5 : Nat) (Option.some Jvm.ClassFile.FieldType.int)) ∈ wA := wA_of_8 19 rfl rfl
set_option maxRecDepth 100000 in
theorem wd_1700 : (Jvm.Cond.constantLong "LateFallsModel" (377 : Nat) (999 : Int64)) ∈ wA := wA_of_8 20 rfl rfl
set_option maxRecDepth 100000 in
theorem wd_1701 : (Jvm.Cond.methodLink "LateFallsModel" (359 : Nat) ({ cls := "LateFallsModel", name := "hangsFor", desc := "(IIIII)I" } : Jvm.MethodName)) ∈ wA := wA_of_8 21 rfl rfl
set_option maxRecDepth 100000 in
theorem wd_1703 : (Jvm.Cond.instanceMethod ({ cls := "LateFallsModel", name := "hangsFor", desc := "(IIIII)I" } : Jvm.MethodName)) ∈ wA := wA_of_8 23 rfl rfl
set_option maxRecDepth 100000 in
theorem wd_1704 : (Jvm.Cond.code ({ cls := "LateFallsModel", name := "hangsFor", desc := "(IIIII)I" } : Jvm.MethodName) prog_13_method_55_code (6 : Nat) (Option.some Jvm.ClassFile.FieldType.int)) ∈ wA := wA_of_8 24 rfl rfl
set_option maxRecDepth 100000 in
theorem wd_1705 : (Jvm.Cond.methodLink "LateFallsModel" (313 : Nat) ({ cls := "LateFallsModel", name := "lawOf", desc := "(II)I" } : Jvm.MethodName)) ∈ wA := wA_of_8 25 rfl rfl
set_option maxRecDepth 100000 in
theorem wd_1707 : (Jvm.Cond.instanceMethod ({ cls := "LateFallsModel", name := "lawOf", desc := "(II)I" } : Jvm.MethodName)) ∈ wA := wA_of_8 27 rfl rfl
set_option maxRecDepth 100000 in
theorem wd_1708 : (Jvm.Cond.code ({ cls := "LateFallsModel", name := "lawOf", desc := "(II)I" } : Jvm.MethodName) prog_13_method_54_code (6 : Nat) (Option.some Jvm.ClassFile.FieldType.int)) ∈ wA := wA_of_8 28 rfl rfl
set_option maxRecDepth 100000 in
theorem wd_1709 : (Jvm.Cond.methodLink "LateFallsModel" (307 : Nat) ({ cls := "LateFallsModel", name := "done", desc := "(IJJ)I" } : Jvm.MethodName)) ∈ wA := wA_of_8 29 rfl rfl
set_option maxRecDepth 100000 in
theorem wd_1710 : (Jvm.Cond.static ({ cls := "LateFallsModel", name := "done", desc := "(IJJ)I" } : Jvm.MethodName)) ∈ wA := wA_of_8 30 rfl rfl
set_option maxRecDepth 100000 in
theorem wd_1711 : (Jvm.Cond.code ({ cls := "LateFallsModel", name := "done", desc := "(IJJ)I" } : Jvm.MethodName) prog_13_method_53_code (5 : Nat) (Option.some Jvm.ClassFile.FieldType.int)) ∈ wA := wA_of_8 31 rfl rfl
set_option maxRecDepth 100000 in
theorem wd_1712 : (Jvm.Cond.methodLink "LateFallsModel" (303 : Nat) ({ cls := "LateFallsModel", name := "bound", desc := "(J)I" } : Jvm.MethodName)) ∈ wA := wA_of_8 32 rfl rfl
set_option maxRecDepth 100000 in
theorem wd_1713 : (Jvm.Cond.static ({ cls := "LateFallsModel", name := "bound", desc := "(J)I" } : Jvm.MethodName)) ∈ wA := wA_of_8 33 rfl rfl
set_option maxRecDepth 100000 in
theorem wd_1714 : (Jvm.Cond.code ({ cls := "LateFallsModel", name := "bound", desc := "(J)I" } : Jvm.MethodName) prog_13_method_52_code (2 : Nat) (Option.some Jvm.ClassFile.FieldType.int)) ∈ wA := wA_of_8 34 rfl rfl
set_option maxRecDepth 100000 in
theorem wd_1715 : (Jvm.Cond.constantLong "LateFallsModel" (290 : Nat) (-1000000 : Int64)) ∈ wA := wA_of_8 35 rfl rfl
set_option maxRecDepth 100000 in
theorem wd_1716 : (Jvm.Cond.constantLong "LateFallsModel" (292 : Nat) (1000000 : Int64)) ∈ wA := wA_of_8 36 rfl rfl
set_option maxRecDepth 100000 in
theorem wd_1717 : (Jvm.Cond.methodLink "LateFallsModel" (294 : Nat) ({ cls := "java/lang/Math", name := "min", desc := "(JJ)J" } : Jvm.MethodName)) ∈ wA := wA_of_8 37 rfl rfl
set_option maxRecDepth 100000 in
theorem wd_1718 : (Jvm.Cond.methodLink "LateFallsModel" (300 : Nat) ({ cls := "java/lang/Math", name := "max", desc := "(JJ)J" } : Jvm.MethodName)) ∈ wA := wA_of_8 38 rfl rfl
set_option maxRecDepth 100000 in
theorem wd_1719 : (Jvm.Cond.methodLink "LateFallsModel" (316 : Nat) ({ cls := "java/lang/Math", name := "min", desc := "(II)I" } : Jvm.MethodName)) ∈ wA := wA_of_8 39 rfl rfl
set_option maxRecDepth 100000 in
theorem wd_1720 : (Jvm.Cond.methodLink "LateFallsModel" (318 : Nat) ({ cls := "java/lang/Math", name := "max", desc := "(II)I" } : Jvm.MethodName)) ∈ wA := wA_of_8 40 rfl rfl
set_option maxRecDepth 100000 in
theorem wd_1721 : (Jvm.Cond.methodLink "LateFallsLaw" (180 : Nat) ({ cls := "LateFallsModel", name := "letGo", desc := "(III)I" } : Jvm.MethodName)) ∈ wA := wA_of_8 41 rfl rfl
set_option maxRecDepth 100000 in
theorem wd_1722 : (Jvm.Cond.instanceMethod ({ cls := "LateFallsModel", name := "letGo", desc := "(III)I" } : Jvm.MethodName)) ∈ wA := wA_of_8 42 rfl rfl
set_option maxRecDepth 100000 in
theorem wd_1723 : (Jvm.Cond.selects "LateFallsModel" ({ cls := "LateFallsModel", name := "letGo", desc := "(III)I" } : Jvm.MethodName) ({ cls := "LateFallsModel", name := "letGo", desc := "(III)I" } : Jvm.MethodName)) ∈ wA := wA_of_8 43 rfl rfl
set_option maxRecDepth 100000 in
theorem wd_1724 : (Jvm.Cond.code ({ cls := "LateFallsModel", name := "letGo", desc := "(III)I" } : Jvm.MethodName) prog_13_method_77_code (5 : Nat) (Option.some Jvm.ClassFile.FieldType.int)) ∈ wA := wA_of_8 44 rfl rfl
set_option maxRecDepth 100000 in
theorem wd_1725 : (Jvm.Cond.methodLink "LateFallsModel" (379 : Nat) ({ cls := "LateFallsModel", name := "whyLet", desc := "(JJJ)I" } : Jvm.MethodName)) ∈ wA := wA_of_8 45 rfl rfl
set_option maxRecDepth 100000 in
theorem wd_1727 : (Jvm.Cond.instanceMethod ({ cls := "LateFallsModel", name := "whyLet", desc := "(JJJ)I" } : Jvm.MethodName)) ∈ wA := wA_of_8 47 rfl rfl
set_option maxRecDepth 100000 in
theorem wd_1728 : (Jvm.Cond.code ({ cls := "LateFallsModel", name := "whyLet", desc := "(JJJ)I" } : Jvm.MethodName) prog_13_method_74_code (7 : Nat) (Option.some Jvm.ClassFile.FieldType.int)) ∈ wA := wA_of_8 48 rfl rfl
set_option maxRecDepth 100000 in
theorem wd_1729 : (Jvm.Cond.methodLink "LateFallsModel" (383 : Nat) ({ cls := "LateFallsModel", name := "keeps", desc := "()V" } : Jvm.MethodName)) ∈ wA := wA_of_8 49 rfl rfl
set_option maxRecDepth 100000 in
theorem wd_1731 : (Jvm.Cond.instanceMethod ({ cls := "LateFallsModel", name := "keeps", desc := "()V" } : Jvm.MethodName)) ∈ wA := wA_of_8 51 rfl rfl
set_option maxRecDepth 100000 in
theorem wd_1732 : (Jvm.Cond.code ({ cls := "LateFallsModel", name := "keeps", desc := "()V" } : Jvm.MethodName) prog_13_method_71_code (2 : Nat) (Option.none : Option Jvm.ClassFile.FieldType)) ∈ wA := wA_of_8 52 rfl rfl
set_option maxRecDepth 100000 in
theorem wd_1733 : (Jvm.Cond.methodLink "LateFallsModel" (386 : Nat) ({ cls := "LateFallsModel", name := "lets", desc := "(III)I" } : Jvm.MethodName)) ∈ wA := wA_of_8 53 rfl rfl
set_option maxRecDepth 100000 in
theorem wd_1735 : (Jvm.Cond.instanceMethod ({ cls := "LateFallsModel", name := "lets", desc := "(III)I" } : Jvm.MethodName)) ∈ wA := wA_of_8 55 rfl rfl
set_option maxRecDepth 100000 in
theorem wd_1736 : (Jvm.Cond.code ({ cls := "LateFallsModel", name := "lets", desc := "(III)I" } : Jvm.MethodName) prog_13_method_65_code (5 : Nat) (Option.some Jvm.ClassFile.FieldType.int)) ∈ wA := wA_of_8 56 rfl rfl
set_option maxRecDepth 100000 in
theorem wd_1737 : (Jvm.Cond.methodLink "LateFallsModel" (348 : Nat) ({ cls := "LateFallsModel", name := "drops", desc := "(II)V" } : Jvm.MethodName)) ∈ wA := wA_of_8 57 rfl rfl
set_option maxRecDepth 100000 in
theorem wd_1739 : (Jvm.Cond.instanceMethod ({ cls := "LateFallsModel", name := "drops", desc := "(II)V" } : Jvm.MethodName)) ∈ wA := wA_of_8 59 rfl rfl
set_option maxRecDepth 100000 in
theorem wd_1740 : (Jvm.Cond.code ({ cls := "LateFallsModel", name := "drops", desc := "(II)V" } : Jvm.MethodName) prog_13_method_60_code (8 : Nat) (Option.none : Option Jvm.ClassFile.FieldType)) ∈ wA := wA_of_8 60 rfl rfl
set_option maxRecDepth 100000 in
theorem wd_1741 : (Jvm.Cond.methodLink "LateFallsModel" (336 : Nat) ({ cls := "LateFallsModel", name := "fallingWith", desc := "(II)I" } : Jvm.MethodName)) ∈ wA := wA_of_8 61 rfl rfl
set_option maxRecDepth 100000 in
theorem wd_1743 : (Jvm.Cond.instanceMethod ({ cls := "LateFallsModel", name := "fallingWith", desc := "(II)I" } : Jvm.MethodName)) ∈ wA := wA_of_8 63 rfl rfl
set_option maxRecDepth 100000 in
theorem wd_1744 : (Jvm.Cond.code ({ cls := "LateFallsModel", name := "fallingWith", desc := "(II)I" } : Jvm.MethodName) prog_13_method_58_code (6 : Nat) (Option.some Jvm.ClassFile.FieldType.int)) ∈ wA := wA_of_8 64 rfl rfl
set_option maxRecDepth 100000 in
theorem wd_1745 : (Jvm.Cond.methodLink "LateFallsModel" (320 : Nat) ({ cls := "LateFallsModel", name := "hangsIn", desc := "(II)Z" } : Jvm.MethodName)) ∈ wA := wA_of_8 65 rfl rfl
set_option maxRecDepth 100000 in
theorem wd_1747 : (Jvm.Cond.instanceMethod ({ cls := "LateFallsModel", name := "hangsIn", desc := "(II)Z" } : Jvm.MethodName)) ∈ wA := wA_of_8 67 rfl rfl
set_option maxRecDepth 100000 in
theorem wd_1748 : (Jvm.Cond.code ({ cls := "LateFallsModel", name := "hangsIn", desc := "(II)Z" } : Jvm.MethodName) prog_13_method_57_code (3 : Nat) (Option.some Jvm.ClassFile.FieldType.boolean)) ∈ wA := wA_of_8 68 rfl rfl
set_option maxRecDepth 100000 in
theorem wd_1749 : (Jvm.Cond.methodLink "LateFallsModel" (323 : Nat) ({ cls := "LateFallsModel", name := "has", desc := "(II)Z" } : Jvm.MethodName)) ∈ wA := wA_of_8 69 rfl rfl
set_option maxRecDepth 100000 in
theorem wd_1750 : (Jvm.Cond.static ({ cls := "LateFallsModel", name := "has", desc := "(II)Z" } : Jvm.MethodName)) ∈ wA := wA_of_8 70 rfl rfl
set_option maxRecDepth 100000 in
theorem wd_1751 : (Jvm.Cond.code ({ cls := "LateFallsModel", name := "has", desc := "(II)Z" } : Jvm.MethodName) prog_13_method_5_code (2 : Nat) (Option.some Jvm.ClassFile.FieldType.boolean)) ∈ wA := wA_of_8 71 rfl rfl
set_option maxRecDepth 100000 in
theorem wd_1752 : (Jvm.Cond.methodLink "LateFallsModel" (326 : Nat) ({ cls := "LateFallsModel", name := "comesToo", desc := "(III)Z" } : Jvm.MethodName)) ∈ wA := wA_of_8 72 rfl rfl
set_option maxRecDepth 100000 in
theorem wd_1754 : (Jvm.Cond.instanceMethod ({ cls := "LateFallsModel", name := "comesToo", desc := "(III)Z" } : Jvm.MethodName)) ∈ wA := wA_of_8 74 rfl rfl
set_option maxRecDepth 100000 in
theorem wd_1755 : (Jvm.Cond.code ({ cls := "LateFallsModel", name := "comesToo", desc := "(III)Z" } : Jvm.MethodName) prog_13_method_59_code (5 : Nat) (Option.some Jvm.ClassFile.FieldType.boolean)) ∈ wA := wA_of_8 75 rfl rfl
set_option maxRecDepth 100000 in
theorem wd_1756 : (Jvm.Cond.methodLink "LateFallsModel" (330 : Nat) ({ cls := "LateFallsModel", name := "size", desc := "(I)I" } : Jvm.MethodName)) ∈ wA := wA_of_8 76 rfl rfl
set_option maxRecDepth 100000 in
theorem wd_1757 : (Jvm.Cond.static ({ cls := "LateFallsModel", name := "size", desc := "(I)I" } : Jvm.MethodName)) ∈ wA := wA_of_8 77 rfl rfl
set_option maxRecDepth 100000 in
theorem wd_1758 : (Jvm.Cond.code ({ cls := "LateFallsModel", name := "size", desc := "(I)I" } : Jvm.MethodName) prog_13_method_6_code (3 : Nat) (Option.some Jvm.ClassFile.FieldType.int)) ∈ wA := wA_of_8 78 rfl rfl
set_option maxRecDepth 100000 in
theorem wd_1759 : (Jvm.Cond.methodLink "LateFallsModel" (333 : Nat) ({ cls := "LateFallsModel", name := "setsFree", desc := "(II)Z" } : Jvm.MethodName)) ∈ wA := wA_of_8 79 rfl rfl
set_option maxRecDepth 100000 in
theorem wd_1761 : (Jvm.Cond.instanceMethod ({ cls := "LateFallsModel", name := "setsFree", desc := "(II)Z" } : Jvm.MethodName)) ∈ wA := wA_of_8 81 rfl rfl
set_option maxRecDepth 100000 in
theorem wd_1762 : (Jvm.Cond.code ({ cls := "LateFallsModel", name := "setsFree", desc := "(II)Z" } : Jvm.MethodName) prog_13_method_56_code (3 : Nat) (Option.some Jvm.ClassFile.FieldType.boolean)) ∈ wA := wA_of_8 82 rfl rfl
set_option maxRecDepth 100000 in
theorem wd_1763 : (Jvm.Cond.methodLink "LateFallsLaw" (184 : Nat) ({ cls := "LateFallsModel", name := "take", desc := "(I)I" } : Jvm.MethodName)) ∈ wA := wA_of_8 83 rfl rfl
set_option maxRecDepth 100000 in
theorem wd_1764 : (Jvm.Cond.instanceMethod ({ cls := "LateFallsModel", name := "take", desc := "(I)I" } : Jvm.MethodName)) ∈ wA := wA_of_8 84 rfl rfl
set_option maxRecDepth 100000 in
theorem wd_1765 : (Jvm.Cond.selects "LateFallsModel" ({ cls := "LateFallsModel", name := "take", desc := "(I)I" } : Jvm.MethodName) ({ cls := "LateFallsModel", name := "take", desc := "(I)I" } : Jvm.MethodName)) ∈ wA := wA_of_8 85 rfl rfl
set_option maxRecDepth 100000 in
theorem wd_1766 : (Jvm.Cond.code ({ cls := "LateFallsModel", name := "take", desc := "(I)I" } : Jvm.MethodName) prog_13_method_78_code (3 : Nat) (Option.some Jvm.ClassFile.FieldType.int)) ∈ wA := wA_of_8 86 rfl rfl
set_option maxRecDepth 100000 in
theorem wd_1767 : (Jvm.Cond.methodLink "LateFallsModel" (390 : Nat) ({ cls := "LateFallsModel", name := "whyTake", desc := "(J)I" } : Jvm.MethodName)) ∈ wA := wA_of_8 87 rfl rfl
set_option maxRecDepth 100000 in
theorem wd_1769 : (Jvm.Cond.instanceMethod ({ cls := "LateFallsModel", name := "whyTake", desc := "(J)I" } : Jvm.MethodName)) ∈ wA := wA_of_8 89 rfl rfl
set_option maxRecDepth 100000 in
theorem wd_1770 : (Jvm.Cond.code ({ cls := "LateFallsModel", name := "whyTake", desc := "(J)I" } : Jvm.MethodName) prog_13_method_75_code (4 : Nat) (Option.some Jvm.ClassFile.FieldType.int)) ∈ wA := wA_of_8 90 rfl rfl
set_option maxRecDepth 100000 in
theorem wd_1771 : (Jvm.Cond.methodLink "LateFallsModel" (393 : Nat) ({ cls := "LateFallsModel", name := "takes", desc := "(I)V" } : Jvm.MethodName)) ∈ wA := wA_of_8 91 rfl rfl
set_option maxRecDepth 100000 in
theorem wd_1773 : (Jvm.Cond.instanceMethod ({ cls := "LateFallsModel", name := "takes", desc := "(I)V" } : Jvm.MethodName)) ∈ wA := wA_of_8 93 rfl rfl
set_option maxRecDepth 100000 in
theorem wd_1774 : (Jvm.Cond.code ({ cls := "LateFallsModel", name := "takes", desc := "(I)V" } : Jvm.MethodName) prog_13_method_76_code (2 : Nat) (Option.none : Option Jvm.ClassFile.FieldType)) ∈ wA := wA_of_8 94 rfl rfl
set_option maxRecDepth 100000 in
theorem wd_1775 : (Jvm.Cond.methodLink "LateFallsLaw" (189 : Nat) ({ cls := "LateFallsModel", name := "quake", desc := "()I" } : Jvm.MethodName)) ∈ wA := wA_of_8 95 rfl rfl
set_option maxRecDepth 100000 in
theorem wd_1776 : (Jvm.Cond.instanceMethod ({ cls := "LateFallsModel", name := "quake", desc := "()I" } : Jvm.MethodName)) ∈ wA := wA_of_8 96 rfl rfl
set_option maxRecDepth 100000 in
theorem wd_1777 : (Jvm.Cond.selects "LateFallsModel" ({ cls := "LateFallsModel", name := "quake", desc := "()I" } : Jvm.MethodName) ({ cls := "LateFallsModel", name := "quake", desc := "()I" } : Jvm.MethodName)) ∈ wA := wA_of_8 97 rfl rfl
set_option maxRecDepth 100000 in
theorem wd_1778 : (Jvm.Cond.code ({ cls := "LateFallsModel", name := "quake", desc := "()I" } : Jvm.MethodName) prog_13_method_80_code (1 : Nat) (Option.some Jvm.ClassFile.FieldType.int)) ∈ wA := wA_of_8 98 rfl rfl
set_option maxRecDepth 100000 in
theorem wd_1779 : (Jvm.Cond.methodLink "LateFallsModel" (396 : Nat) ({ cls := "LateFallsModel", name := "quakes", desc := "()I" } : Jvm.MethodName)) ∈ wA := wA_of_8 99 rfl rfl
set_option maxRecDepth 100000 in
theorem wd_1781 : (Jvm.Cond.instanceMethod ({ cls := "LateFallsModel", name := "quakes", desc := "()I" } : Jvm.MethodName)) ∈ wA := wA_of_8 101 rfl rfl
set_option maxRecDepth 100000 in
theorem wd_1782 : (Jvm.Cond.code ({ cls := "LateFallsModel", name := "quakes", desc := "()I" } : Jvm.MethodName) prog_13_method_79_code (1 : Nat) (Option.some Jvm.ClassFile.FieldType.int)) ∈ wA := wA_of_8 102 rfl rfl
set_option maxRecDepth 100000 in
theorem wd_1783 : (Jvm.Cond.methodLink "LateFallsModel" (351 : Nat) ({ cls := "LateFallsModel", name := "fallAll", desc := "(Z)V" } : Jvm.MethodName)) ∈ wA := wA_of_8 103 rfl rfl
set_option maxRecDepth 100000 in
theorem wd_1785 : (Jvm.Cond.instanceMethod ({ cls := "LateFallsModel", name := "fallAll", desc := "(Z)V" } : Jvm.MethodName)) ∈ wA := wA_of_8 105 rfl rfl
set_option maxRecDepth 100000 in
theorem wd_1786 : (Jvm.Cond.code ({ cls := "LateFallsModel", name := "fallAll", desc := "(Z)V" } : Jvm.MethodName) prog_13_method_61_code (5 : Nat) (Option.none : Option Jvm.ClassFile.FieldType)) ∈ wA := wA_of_8 106 rfl rfl
set_option maxRecDepth 100000 in
theorem wd_1787 : (Jvm.Cond.methodLink "LateFallsLaw" (192 : Nat) ({ cls := "LateFallsModel", name := "hours", desc := "(I)I" } : Jvm.MethodName)) ∈ wA := wA_of_8 107 rfl rfl
set_option maxRecDepth 100000 in
theorem wd_1788 : (Jvm.Cond.instanceMethod ({ cls := "LateFallsModel", name := "hours", desc := "(I)I" } : Jvm.MethodName)) ∈ wA := wA_of_8 108 rfl rfl
set_option maxRecDepth 100000 in
theorem wd_1789 : (Jvm.Cond.selects "LateFallsModel" ({ cls := "LateFallsModel", name := "hours", desc := "(I)I" } : Jvm.MethodName) ({ cls := "LateFallsModel", name := "hours", desc := "(I)I" } : Jvm.MethodName)) ∈ wA := wA_of_8 109 rfl rfl
set_option maxRecDepth 100000 in
theorem wd_1790 : (Jvm.Cond.code ({ cls := "LateFallsModel", name := "hours", desc := "(I)I" } : Jvm.MethodName) prog_13_method_81_code (4 : Nat) (Option.some Jvm.ClassFile.FieldType.int)) ∈ wA := wA_of_8 110 rfl rfl
set_option maxRecDepth 100000 in
theorem wd_1791 : (Jvm.Cond.constantLong "LateFallsModel" (399 : Nat) (99 : Int64)) ∈ wA := wA_of_8 111 rfl rfl
set_option maxRecDepth 100000 in
theorem wd_1792 : (Jvm.Cond.methodLink "LateFallsModel" (401 : Nat) ({ cls := "LateFallsModel", name := "hour", desc := "()V" } : Jvm.MethodName)) ∈ wA := wA_of_8 112 rfl rfl
set_option maxRecDepth 100000 in
theorem wd_1794 : (Jvm.Cond.instanceMethod ({ cls := "LateFallsModel", name := "hour", desc := "()V" } : Jvm.MethodName)) ∈ wA := wA_of_8 114 rfl rfl
set_option maxRecDepth 100000 in
theorem wd_1795 : (Jvm.Cond.code ({ cls := "LateFallsModel", name := "hour", desc := "()V" } : Jvm.MethodName) prog_13_method_63_code (1 : Nat) (Option.none : Option Jvm.ClassFile.FieldType)) ∈ wA := wA_of_8 115 rfl rfl
set_option maxRecDepth 100000 in
theorem wd_1796 : (Jvm.Cond.methodLink "LateFallsModel" (355 : Nat) ({ cls := "LateFallsModel", name := "goesTo", desc := "(I)V" } : Jvm.MethodName)) ∈ wA := wA_of_8 116 rfl rfl
set_option maxRecDepth 100000 in
theorem wd_1798 : (Jvm.Cond.instanceMethod ({ cls := "LateFallsModel", name := "goesTo", desc := "(I)V" } : Jvm.MethodName)) ∈ wA := wA_of_8 118 rfl rfl
set_option maxRecDepth 100000 in
theorem wd_1799 : (Jvm.Cond.code ({ cls := "LateFallsModel", name := "goesTo", desc := "(I)V" } : Jvm.MethodName) prog_13_method_62_code (2 : Nat) (Option.none : Option Jvm.ClassFile.FieldType)) ∈ wA := wA_of_8 119 rfl rfl
set_option maxRecDepth 100000 in
theorem wd_1800 : (Jvm.Cond.methodLink "LateFallsLaw" (195 : Nat) ({ cls := "LateFallsModel", name := "undo", desc := "(I)I" } : Jvm.MethodName)) ∈ wA := wA_of_8 120 rfl rfl
set_option maxRecDepth 100000 in
theorem wd_1801 : (Jvm.Cond.instanceMethod ({ cls := "LateFallsModel", name := "undo", desc := "(I)I" } : Jvm.MethodName)) ∈ wA := wA_of_8 121 rfl rfl
set_option maxRecDepth 100000 in
theorem wd_1802 : (Jvm.Cond.selects "LateFallsModel" ({ cls := "LateFallsModel", name := "undo", desc := "(I)I" } : Jvm.MethodName) ({ cls := "LateFallsModel", name := "undo", desc := "(I)I" } : Jvm.MethodName)) ∈ wA := wA_of_8 122 rfl rfl
set_option maxRecDepth 100000 in
theorem wd_1803 : (Jvm.Cond.code ({ cls := "LateFallsModel", name := "undo", desc := "(I)I" } : Jvm.MethodName) prog_13_method_82_code (3 : Nat) (Option.some Jvm.ClassFile.FieldType.int)) ∈ wA := wA_of_8 123 rfl rfl
set_option maxRecDepth 100000 in
theorem wd_1804 : (Jvm.Cond.constantLong "LateFallsModel" (403 : Nat) (10 : Int64)) ∈ wA := wA_of_8 124 rfl rfl
set_option maxRecDepth 100000 in
theorem wd_1805 : (Jvm.Cond.methodLink "LateFallsLaw" (198 : Nat) ({ cls := "LateFallsModel", name := "judge", desc := "(II)I" } : Jvm.MethodName)) ∈ wA := wA_of_8 125 rfl rfl
set_option maxRecDepth 100000 in
theorem wd_1806 : (Jvm.Cond.instanceMethod ({ cls := "LateFallsModel", name := "judge", desc := "(II)I" } : Jvm.MethodName)) ∈ wA := wA_of_8 126 rfl rfl
set_option maxRecDepth 100000 in
theorem wd_1807 : (Jvm.Cond.selects "LateFallsModel" ({ cls := "LateFallsModel", name := "judge", desc := "(II)I" } : Jvm.MethodName) ({ cls := "LateFallsModel", name := "judge", desc := "(II)I" } : Jvm.MethodName)) ∈ wA := wA_of_8 127 rfl rfl
set_option maxRecDepth 100000 in
theorem wd_1808 : (Jvm.Cond.code ({ cls := "LateFallsModel", name := "judge", desc := "(II)I" } : Jvm.MethodName) prog_13_method_88_code (7 : Nat) (Option.some Jvm.ClassFile.FieldType.int)) ∈ wA := wA_of_8 128 rfl rfl
set_option maxRecDepth 100000 in
theorem wd_1809 : (Jvm.Cond.methodLink "LateFallsModel" (420 : Nat) ({ cls := "LateFallsModel", name := "trayFault", desc := "(I)I" } : Jvm.MethodName)) ∈ wA := wA_of_8 129 rfl rfl
set_option maxRecDepth 100000 in
theorem wd_1811 : (Jvm.Cond.instanceMethod ({ cls := "LateFallsModel", name := "trayFault", desc := "(I)I" } : Jvm.MethodName)) ∈ wA := wA_of_8 131 rfl rfl
set_option maxRecDepth 100000 in
theorem wd_1812 : (Jvm.Cond.code ({ cls := "LateFallsModel", name := "trayFault", desc := "(I)I" } : Jvm.MethodName) prog_13_method_83_code (2 : Nat) (Option.some Jvm.ClassFile.FieldType.int)) ∈ wA := wA_of_8 132 rfl rfl
set_option maxRecDepth 100000 in
theorem wd_1813 : (Jvm.Cond.methodLink "LateFallsModel" (405 : Nat) ({ cls := "LateFallsModel", name := "isTray", desc := "(I)Z" } : Jvm.MethodName)) ∈ wA := wA_of_8 133 rfl rfl
set_option maxRecDepth 100000 in
theorem wd_1814 : (Jvm.Cond.static ({ cls := "LateFallsModel", name := "isTray", desc := "(I)Z" } : Jvm.MethodName)) ∈ wA := wA_of_8 134 rfl rfl
set_option maxRecDepth 100000 in
theorem wd_1815 : (Jvm.Cond.code ({ cls := "LateFallsModel", name := "isTray", desc := "(I)Z" } : Jvm.MethodName) prog_13_method_133_code (1 : Nat) (Option.some Jvm.ClassFile.FieldType.boolean)) ∈ wA := wA_of_8 135 rfl rfl
set_option maxRecDepth 100000 in
theorem wd_1816 : (Jvm.Cond.constantLong "LateFallsModel" (423 : Nat) (3 : Int64)) ∈ wA := wA_of_8 136 rfl rfl
set_option maxRecDepth 100000 in
theorem wd_1817 : (Jvm.Cond.methodLink "LateFallsModel" (425 : Nat) ({ cls := "LateFallsModel", name := "putsAside", desc := "()V" } : Jvm.MethodName)) ∈ wA := wA_of_8 137 rfl rfl
set_option maxRecDepth 100000 in
theorem wd_1819 : (Jvm.Cond.instanceMethod ({ cls := "LateFallsModel", name := "putsAside", desc := "()V" } : Jvm.MethodName)) ∈ wA := wA_of_8 139 rfl rfl
set_option maxRecDepth 100000 in
theorem wd_1820 : (Jvm.Cond.code ({ cls := "LateFallsModel", name := "putsAside", desc := "()V" } : Jvm.MethodName) prog_13_method_72_code (2 : Nat) (Option.none : Option Jvm.ClassFile.FieldType)) ∈ wA := wA_of_8 140 rfl rfl
set_option maxRecDepth 100000 in
theorem wd_1821 : (Jvm.Cond.methodLink "LateFallsModel" (428 : Nat) ({ cls := "LateFallsModel", name := "whyTold", desc := "(J)I" } : Jvm.MethodName)) ∈ wA := wA_of_8 141 rfl rfl
set_option maxRecDepth 100000 in
theorem wd_1823 : (Jvm.Cond.instanceMethod ({ cls := "LateFallsModel", name := "whyTold", desc := "(J)I" } : Jvm.MethodName)) ∈ wA := wA_of_8 143 rfl rfl
set_option maxRecDepth 100000 in
theorem wd_1824 : (Jvm.Cond.code ({ cls := "LateFallsModel", name := "whyTold", desc := "(J)I" } : Jvm.MethodName) prog_13_method_84_code (3 : Nat) (Option.some Jvm.ClassFile.FieldType.int)) ∈ wA := wA_of_8 144 rfl rfl
set_option maxRecDepth 100000 in
theorem wd_1825 : (Jvm.Cond.constantLong "LateFallsModel" (408 : Nat) (-1 : Int64)) ∈ wA := wA_of_8 145 rfl rfl
set_option maxRecDepth 100000 in
theorem wd_1826 : (Jvm.Cond.constantLong "LateFallsModel" (410 : Nat) (2000 : Int64)) ∈ wA := wA_of_8 146 rfl rfl
set_option maxRecDepth 100000 in
theorem wd_1827 : (Jvm.Cond.constantLong "LateFallsModel" (412 : Nat) (799 : Int64)) ∈ wA := wA_of_8 147 rfl rfl
set_option maxRecDepth 100000 in
theorem wd_1828 : (Jvm.Cond.constantLong "LateFallsModel" (414 : Nat) (100 : Int64)) ∈ wA := wA_of_8 148 rfl rfl
set_option maxRecDepth 100000 in
theorem wd_1829 : (Jvm.Cond.constantLong "LateFallsModel" (416 : Nat) (1000 : Int64)) ∈ wA := wA_of_8 149 rfl rfl
set_option maxRecDepth 100000 in
theorem wd_1830 : (Jvm.Cond.constantLong "LateFallsModel" (418 : Nat) (1099 : Int64)) ∈ wA := wA_of_8 150 rfl rfl
set_option maxRecDepth 100000 in
theorem wd_1831 : (Jvm.Cond.methodLink "LateFallsModel" (431 : Nat) ({ cls := "LateFallsModel", name := "does", desc := "(I)V" } : Jvm.MethodName)) ∈ wA := wA_of_8 151 rfl rfl
set_option maxRecDepth 100000 in
theorem wd_1833 : (Jvm.Cond.instanceMethod ({ cls := "LateFallsModel", name := "does", desc := "(I)V" } : Jvm.MethodName)) ∈ wA := wA_of_8 153 rfl rfl
set_option maxRecDepth 100000 in
theorem wd_1834 : (Jvm.Cond.code ({ cls := "LateFallsModel", name := "does", desc := "(I)V" } : Jvm.MethodName) prog_13_method_85_code (2 : Nat) (Option.none : Option Jvm.ClassFile.FieldType)) ∈ wA := wA_of_8 154 rfl rfl
set_option maxRecDepth 100000 in
theorem wd_1835 : (Jvm.Cond.methodLink "LateFallsModel" (434 : Nat) ({ cls := "LateFallsModel", name := "lyingAll", desc := "()I" } : Jvm.MethodName)) ∈ wA := wA_of_8 155 rfl rfl
set_option maxRecDepth 100000 in
theorem wd_1837 : (Jvm.Cond.instanceMethod ({ cls := "LateFallsModel", name := "lyingAll", desc := "()I" } : Jvm.MethodName)) ∈ wA := wA_of_8 157 rfl rfl
set_option maxRecDepth 100000 in
theorem wd_1838 : (Jvm.Cond.code ({ cls := "LateFallsModel", name := "lyingAll", desc := "()I" } : Jvm.MethodName) prog_13_method_86_code (3 : Nat) (Option.some Jvm.ClassFile.FieldType.int)) ∈ wA := wA_of_8 158 rfl rfl
set_option maxRecDepth 100000 in
theorem wd_1839 : (Jvm.Cond.methodLink "LateFallsModel" (437 : Nat) ({ cls := "LateFallsModel", name := "hurtAll", desc := "()I" } : Jvm.MethodName)) ∈ wA := wA_of_8 159 rfl rfl
set_option maxRecDepth 100000 in
theorem wd_1841 : (Jvm.Cond.instanceMethod ({ cls := "LateFallsModel", name := "hurtAll", desc := "()I" } : Jvm.MethodName)) ∈ wA := wA_of_8 161 rfl rfl
set_option maxRecDepth 100000 in
theorem wd_1842 : (Jvm.Cond.code ({ cls := "LateFallsModel", name := "hurtAll", desc := "()I" } : Jvm.MethodName) prog_13_method_87_code (3 : Nat) (Option.some Jvm.ClassFile.FieldType.int)) ∈ wA := wA_of_8 162 rfl rfl
set_option maxRecDepth 100000 in
theorem wd_1843 : (Jvm.Cond.methodLink "LateFallsModel" (440 : Nat) ({ cls := "LateFallsModel", name := "putsBack", desc := "()V" } : Jvm.MethodName)) ∈ wA := wA_of_8 163 rfl rfl
set_option maxRecDepth 100000 in
theorem wd_1845 : (Jvm.Cond.instanceMethod ({ cls := "LateFallsModel", name := "putsBack", desc := "()V" } : Jvm.MethodName)) ∈ wA := wA_of_8 165 rfl rfl
set_option maxRecDepth 100000 in
theorem wd_1846 : (Jvm.Cond.code ({ cls := "LateFallsModel", name := "putsBack", desc := "()V" } : Jvm.MethodName) prog_13_method_73_code (2 : Nat) (Option.none : Option Jvm.ClassFile.FieldType)) ∈ wA := wA_of_8 166 rfl rfl
set_option maxRecDepth 100000 in
theorem wd_1847 : (Jvm.Cond.methodLink "LateFallsLaw" (201 : Nat) ({ cls := "LateFallsModel", name := "perform", desc := "(I)I" } : Jvm.MethodName)) ∈ wA := wA_of_8 167 rfl rfl
set_option maxRecDepth 100000 in
theorem wd_1848 : (Jvm.Cond.instanceMethod ({ cls := "LateFallsModel", name := "perform", desc := "(I)I" } : Jvm.MethodName)) ∈ wA := wA_of_8 168 rfl rfl
set_option maxRecDepth 100000 in
theorem wd_1849 : (Jvm.Cond.selects "LateFallsModel" ({ cls := "LateFallsModel", name := "perform", desc := "(I)I" } : Jvm.MethodName) ({ cls := "LateFallsModel", name := "perform", desc := "(I)I" } : Jvm.MethodName)) ∈ wA := wA_of_8 169 rfl rfl
set_option maxRecDepth 100000 in
theorem wd_1850 : (Jvm.Cond.code ({ cls := "LateFallsModel", name := "perform", desc := "(I)I" } : Jvm.MethodName) prog_13_method_89_code (3 : Nat) (Option.some Jvm.ClassFile.FieldType.int)) ∈ wA := wA_of_8 170 rfl rfl
set_option maxRecDepth 100000 in
theorem wd_1851 : (Jvm.Cond.methodLink "LateFallsLaw" (204 : Nat) ({ cls := "LateFallsModel", name := "season", desc := "(II)I" } : Jvm.MethodName)) ∈ wA := wA_of_8 171 rfl rfl
set_option maxRecDepth 100000 in
theorem wd_1852 : (Jvm.Cond.instanceMethod ({ cls := "LateFallsModel", name := "season", desc := "(II)I" } : Jvm.MethodName)) ∈ wA := wA_of_8 172 rfl rfl
set_option maxRecDepth 100000 in
theorem wd_1853 : (Jvm.Cond.selects "LateFallsModel" ({ cls := "LateFallsModel", name := "season", desc := "(II)I" } : Jvm.MethodName) ({ cls := "LateFallsModel", name := "season", desc := "(II)I" } : Jvm.MethodName)) ∈ wA := wA_of_8 173 rfl rfl
set_option maxRecDepth 100000 in
theorem wd_1854 : (Jvm.Cond.code ({ cls := "LateFallsModel", name := "season", desc := "(II)I" } : Jvm.MethodName) prog_13_method_91_code (7 : Nat) (Option.some Jvm.ClassFile.FieldType.int)) ∈ wA := wA_of_8 174 rfl rfl
set_option maxRecDepth 100000 in
theorem wd_1855 : (Jvm.Cond.constantLong "LateFallsModel" (447 : Nat) (30 : Int64)) ∈ wA := wA_of_8 175 rfl rfl
set_option maxRecDepth 100000 in
theorem wd_1856 : (Jvm.Cond.methodLink "LateFallsModel" (449 : Nat) ({ cls := "LateFallsModel", name := "draw", desc := "(I)I" } : Jvm.MethodName)) ∈ wA := wA_of_8 176 rfl rfl
set_option maxRecDepth 100000 in
theorem wd_1858 : (Jvm.Cond.instanceMethod ({ cls := "LateFallsModel", name := "draw", desc := "(I)I" } : Jvm.MethodName)) ∈ wA := wA_of_8 178 rfl rfl
set_option maxRecDepth 100000 in
theorem wd_1859 : (Jvm.Cond.code ({ cls := "LateFallsModel", name := "draw", desc := "(I)I" } : Jvm.MethodName) prog_13_method_90_code (2 : Nat) (Option.some Jvm.ClassFile.FieldType.int)) ∈ wA := wA_of_8 179 rfl rfl
set_option maxRecDepth 100000 in
theorem wd_1860 : (Jvm.Cond.constant "LateFallsModel" (443 : Nat) (1103515245 : Int32)) ∈ wA := wA_of_8 180 rfl rfl
set_option maxRecDepth 100000 in
theorem wd_1861 : (Jvm.Cond.methodLink "LateFallsLaw" (207 : Nat) ({ cls := "LateFallsModel", name := "falls", desc := "(I)I" } : Jvm.MethodName)) ∈ wA := wA_of_8 181 rfl rfl
set_option maxRecDepth 100000 in
theorem wd_1862 : (Jvm.Cond.instanceMethod ({ cls := "LateFallsModel", name := "falls", desc := "(I)I" } : Jvm.MethodName)) ∈ wA := wA_of_8 182 rfl rfl
set_option maxRecDepth 100000 in
theorem wd_1863 : (Jvm.Cond.selects "LateFallsModel" ({ cls := "LateFallsModel", name := "falls", desc := "(I)I" } : Jvm.MethodName) ({ cls := "LateFallsModel", name := "falls", desc := "(I)I" } : Jvm.MethodName)) ∈ wA := wA_of_8 183 rfl rfl
set_option maxRecDepth 100000 in
theorem wd_1864 : (Jvm.Cond.code ({ cls := "LateFallsModel", name := "falls", desc := "(I)I" } : Jvm.MethodName) prog_13_method_92_code (2 : Nat) (Option.some Jvm.ClassFile.FieldType.int)) ∈ wA := wA_of_8 184 rfl rfl
set_option maxRecDepth 100000 in
theorem wd_1865 : (Jvm.Cond.methodLink "LateFallsModel" (452 : Nat) ({ cls := "LateFallsModel", name := "fallsIn", desc := "(I)I" } : Jvm.MethodName)) ∈ wA := wA_of_8 185 rfl rfl
set_option maxRecDepth 100000 in
theorem wd_1867 : (Jvm.Cond.instanceMethod ({ cls := "LateFallsModel", name := "fallsIn", desc := "(I)I" } : Jvm.MethodName)) ∈ wA := wA_of_8 187 rfl rfl
set_option maxRecDepth 100000 in
theorem wd_1868 : (Jvm.Cond.code ({ cls := "LateFallsModel", name := "fallsIn", desc := "(I)I" } : Jvm.MethodName) prog_13_method_93_code (4 : Nat) (Option.some Jvm.ClassFile.FieldType.int)) ∈ wA := wA_of_8 188 rfl rfl
set_option maxRecDepth 100000 in
theorem wd_1869 : (Jvm.Cond.methodLink "LateFallsModel" (455 : Nat) ({ cls := "LateFallsModel", name := "nextHour", desc := "()I" } : Jvm.MethodName)) ∈ wA := wA_of_8 189 rfl rfl
set_option maxRecDepth 100000 in
theorem wd_1871 : (Jvm.Cond.instanceMethod ({ cls := "LateFallsModel", name := "nextHour", desc := "()I" } : Jvm.MethodName)) ∈ wA := wA_of_8 191 rfl rfl
set_option maxRecDepth 100000 in
theorem wd_1872 : (Jvm.Cond.code ({ cls := "LateFallsModel", name := "nextHour", desc := "()I" } : Jvm.MethodName) prog_13_method_64_code (3 : Nat) (Option.some Jvm.ClassFile.FieldType.int)) ∈ wA := wA_of_8 192 rfl rfl
set_option maxRecDepth 100000 in
theorem wd_1873 : (Jvm.Cond.constant "LateFallsModel" (358 : Nat) (536870912 : Int32)) ∈ wA := wA_of_8 193 rfl rfl
set_option maxRecDepth 100000 in
theorem wd_1874 : (Jvm.Cond.methodLink "LateFallsLaw" (210 : Nat) ({ cls := "LateFallsModel", name := "lands", desc := "(I)I" } : Jvm.MethodName)) ∈ wA := wA_of_8 194 rfl rfl
set_option maxRecDepth 100000 in
theorem wd_1875 : (Jvm.Cond.instanceMethod ({ cls := "LateFallsModel", name := "lands", desc := "(I)I" } : Jvm.MethodName)) ∈ wA := wA_of_8 195 rfl rfl
set_option maxRecDepth 100000 in
theorem wd_1876 : (Jvm.Cond.selects "LateFallsModel" ({ cls := "LateFallsModel", name := "lands", desc := "(I)I" } : Jvm.MethodName) ({ cls := "LateFallsModel", name := "lands", desc := "(I)I" } : Jvm.MethodName)) ∈ wA := wA_of_8 196 rfl rfl
set_option maxRecDepth 100000 in
theorem wd_1877 : (Jvm.Cond.code ({ cls := "LateFallsModel", name := "lands", desc := "(I)I" } : Jvm.MethodName) prog_13_method_94_code (2 : Nat) (Option.some Jvm.ClassFile.FieldType.int)) ∈ wA := wA_of_8 197 rfl rfl
set_option maxRecDepth 100000 in
theorem wd_1878 : (Jvm.Cond.methodLink "LateFallsLaw" (213 : Nat) ({ cls := "LateFallsModel", name := "fallIn", desc := "(I)I" } : Jvm.MethodName)) ∈ wA := wA_of_8 198 rfl rfl
set_option maxRecDepth 100000 in
theorem wd_1879 : (Jvm.Cond.instanceMethod ({ cls := "LateFallsModel", name := "fallIn", desc := "(I)I" } : Jvm.MethodName)) ∈ wA := wA_of_8 199 rfl rfl
set_option maxRecDepth 100000 in
theorem wd_1880 : (Jvm.Cond.selects "LateFallsModel" ({ cls := "LateFallsModel", name := "fallIn", desc := "(I)I" } : Jvm.MethodName) ({ cls := "LateFallsModel", name := "fallIn", desc := "(I)I" } : Jvm.MethodName)) ∈ wA := wA_of_8 200 rfl rfl
set_option maxRecDepth 100000 in
theorem wd_1881 : (Jvm.Cond.code ({ cls := "LateFallsModel", name := "fallIn", desc := "(I)I" } : Jvm.MethodName) prog_13_method_96_code (4 : Nat) (Option.some Jvm.ClassFile.FieldType.int)) ∈ wA := wA_of_8 201 rfl rfl
set_option maxRecDepth 100000 in
theorem wd_1882 : (Jvm.Cond.methodLink "LateFallsModel" (461 : Nat) ({ cls := "LateFallsModel", name := "nextFall", desc := "(I)Z" } : Jvm.MethodName)) ∈ wA := wA_of_8 202 rfl rfl
set_option maxRecDepth 100000 in
theorem wd_1884 : (Jvm.Cond.instanceMethod ({ cls := "LateFallsModel", name := "nextFall", desc := "(I)Z" } : Jvm.MethodName)) ∈ wA := wA_of_8 204 rfl rfl
set_option maxRecDepth 100000 in
theorem wd_1885 : (Jvm.Cond.code ({ cls := "LateFallsModel", name := "nextFall", desc := "(I)Z" } : Jvm.MethodName) prog_13_method_95_code (3 : Nat) (Option.some Jvm.ClassFile.FieldType.boolean)) ∈ wA := wA_of_8 205 rfl rfl
set_option maxRecDepth 100000 in
theorem wd_1886 : (Jvm.Cond.methodLink "LateFallsLaw" (217 : Nat) ({ cls := "LateFallsModel", name := "next", desc := "()I" } : Jvm.MethodName)) ∈ wA := wA_of_8 206 rfl rfl
set_option maxRecDepth 100000 in
theorem wd_1887 : (Jvm.Cond.instanceMethod ({ cls := "LateFallsModel", name := "next", desc := "()I" } : Jvm.MethodName)) ∈ wA := wA_of_8 207 rfl rfl
set_option maxRecDepth 100000 in
theorem wd_1888 : (Jvm.Cond.selects "LateFallsModel" ({ cls := "LateFallsModel", name := "next", desc := "()I" } : Jvm.MethodName) ({ cls := "LateFallsModel", name := "next", desc := "()I" } : Jvm.MethodName)) ∈ wA := wA_of_8 208 rfl rfl
set_option maxRecDepth 100000 in
theorem wd_1889 : (Jvm.Cond.code ({ cls := "LateFallsModel", name := "next", desc := "()I" } : Jvm.MethodName) prog_13_method_97_code (2 : Nat) (Option.some Jvm.ClassFile.FieldType.int)) ∈ wA := wA_of_8 209 rfl rfl
set_option maxRecDepth 100000 in
theorem wd_1890 : (Jvm.Cond.methodLink "LateFallsLaw" (221 : Nat) ({ cls := "LateFallsModel", name := "busiest", desc := "()I" } : Jvm.MethodName)) ∈ wA := wA_of_8 210 rfl rfl
set_option maxRecDepth 100000 in
theorem wd_1891 : (Jvm.Cond.instanceMethod ({ cls := "LateFallsModel", name := "busiest", desc := "()I" } : Jvm.MethodName)) ∈ wA := wA_of_8 211 rfl rfl
set_option maxRecDepth 100000 in
theorem wd_1892 : (Jvm.Cond.selects "LateFallsModel" ({ cls := "LateFallsModel", name := "busiest", desc := "()I" } : Jvm.MethodName) ({ cls := "LateFallsModel", name := "busiest", desc := "()I" } : Jvm.MethodName)) ∈ wA := wA_of_8 212 rfl rfl
set_option maxRecDepth 100000 in
theorem wd_1893 : (Jvm.Cond.code ({ cls := "LateFallsModel", name := "busiest", desc := "()I" } : Jvm.MethodName) prog_13_method_98_code (3 : Nat) (Option.some Jvm.ClassFile.FieldType.int)) ∈ wA := wA_of_8 213 rfl rfl
set_option maxRecDepth 100000 in
theorem wd_1894 : (Jvm.Cond.constant "LateFallsModel" (464 : Nat) (536870911 : Int32)) ∈ wA := wA_of_8 214 rfl rfl
set_option maxRecDepth 100000 in
theorem wd_1895 : (Jvm.Cond.methodLink "LateFallsLaw" (224 : Nat) ({ cls := "LateFallsModel", name := "frees", desc := "(I)I" } : Jvm.MethodName)) ∈ wA := wA_of_8 215 rfl rfl
set_option maxRecDepth 100000 in
theorem wd_1896 : (Jvm.Cond.instanceMethod ({ cls := "LateFallsModel", name := "frees", desc := "(I)I" } : Jvm.MethodName)) ∈ wA := wA_of_8 216 rfl rfl
set_option maxRecDepth 100000 in
theorem wd_1897 : (Jvm.Cond.selects "LateFallsModel" ({ cls := "LateFallsModel", name := "frees", desc := "(I)I" } : Jvm.MethodName) ({ cls := "LateFallsModel", name := "frees", desc := "(I)I" } : Jvm.MethodName)) ∈ wA := wA_of_8 217 rfl rfl
set_option maxRecDepth 100000 in
theorem wd_1898 : (Jvm.Cond.code ({ cls := "LateFallsModel", name := "frees", desc := "(I)I" } : Jvm.MethodName) prog_13_method_99_code (2 : Nat) (Option.some Jvm.ClassFile.FieldType.int)) ∈ wA := wA_of_8 218 rfl rfl
set_option maxRecDepth 100000 in
theorem wd_1899 : (Jvm.Cond.methodLink "LateFallsLaw" (227 : Nat) ({ cls := "LateFallsModel", name := "heightIn", desc := "(II)I" } : Jvm.MethodName)) ∈ wA := wA_of_8 219 rfl rfl
set_option maxRecDepth 100000 in
theorem wd_1900 : (Jvm.Cond.instanceMethod ({ cls := "LateFallsModel", name := "heightIn", desc := "(II)I" } : Jvm.MethodName)) ∈ wA := wA_of_8 220 rfl rfl
set_option maxRecDepth 100000 in
theorem wd_1901 : (Jvm.Cond.selects "LateFallsModel" ({ cls := "LateFallsModel", name := "heightIn", desc := "(II)I" } : Jvm.MethodName) ({ cls := "LateFallsModel", name := "heightIn", desc := "(II)I" } : Jvm.MethodName)) ∈ wA := wA_of_8 221 rfl rfl
set_option maxRecDepth 100000 in
theorem wd_1902 : (Jvm.Cond.code ({ cls := "LateFallsModel", name := "heightIn", desc := "(II)I" } : Jvm.MethodName) prog_13_method_100_code (6 : Nat) (Option.some Jvm.ClassFile.FieldType.int)) ∈ wA := wA_of_8 222 rfl rfl
set_option maxRecDepth 100000 in
theorem wd_1903 : (Jvm.Cond.methodLink "LateFallsLaw" (230 : Nat) ({ cls := "LateFallsModel", name := "hurtIn", desc := "(I)I" } : Jvm.MethodName)) ∈ wA := wA_of_8 223 rfl rfl
set_option maxRecDepth 100000 in
theorem wd_1904 : (Jvm.Cond.instanceMethod ({ cls := "LateFallsModel", name := "hurtIn", desc := "(I)I" } : Jvm.MethodName)) ∈ wA := wA_of_8 224 rfl rfl
set_option maxRecDepth 100000 in
theorem wd_1905 : (Jvm.Cond.selects "LateFallsModel" ({ cls := "LateFallsModel", name := "hurtIn", desc := "(I)I" } : Jvm.MethodName) ({ cls := "LateFallsModel", name := "hurtIn", desc := "(I)I" } : Jvm.MethodName)) ∈ wA := wA_of_8 225 rfl rfl
set_option maxRecDepth 100000 in
theorem wd_1906 : (Jvm.Cond.code ({ cls := "LateFallsModel", name := "hurtIn", desc := "(I)I" } : Jvm.MethodName) prog_13_method_101_code (5 : Nat) (Option.some Jvm.ClassFile.FieldType.int)) ∈ wA := wA_of_8 226 rfl rfl
set_option maxRecDepth 100000 in
theorem wd_1907 : (Jvm.Cond.methodLink "LateFallsLaw" (233 : Nat) ({ cls := "LateFallsModel", name := "hurts", desc := "(I)I" } : Jvm.MethodName)) ∈ wA := wA_of_8 227 rfl rfl
set_option maxRecDepth 100000 in
theorem wd_1908 : (Jvm.Cond.instanceMethod ({ cls := "LateFallsModel", name := "hurts", desc := "(I)I" } : Jvm.MethodName)) ∈ wA := wA_of_8 228 rfl rfl
set_option maxRecDepth 100000 in
theorem wd_1909 : (Jvm.Cond.selects "LateFallsModel" ({ cls := "LateFallsModel", name := "hurts", desc := "(I)I" } : Jvm.MethodName) ({ cls := "LateFallsModel", name := "hurts", desc := "(I)I" } : Jvm.MethodName)) ∈ wA := wA_of_8 229 rfl rfl
set_option maxRecDepth 100000 in
theorem wd_1910 : (Jvm.Cond.code ({ cls := "LateFallsModel", name := "hurts", desc := "(I)I" } : Jvm.MethodName) prog_13_method_103_code (3 : Nat) (Option.some Jvm.ClassFile.FieldType.int)) ∈ wA := wA_of_8 230 rfl rfl
set_option maxRecDepth 100000 in
theorem wd_1911 : (Jvm.Cond.methodLink "LateFallsModel" (465 : Nat) ({ cls := "LateFallsModel", name := "hurtsOf", desc := "(I)I" } : Jvm.MethodName)) ∈ wA := wA_of_8 231 rfl rfl
set_option maxRecDepth 100000 in
theorem wd_1913 : (Jvm.Cond.instanceMethod ({ cls := "LateFallsModel", name := "hurtsOf", desc := "(I)I" } : Jvm.MethodName)) ∈ wA := wA_of_8 233 rfl rfl
set_option maxRecDepth 100000 in
theorem wd_1914 : (Jvm.Cond.code ({ cls := "LateFallsModel", name := "hurtsOf", desc := "(I)I" } : Jvm.MethodName) prog_13_method_102_code (4 : Nat) (Option.some Jvm.ClassFile.FieldType.int)) ∈ wA := wA_of_8 234 rfl rfl
set_option maxRecDepth 100000 in
theorem wd_1915 : (Jvm.Cond.methodLink "LateFallsLaw" (236 : Nat) ({ cls := "LateFallsModel", name := "spares", desc := "(II)I" } : Jvm.MethodName)) ∈ wA := wA_of_8 235 rfl rfl
set_option maxRecDepth 100000 in
theorem wd_1916 : (Jvm.Cond.instanceMethod ({ cls := "LateFallsModel", name := "spares", desc := "(II)I" } : Jvm.MethodName)) ∈ wA := wA_of_8 236 rfl rfl
set_option maxRecDepth 100000 in
theorem wd_1917 : (Jvm.Cond.selects "LateFallsModel" ({ cls := "LateFallsModel", name := "spares", desc := "(II)I" } : Jvm.MethodName) ({ cls := "LateFallsModel", name := "spares", desc := "(II)I" } : Jvm.MethodName)) ∈ wA := wA_of_8 237 rfl rfl
set_option maxRecDepth 100000 in
theorem wd_1918 : (Jvm.Cond.code ({ cls := "LateFallsModel", name := "spares", desc := "(II)I" } : Jvm.MethodName) prog_13_method_104_code (5 : Nat) (Option.some Jvm.ClassFile.FieldType.int)) ∈ wA := wA_of_8 238 rfl rfl
set_option maxRecDepth 100000 in
theorem wd_1919 : (Jvm.Cond.methodLink "LateFallsLaw" (239 : Nat) ({ cls := "LateFallsModel", name := "fallsBy", desc := "(IIII)I" } : Jvm.MethodName)) ∈ wA := wA_of_8 239 rfl rfl
set_option maxRecDepth 100000 in
theorem wd_1920 : (Jvm.Cond.instanceMethod ({ cls := "LateFallsModel", name := "fallsBy", desc := "(IIII)I" } : Jvm.MethodName)) ∈ wA := wA_of_9 0 rfl rfl
set_option maxRecDepth 100000 in
theorem wd_1921 : (Jvm.Cond.selects "LateFallsModel" ({ cls := "LateFallsModel", name := "fallsBy", desc := "(IIII)I" } : Jvm.MethodName) ({ cls := "LateFallsModel", name := "fallsBy", desc := "(IIII)I" } : Jvm.MethodName)) ∈ wA := wA_of_9 1 rfl rfl
set_option maxRecDepth 100000 in
theorem wd_1922 : (Jvm.Cond.code ({ cls := "LateFallsModel", name := "fallsBy", desc := "(IIII)I" } : Jvm.MethodName) prog_13_method_108_code (5 : Nat) (Option.some Jvm.ClassFile.FieldType.int)) ∈ wA := wA_of_9 2 rfl rfl
set_option maxRecDepth 100000 in
theorem wd_1923 : (Jvm.Cond.methodLink "LateFallsModel" (474 : Nat) ({ cls := "LateFallsModel", name := "isWaitOut", desc := "(III)Z" } : Jvm.MethodName)) ∈ wA := wA_of_9 3 rfl rfl
set_option maxRecDepth 100000 in
theorem wd_1925 : (Jvm.Cond.instanceMethod ({ cls := "LateFallsModel", name := "isWaitOut", desc := "(III)Z" } : Jvm.MethodName)) ∈ wA := wA_of_9 5 rfl rfl
set_option maxRecDepth 100000 in
theorem wd_1926 : (Jvm.Cond.code ({ cls := "LateFallsModel", name := "isWaitOut", desc := "(III)Z" } : Jvm.MethodName) prog_13_method_106_code (4 : Nat) (Option.some Jvm.ClassFile.FieldType.boolean)) ∈ wA := wA_of_9 6 rfl rfl
set_option maxRecDepth 100000 in
theorem wd_1927 : (Jvm.Cond.constantLong "LateFallsModel" (477 : Nat) (60 : Int64)) ∈ wA := wA_of_9 7 rfl rfl
set_option maxRecDepth 100000 in
theorem wd_1928 : (Jvm.Cond.methodLink "LateFallsModel" (479 : Nat) ({ cls := "LateFallsModel", name := "laysWait", desc := "(IIII)V" } : Jvm.MethodName)) ∈ wA := wA_of_9 8 rfl rfl
set_option maxRecDepth 100000 in
theorem wd_1930 : (Jvm.Cond.instanceMethod ({ cls := "LateFallsModel", name := "laysWait", desc := "(IIII)V" } : Jvm.MethodName)) ∈ wA := wA_of_9 10 rfl rfl
set_option maxRecDepth 100000 in
theorem wd_1931 : (Jvm.Cond.code ({ cls := "LateFallsModel", name := "laysWait", desc := "(IIII)V" } : Jvm.MethodName) prog_13_method_105_code (7 : Nat) (Option.none : Option Jvm.ClassFile.FieldType)) ∈ wA := wA_of_9 11 rfl rfl
set_option maxRecDepth 100000 in
theorem wd_1932 : (Jvm.Cond.methodLink "LateFallsLaw" (242 : Nat) ({ cls := "LateFallsModel", name := "waitFor", desc := "(IIII)I" } : Jvm.MethodName)) ∈ wA := wA_of_9 12 rfl rfl
set_option maxRecDepth 100000 in
theorem wd_1933 : (Jvm.Cond.instanceMethod ({ cls := "LateFallsModel", name := "waitFor", desc := "(IIII)I" } : Jvm.MethodName)) ∈ wA := wA_of_9 13 rfl rfl
set_option maxRecDepth 100000 in
theorem wd_1934 : (Jvm.Cond.selects "LateFallsModel" ({ cls := "LateFallsModel", name := "waitFor", desc := "(IIII)I" } : Jvm.MethodName) ({ cls := "LateFallsModel", name := "waitFor", desc := "(IIII)I" } : Jvm.MethodName)) ∈ wA := wA_of_9 14 rfl rfl
set_option maxRecDepth 100000 in
theorem wd_1935 : (Jvm.Cond.code ({ cls := "LateFallsModel", name := "waitFor", desc := "(IIII)I" } : Jvm.MethodName) prog_13_method_110_code (5 : Nat) (Option.some Jvm.ClassFile.FieldType.int)) ∈ wA := wA_of_9 15 rfl rfl
set_option maxRecDepth 100000 in
theorem wd_1936 : (Jvm.Cond.methodLink "LateFallsModel" (483 : Nat) ({ cls := "LateFallsModel", name := "leastWait", desc := "(IIII)I" } : Jvm.MethodName)) ∈ wA := wA_of_9 16 rfl rfl
set_option maxRecDepth 100000 in
theorem wd_1938 : (Jvm.Cond.instanceMethod ({ cls := "LateFallsModel", name := "leastWait", desc := "(IIII)I" } : Jvm.MethodName)) ∈ wA := wA_of_9 18 rfl rfl
set_option maxRecDepth 100000 in
theorem wd_1939 : (Jvm.Cond.code ({ cls := "LateFallsModel", name := "leastWait", desc := "(IIII)I" } : Jvm.MethodName) prog_13_method_109_code (6 : Nat) (Option.some Jvm.ClassFile.FieldType.int)) ∈ wA := wA_of_9 19 rfl rfl
set_option maxRecDepth 100000 in
theorem wd_1940 : (Jvm.Cond.methodLink "LateFallsLaw" (246 : Nat) ({ cls := "LateFallsModel", name := "waitSafe", desc := "(III)I" } : Jvm.MethodName)) ∈ wA := wA_of_9 20 rfl rfl
set_option maxRecDepth 100000 in
theorem wd_1941 : (Jvm.Cond.instanceMethod ({ cls := "LateFallsModel", name := "waitSafe", desc := "(III)I" } : Jvm.MethodName)) ∈ wA := wA_of_9 21 rfl rfl
set_option maxRecDepth 100000 in
theorem wd_1942 : (Jvm.Cond.selects "LateFallsModel" ({ cls := "LateFallsModel", name := "waitSafe", desc := "(III)I" } : Jvm.MethodName) ({ cls := "LateFallsModel", name := "waitSafe", desc := "(III)I" } : Jvm.MethodName)) ∈ wA := wA_of_9 22 rfl rfl
set_option maxRecDepth 100000 in
theorem wd_1943 : (Jvm.Cond.code ({ cls := "LateFallsModel", name := "waitSafe", desc := "(III)I" } : Jvm.MethodName) prog_13_method_111_code (5 : Nat) (Option.some Jvm.ClassFile.FieldType.int)) ∈ wA := wA_of_9 23 rfl rfl
set_option maxRecDepth 100000 in
theorem wd_1944 : (Jvm.Cond.methodLink "LateFallsModel" (487 : Nat) ({ cls := "LateFallsModel", name := "walkersIn", desc := "(II)I" } : Jvm.MethodName)) ∈ wA := wA_of_9 24 rfl rfl
set_option maxRecDepth 100000 in
theorem wd_1946 : (Jvm.Cond.instanceMethod ({ cls := "LateFallsModel", name := "walkersIn", desc := "(II)I" } : Jvm.MethodName)) ∈ wA := wA_of_9 26 rfl rfl
set_option maxRecDepth 100000 in
theorem wd_1947 : (Jvm.Cond.code ({ cls := "LateFallsModel", name := "walkersIn", desc := "(II)I" } : Jvm.MethodName) prog_13_method_107_code (5 : Nat) (Option.some Jvm.ClassFile.FieldType.int)) ∈ wA := wA_of_9 27 rfl rfl
set_option maxRecDepth 100000 in
theorem wd_1948 : (Jvm.Cond.methodLink "LateFallsLaw" (249 : Nat) ({ cls := "LateFallsModel", name := "waitHurt", desc := "(IIII)I" } : Jvm.MethodName)) ∈ wA := wA_of_9 28 rfl rfl
set_option maxRecDepth 100000 in
theorem wd_1949 : (Jvm.Cond.instanceMethod ({ cls := "LateFallsModel", name := "waitHurt", desc := "(IIII)I" } : Jvm.MethodName)) ∈ wA := wA_of_9 29 rfl rfl
set_option maxRecDepth 100000 in
theorem wd_1950 : (Jvm.Cond.selects "LateFallsModel" ({ cls := "LateFallsModel", name := "waitHurt", desc := "(IIII)I" } : Jvm.MethodName) ({ cls := "LateFallsModel", name := "waitHurt", desc := "(IIII)I" } : Jvm.MethodName)) ∈ wA := wA_of_9 30 rfl rfl
set_option maxRecDepth 100000 in
theorem wd_1951 : (Jvm.Cond.code ({ cls := "LateFallsModel", name := "waitHurt", desc := "(IIII)I" } : Jvm.MethodName) prog_13_method_112_code (6 : Nat) (Option.some Jvm.ClassFile.FieldType.int)) ∈ wA := wA_of_9 31 rfl rfl
set_option maxRecDepth 100000 in
theorem wd_1952 : (Jvm.Cond.methodLink "LateFallsLaw" (253 : Nat) ({ cls := "LateFallsModel", name := "place", desc := "(IZ)I" } : Jvm.MethodName)) ∈ wA := wA_of_9 32 rfl rfl
set_option maxRecDepth 100000 in
theorem wd_1953 : (Jvm.Cond.instanceMethod ({ cls := "LateFallsModel", name := "place", desc := "(IZ)I" } : Jvm.MethodName)) ∈ wA := wA_of_9 33 rfl rfl
set_option maxRecDepth 100000 in
theorem wd_1954 : (Jvm.Cond.selects "LateFallsModel" ({ cls := "LateFallsModel", name := "place", desc := "(IZ)I" } : Jvm.MethodName) ({ cls := "LateFallsModel", name := "place", desc := "(IZ)I" } : Jvm.MethodName)) ∈ wA := wA_of_9 34 rfl rfl
set_option maxRecDepth 100000 in
theorem wd_1955 : (Jvm.Cond.code ({ cls := "LateFallsModel", name := "place", desc := "(IZ)I" } : Jvm.MethodName) prog_13_method_113_code (7 : Nat) (Option.some Jvm.ClassFile.FieldType.int)) ∈ wA := wA_of_9 35 rfl rfl
set_option maxRecDepth 100000 in
theorem wd_1956 : (Jvm.Cond.methodLink "LateFallsLaw" (256 : Nat) ({ cls := "LateFallsModel", name := "worst", desc := "(II)I" } : Jvm.MethodName)) ∈ wA := wA_of_9 36 rfl rfl
set_option maxRecDepth 100000 in
theorem wd_1957 : (Jvm.Cond.instanceMethod ({ cls := "LateFallsModel", name := "worst", desc := "(II)I" } : Jvm.MethodName)) ∈ wA := wA_of_9 37 rfl rfl
set_option maxRecDepth 100000 in
theorem wd_1958 : (Jvm.Cond.selects "LateFallsModel" ({ cls := "LateFallsModel", name := "worst", desc := "(II)I" } : Jvm.MethodName) ({ cls := "LateFallsModel", name := "worst", desc := "(II)I" } : Jvm.MethodName)) ∈ wA := wA_of_9 38 rfl rfl
set_option maxRecDepth 100000 in
theorem wd_1959 : (Jvm.Cond.code ({ cls := "LateFallsModel", name := "worst", desc := "(II)I" } : Jvm.MethodName) prog_13_method_114_code (8 : Nat) (Option.some Jvm.ClassFile.FieldType.int)) ∈ wA := wA_of_9 39 rfl rfl
set_option maxRecDepth 100000 in
theorem wd_1960 : (Jvm.Cond.methodLink "LateFallsLaw" (260 : Nat) ({ cls := "LateFallsModel", name := "both", desc := "(IIIIII)I" } : Jvm.MethodName)) ∈ wA := wA_of_9 40 rfl rfl
set_option maxRecDepth 100000 in
theorem wd_1961 : (Jvm.Cond.instanceMethod ({ cls := "LateFallsModel", name := "both", desc := "(IIIIII)I" } : Jvm.MethodName)) ∈ wA := wA_of_9 41 rfl rfl
set_option maxRecDepth 100000 in
theorem wd_1962 : (Jvm.Cond.selects "LateFallsModel" ({ cls := "LateFallsModel", name := "both", desc := "(IIIIII)I" } : Jvm.MethodName) ({ cls := "LateFallsModel", name := "both", desc := "(IIIIII)I" } : Jvm.MethodName)) ∈ wA := wA_of_9 42 rfl rfl
set_option maxRecDepth 100000 in
theorem wd_1963 : (Jvm.Cond.code ({ cls := "LateFallsModel", name := "both", desc := "(IIIIII)I" } : Jvm.MethodName) prog_13_method_115_code (12 : Nat) (Option.some Jvm.ClassFile.FieldType.int)) ∈ wA := wA_of_9 43 rfl rfl
set_option maxRecDepth 100000 in
theorem wd_1964 : (Jvm.Cond.methodLink "LateFallsLaw" (263 : Nat) ({ cls := "LateFallsModel", name := "safeWay", desc := "(III)I" } : Jvm.MethodName)) ∈ wA := wA_of_9 44 rfl rfl
set_option maxRecDepth 100000 in
theorem wd_1965 : (Jvm.Cond.instanceMethod ({ cls := "LateFallsModel", name := "safeWay", desc := "(III)I" } : Jvm.MethodName)) ∈ wA := wA_of_9 45 rfl rfl
set_option maxRecDepth 100000 in
theorem wd_1966 : (Jvm.Cond.selects "LateFallsModel" ({ cls := "LateFallsModel", name := "safeWay", desc := "(III)I" } : Jvm.MethodName) ({ cls := "LateFallsModel", name := "safeWay", desc := "(III)I" } : Jvm.MethodName)) ∈ wA := wA_of_9 46 rfl rfl
set_option maxRecDepth 100000 in
theorem wd_1967 : (Jvm.Cond.code ({ cls := "LateFallsModel", name := "safeWay", desc := "(III)I" } : Jvm.MethodName) prog_13_method_121_code (5 : Nat) (Option.some Jvm.ClassFile.FieldType.int)) ∈ wA := wA_of_9 47 rfl rfl
set_option maxRecDepth 100000 in
theorem wd_1968 : (Jvm.Cond.constantLong "LateFallsModel" (502 : Nat) (70 : Int64)) ∈ wA := wA_of_9 48 rfl rfl
set_option maxRecDepth 100000 in
theorem wd_1969 : (Jvm.Cond.methodLink "LateFallsModel" (504 : Nat) ({ cls := "LateFallsModel", name := "laysWay", desc := "(II)I" } : Jvm.MethodName)) ∈ wA := wA_of_9 49 rfl rfl
set_option maxRecDepth 100000 in
theorem wd_1971 : (Jvm.Cond.instanceMethod ({ cls := "LateFallsModel", name := "laysWay", desc := "(II)I" } : Jvm.MethodName)) ∈ wA := wA_of_9 51 rfl rfl
set_option maxRecDepth 100000 in
theorem wd_1972 : (Jvm.Cond.code ({ cls := "LateFallsModel", name := "laysWay", desc := "(II)I" } : Jvm.MethodName) prog_13_method_120_code (7 : Nat) (Option.some Jvm.ClassFile.FieldType.int)) ∈ wA := wA_of_9 52 rfl rfl
set_option maxRecDepth 100000 in
theorem wd_1973 : (Jvm.Cond.methodLink "LateFallsModel" (499 : Nat) ({ cls := "LateFallsModel", name := "laysComes", desc := "(I)V" } : Jvm.MethodName)) ∈ wA := wA_of_9 53 rfl rfl
set_option maxRecDepth 100000 in
theorem wd_1975 : (Jvm.Cond.instanceMethod ({ cls := "LateFallsModel", name := "laysComes", desc := "(I)V" } : Jvm.MethodName)) ∈ wA := wA_of_9 55 rfl rfl
set_option maxRecDepth 100000 in
theorem wd_1976 : (Jvm.Cond.code ({ cls := "LateFallsModel", name := "laysComes", desc := "(I)V" } : Jvm.MethodName) prog_13_method_119_code (3 : Nat) (Option.none : Option Jvm.ClassFile.FieldType)) ∈ wA := wA_of_9 56 rfl rfl
set_option maxRecDepth 100000 in
theorem wd_1977 : (Jvm.Cond.methodLink "LateFallsModel" (493 : Nat) ({ cls := "LateFallsModel", name := "laysFalling", desc := "()V" } : Jvm.MethodName)) ∈ wA := wA_of_9 57 rfl rfl
set_option maxRecDepth 100000 in
theorem wd_1979 : (Jvm.Cond.instanceMethod ({ cls := "LateFallsModel", name := "laysFalling", desc := "()V" } : Jvm.MethodName)) ∈ wA := wA_of_9 59 rfl rfl
set_option maxRecDepth 100000 in
theorem wd_1980 : (Jvm.Cond.code ({ cls := "LateFallsModel", name := "laysFalling", desc := "()V" } : Jvm.MethodName) prog_13_method_116_code (2 : Nat) (Option.none : Option Jvm.ClassFile.FieldType)) ∈ wA := wA_of_9 60 rfl rfl
set_option maxRecDepth 100000 in
theorem wd_1981 : (Jvm.Cond.methodLink "LateFallsModel" (496 : Nat) ({ cls := "LateFallsModel", name := "beside", desc := "(I)I" } : Jvm.MethodName)) ∈ wA := wA_of_9 61 rfl rfl
set_option maxRecDepth 100000 in
theorem wd_1983 : (Jvm.Cond.instanceMethod ({ cls := "LateFallsModel", name := "beside", desc := "(I)I" } : Jvm.MethodName)) ∈ wA := wA_of_9 63 rfl rfl
set_option maxRecDepth 100000 in
theorem wd_1984 : (Jvm.Cond.code ({ cls := "LateFallsModel", name := "beside", desc := "(I)I" } : Jvm.MethodName) prog_13_method_118_code (2 : Nat) (Option.some Jvm.ClassFile.FieldType.int)) ∈ wA := wA_of_9 64 rfl rfl
set_option maxRecDepth 100000 in
theorem wd_1985 : (Jvm.Cond.methodLink "LateFallsModel" (490 : Nat) ({ cls := "LateFallsModel", name := "allColumns", desc := "()I" } : Jvm.MethodName)) ∈ wA := wA_of_9 65 rfl rfl
set_option maxRecDepth 100000 in
theorem wd_1987 : (Jvm.Cond.instanceMethod ({ cls := "LateFallsModel", name := "allColumns", desc := "()I" } : Jvm.MethodName)) ∈ wA := wA_of_9 67 rfl rfl
set_option maxRecDepth 100000 in
theorem wd_1988 : (Jvm.Cond.code ({ cls := "LateFallsModel", name := "allColumns", desc := "()I" } : Jvm.MethodName) prog_13_method_117_code (1 : Nat) (Option.some Jvm.ClassFile.FieldType.int)) ∈ wA := wA_of_9 68 rfl rfl
set_option maxRecDepth 100000 in
theorem wd_1989 : (Jvm.Cond.methodLink "LateFallsLaw" (266 : Nat) ({ cls := "LateFallsModel", name := "safeWays", desc := "(III)J" } : Jvm.MethodName)) ∈ wA := wA_of_9 69 rfl rfl
set_option maxRecDepth 100000 in
theorem wd_1990 : (Jvm.Cond.instanceMethod ({ cls := "LateFallsModel", name := "safeWays", desc := "(III)J" } : Jvm.MethodName)) ∈ wA := wA_of_9 70 rfl rfl
set_option maxRecDepth 100000 in
theorem wd_1991 : (Jvm.Cond.selects "LateFallsModel" ({ cls := "LateFallsModel", name := "safeWays", desc := "(III)J" } : Jvm.MethodName) ({ cls := "LateFallsModel", name := "safeWays", desc := "(III)J" } : Jvm.MethodName)) ∈ wA := wA_of_9 71 rfl rfl
set_option maxRecDepth 100000 in
theorem wd_1992 : (Jvm.Cond.code ({ cls := "LateFallsModel", name := "safeWays", desc := "(III)J" } : Jvm.MethodName) prog_13_method_122_code (5 : Nat) (Option.some Jvm.ClassFile.FieldType.long)) ∈ wA := wA_of_9 72 rfl rfl
set_option maxRecDepth 100000 in
theorem wd_1993 : (Jvm.Cond.constantLong "LateFallsModel" (507 : Nat) (20 : Int64)) ∈ wA := wA_of_9 73 rfl rfl
set_option maxRecDepth 100000 in
theorem wd_1994 : (Jvm.Cond.methodLink "LateFallsModel" (509 : Nat) ({ cls := "LateFallsModel", name := "countsOn", desc := "(I)V" } : Jvm.MethodName)) ∈ wA := wA_of_9 74 rfl rfl
set_option maxRecDepth 100000 in
theorem wd_1996 : (Jvm.Cond.instanceMethod ({ cls := "LateFallsModel", name := "countsOn", desc := "(I)V" } : Jvm.MethodName)) ∈ wA := wA_of_9 76 rfl rfl
set_option maxRecDepth 100000 in
theorem wd_1997 : (Jvm.Cond.code ({ cls := "LateFallsModel", name := "countsOn", desc := "(I)V" } : Jvm.MethodName) prog_13_method_123_code (4 : Nat) (Option.none : Option Jvm.ClassFile.FieldType)) ∈ wA := wA_of_9 77 rfl rfl
set_option maxRecDepth 100000 in
theorem wd_1998 : (Jvm.Cond.methodLink "LateFallsLaw" (269 : Nat) ({ cls := "LateFallsModel", name := "safeIn", desc := "(II)I" } : Jvm.MethodName)) ∈ wA := wA_of_9 78 rfl rfl
set_option maxRecDepth 100000 in
theorem wd_1999 : (Jvm.Cond.instanceMethod ({ cls := "LateFallsModel", name := "safeIn", desc := "(II)I" } : Jvm.MethodName)) ∈ wA := wA_of_9 79 rfl rfl
set_option maxRecDepth 100000 in
theorem wd_2000 : (Jvm.Cond.selects "LateFallsModel" ({ cls := "LateFallsModel", name := "safeIn", desc := "(II)I" } : Jvm.MethodName) ({ cls := "LateFallsModel", name := "safeIn", desc := "(II)I" } : Jvm.MethodName)) ∈ wA := wA_of_9 80 rfl rfl
set_option maxRecDepth 100000 in
theorem wd_2001 : (Jvm.Cond.code ({ cls := "LateFallsModel", name := "safeIn", desc := "(II)I" } : Jvm.MethodName) prog_13_method_124_code (3 : Nat) (Option.some Jvm.ClassFile.FieldType.int)) ∈ wA := wA_of_9 81 rfl rfl
set_option maxRecDepth 100000 in
theorem wd_2002 : (Jvm.Cond.methodLink "LateFallsLaw" (273 : Nat) ({ cls := "LateFallsModel", name := "shelter", desc := "()I" } : Jvm.MethodName)) ∈ wA := wA_of_9 82 rfl rfl
set_option maxRecDepth 100000 in
theorem wd_2003 : (Jvm.Cond.instanceMethod ({ cls := "LateFallsModel", name := "shelter", desc := "()I" } : Jvm.MethodName)) ∈ wA := wA_of_9 83 rfl rfl
set_option maxRecDepth 100000 in
theorem wd_2004 : (Jvm.Cond.selects "LateFallsModel" ({ cls := "LateFallsModel", name := "shelter", desc := "()I" } : Jvm.MethodName) ({ cls := "LateFallsModel", name := "shelter", desc := "()I" } : Jvm.MethodName)) ∈ wA := wA_of_9 84 rfl rfl
set_option maxRecDepth 100000 in
theorem wd_2005 : (Jvm.Cond.code ({ cls := "LateFallsModel", name := "shelter", desc := "()I" } : Jvm.MethodName) prog_13_method_125_code (5 : Nat) (Option.some Jvm.ClassFile.FieldType.int)) ∈ wA := wA_of_9 85 rfl rfl
set_option maxRecDepth 100000 in
theorem wd_2006 : (Jvm.Cond.methodLink "LateFallsLaw" (276 : Nat) ({ cls := "LateFallsModel", name := "later", desc := "(II)I" } : Jvm.MethodName)) ∈ wA := wA_of_9 86 rfl rfl
set_option maxRecDepth 100000 in
theorem wd_2007 : (Jvm.Cond.instanceMethod ({ cls := "LateFallsModel", name := "later", desc := "(II)I" } : Jvm.MethodName)) ∈ wA := wA_of_9 87 rfl rfl
set_option maxRecDepth 100000 in
theorem wd_2008 : (Jvm.Cond.selects "LateFallsModel" ({ cls := "LateFallsModel", name := "later", desc := "(II)I" } : Jvm.MethodName) ({ cls := "LateFallsModel", name := "later", desc := "(II)I" } : Jvm.MethodName)) ∈ wA := wA_of_9 88 rfl rfl
set_option maxRecDepth 100000 in
theorem wd_2009 : (Jvm.Cond.code ({ cls := "LateFallsModel", name := "later", desc := "(II)I" } : Jvm.MethodName) prog_13_method_126_code (5 : Nat) (Option.some Jvm.ClassFile.FieldType.int)) ∈ wA := wA_of_9 89 rfl rfl
set_option maxRecDepth 100000 in
theorem wd_2010 : (Jvm.Cond.constantLong "LateFallsModel" (512 : Nat) (8 : Int64)) ∈ wA := wA_of_9 90 rfl rfl
set_option maxRecDepth 100000 in
theorem wd_2011 : (Jvm.Cond.methodLink "LateFallsLaw" (279 : Nat) ({ cls := "LateFallsModel", name := "letGoBy", desc := "(III)I" } : Jvm.MethodName)) ∈ wA := wA_of_9 91 rfl rfl
set_option maxRecDepth 100000 in
theorem wd_2012 : (Jvm.Cond.instanceMethod ({ cls := "LateFallsModel", name := "letGoBy", desc := "(III)I" } : Jvm.MethodName)) ∈ wA := wA_of_9 92 rfl rfl
set_option maxRecDepth 100000 in
theorem wd_2013 : (Jvm.Cond.selects "LateFallsModel" ({ cls := "LateFallsModel", name := "letGoBy", desc := "(III)I" } : Jvm.MethodName) ({ cls := "LateFallsModel", name := "letGoBy", desc := "(III)I" } : Jvm.MethodName)) ∈ wA := wA_of_9 93 rfl rfl
set_option maxRecDepth 100000 in
theorem wd_2014 : (Jvm.Cond.code ({ cls := "LateFallsModel", name := "letGoBy", desc := "(III)I" } : Jvm.MethodName) prog_13_method_130_code (4 : Nat) (Option.some Jvm.ClassFile.FieldType.int)) ∈ wA := wA_of_9 94 rfl rfl
set_option maxRecDepth 100000 in
theorem wd_2015 : (Jvm.Cond.methodLink "LateFallsModel" (521 : Nat) ({ cls := "LateFallsModel", name := "isGoneOut", desc := "(III)Z" } : Jvm.MethodName)) ∈ wA := wA_of_9 95 rfl rfl
set_option maxRecDepth 100000 in
theorem wd_2017 : (Jvm.Cond.instanceMethod ({ cls := "LateFallsModel", name := "isGoneOut", desc := "(III)Z" } : Jvm.MethodName)) ∈ wA := wA_of_9 97 rfl rfl
set_option maxRecDepth 100000 in
theorem wd_2018 : (Jvm.Cond.code ({ cls := "LateFallsModel", name := "isGoneOut", desc := "(III)Z" } : Jvm.MethodName) prog_13_method_128_code (4 : Nat) (Option.some Jvm.ClassFile.FieldType.boolean)) ∈ wA := wA_of_9 98 rfl rfl
set_option maxRecDepth 100000 in
theorem wd_2019 : (Jvm.Cond.methodLink "LateFallsModel" (524 : Nat) ({ cls := "LateFallsModel", name := "laysLet", desc := "(IIII)I" } : Jvm.MethodName)) ∈ wA := wA_of_9 99 rfl rfl
set_option maxRecDepth 100000 in
theorem wd_2021 : (Jvm.Cond.instanceMethod ({ cls := "LateFallsModel", name := "laysLet", desc := "(IIII)I" } : Jvm.MethodName)) ∈ wA := wA_of_9 101 rfl rfl
set_option maxRecDepth 100000 in
theorem wd_2022 : (Jvm.Cond.code ({ cls := "LateFallsModel", name := "laysLet", desc := "(IIII)I" } : Jvm.MethodName) prog_13_method_129_code (8 : Nat) (Option.some Jvm.ClassFile.FieldType.int)) ∈ wA := wA_of_9 102 rfl rfl
set_option maxRecDepth 100000 in
theorem wd_2023 : (Jvm.Cond.methodLink "LateFallsModel" (517 : Nat) ({ cls := "LateFallsModel", name := "isJust", desc := "(IIIII)Z" } : Jvm.MethodName)) ∈ wA := wA_of_9 103 rfl rfl
set_option maxRecDepth 100000 in
theorem wd_2025 : (Jvm.Cond.instanceMethod ({ cls := "LateFallsModel", name := "isJust", desc := "(IIIII)Z" } : Jvm.MethodName)) ∈ wA := wA_of_9 105 rfl rfl
set_option maxRecDepth 100000 in
theorem wd_2026 : (Jvm.Cond.code ({ cls := "LateFallsModel", name := "isJust", desc := "(IIIII)Z" } : Jvm.MethodName) prog_13_method_127_code (6 : Nat) (Option.some Jvm.ClassFile.FieldType.boolean)) ∈ wA := wA_of_9 106 rfl rfl
set_option maxRecDepth 100000 in
theorem wd_2027 : (Jvm.Cond.methodLink "LateFallsLaw" (282 : Nat) ({ cls := "LateFallsModel", name := "letGoAt", desc := "(IIII)I" } : Jvm.MethodName)) ∈ wA := wA_of_9 107 rfl rfl
set_option maxRecDepth 100000 in
theorem wd_2028 : (Jvm.Cond.instanceMethod ({ cls := "LateFallsModel", name := "letGoAt", desc := "(IIII)I" } : Jvm.MethodName)) ∈ wA := wA_of_9 108 rfl rfl
set_option maxRecDepth 100000 in
theorem wd_2029 : (Jvm.Cond.selects "LateFallsModel" ({ cls := "LateFallsModel", name := "letGoAt", desc := "(IIII)I" } : Jvm.MethodName) ({ cls := "LateFallsModel", name := "letGoAt", desc := "(IIII)I" } : Jvm.MethodName)) ∈ wA := wA_of_9 109 rfl rfl
set_option maxRecDepth 100000 in
theorem wd_2030 : (Jvm.Cond.code ({ cls := "LateFallsModel", name := "letGoAt", desc := "(IIII)I" } : Jvm.MethodName) prog_13_method_131_code (5 : Nat) (Option.some Jvm.ClassFile.FieldType.int)) ∈ wA := wA_of_9 110 rfl rfl
set_option maxRecDepth 100000 in
theorem wd_2031 : (Jvm.Cond.methodLink "LateFallsLaw" (285 : Nat) ({ cls := "LateFallsModel", name := "levels", desc := "(IIII)I" } : Jvm.MethodName)) ∈ wA := wA_of_9 111 rfl rfl
set_option maxRecDepth 100000 in
theorem wd_2032 : (Jvm.Cond.instanceMethod ({ cls := "LateFallsModel", name := "levels", desc := "(IIII)I" } : Jvm.MethodName)) ∈ wA := wA_of_9 112 rfl rfl
set_option maxRecDepth 100000 in
theorem wd_2033 : (Jvm.Cond.selects "LateFallsModel" ({ cls := "LateFallsModel", name := "levels", desc := "(IIII)I" } : Jvm.MethodName) ({ cls := "LateFallsModel", name := "levels", desc := "(IIII)I" } : Jvm.MethodName)) ∈ wA := wA_of_9 113 rfl rfl
set_option maxRecDepth 100000 in
theorem wd_2034 : (Jvm.Cond.code ({ cls := "LateFallsModel", name := "levels", desc := "(IIII)I" } : Jvm.MethodName) prog_13_method_132_code (7 : Nat) (Option.some Jvm.ClassFile.FieldType.int)) ∈ wA := wA_of_9 114 rfl rfl
set_option maxRecDepth 100000 in
theorem wd_2035 : (Jvm.Cond.methodLink "LateFallsLaw" (289 : Nat) ({ cls := "LateFallsModel", name := "tray", desc := "(III)V" } : Jvm.MethodName)) ∈ wA := wA_of_9 115 rfl rfl
set_option maxRecDepth 100000 in
theorem wd_2036 : (Jvm.Cond.instanceMethod ({ cls := "LateFallsModel", name := "tray", desc := "(III)V" } : Jvm.MethodName)) ∈ wA := wA_of_9 116 rfl rfl
set_option maxRecDepth 100000 in
theorem wd_2037 : (Jvm.Cond.selects "LateFallsModel" ({ cls := "LateFallsModel", name := "tray", desc := "(III)V" } : Jvm.MethodName) ({ cls := "LateFallsModel", name := "tray", desc := "(III)V" } : Jvm.MethodName)) ∈ wA := wA_of_9 117 rfl rfl
set_option maxRecDepth 100000 in
theorem wd_2038 : (Jvm.Cond.code ({ cls := "LateFallsModel", name := "tray", desc := "(III)V" } : Jvm.MethodName) prog_13_method_134_code (5 : Nat) (Option.none : Option Jvm.ClassFile.FieldType)) ∈ wA := wA_of_9 118 rfl rfl
set_option maxRecDepth 100000 in
theorem wd_2039 : (Jvm.Cond.methodLink "LateFallsLaw" (295 : Nat) ({ cls := "LateFallsModel", name := "write", desc := "(IIJ)J" } : Jvm.MethodName)) ∈ wA := wA_of_9 119 rfl rfl
set_option maxRecDepth 100000 in
theorem wd_2040 : (Jvm.Cond.instanceMethod ({ cls := "LateFallsModel", name := "write", desc := "(IIJ)J" } : Jvm.MethodName)) ∈ wA := wA_of_9 120 rfl rfl
set_option maxRecDepth 100000 in
theorem wd_2041 : (Jvm.Cond.selects "LateFallsModel" ({ cls := "LateFallsModel", name := "write", desc := "(IIJ)J" } : Jvm.MethodName) ({ cls := "LateFallsModel", name := "write", desc := "(IIJ)J" } : Jvm.MethodName)) ∈ wA := wA_of_9 121 rfl rfl
set_option maxRecDepth 100000 in
theorem wd_2042 : (Jvm.Cond.code ({ cls := "LateFallsModel", name := "write", desc := "(IIJ)J" } : Jvm.MethodName) prog_13_method_136_code (5 : Nat) (Option.some Jvm.ClassFile.FieldType.long)) ∈ wA := wA_of_9 122 rfl rfl
set_option maxRecDepth 100000 in
theorem wd_2043 : (Jvm.Cond.methodLink "LateFallsModel" (527 : Nat) ({ cls := "LateFallsModel", name := "cut", desc := "(IIJ)J" } : Jvm.MethodName)) ∈ wA := wA_of_9 123 rfl rfl
set_option maxRecDepth 100000 in
theorem wd_2045 : (Jvm.Cond.instanceMethod ({ cls := "LateFallsModel", name := "cut", desc := "(IIJ)J" } : Jvm.MethodName)) ∈ wA := wA_of_9 125 rfl rfl
set_option maxRecDepth 100000 in
theorem wd_2046 : (Jvm.Cond.code ({ cls := "LateFallsModel", name := "cut", desc := "(IIJ)J" } : Jvm.MethodName) prog_13_method_135_code (6 : Nat) (Option.some Jvm.ClassFile.FieldType.long)) ∈ wA := wA_of_9 126 rfl rfl
set_option maxRecDepth 100000 in
theorem wd_2047 : (Jvm.Cond.methodLink "LateFallsLaw" (298 : Nat) ({ cls := "LateFallsModel", name := "copy", desc := "(I)I" } : Jvm.MethodName)) ∈ wA := wA_of_9 127 rfl rfl
set_option maxRecDepth 100000 in
theorem wd_2048 : (Jvm.Cond.instanceMethod ({ cls := "LateFallsModel", name := "copy", desc := "(I)I" } : Jvm.MethodName)) ∈ wA := wA_of_9 128 rfl rfl
set_option maxRecDepth 100000 in
theorem wd_2049 : (Jvm.Cond.selects "LateFallsModel" ({ cls := "LateFallsModel", name := "copy", desc := "(I)I" } : Jvm.MethodName) ({ cls := "LateFallsModel", name := "copy", desc := "(I)I" } : Jvm.MethodName)) ∈ wA := wA_of_9 129 rfl rfl
set_option maxRecDepth 100000 in
theorem wd_2050 : (Jvm.Cond.code ({ cls := "LateFallsModel", name := "copy", desc := "(I)I" } : Jvm.MethodName) prog_13_method_137_code (4 : Nat) (Option.some Jvm.ClassFile.FieldType.int)) ∈ wA := wA_of_9 130 rfl rfl
set_option maxRecDepth 100000 in
theorem wd_2051 : (Jvm.Cond.methodLink "LateFallsLaw" (302 : Nat) ({ cls := "LateFallsModel", name := "image", desc := "(I)V" } : Jvm.MethodName)) ∈ wA := wA_of_9 131 rfl rfl
set_option maxRecDepth 100000 in
theorem wd_2052 : (Jvm.Cond.instanceMethod ({ cls := "LateFallsModel", name := "image", desc := "(I)V" } : Jvm.MethodName)) ∈ wA := wA_of_9 132 rfl rfl
set_option maxRecDepth 100000 in
theorem wd_2053 : (Jvm.Cond.selects "LateFallsModel" ({ cls := "LateFallsModel", name := "image", desc := "(I)V" } : Jvm.MethodName) ({ cls := "LateFallsModel", name := "image", desc := "(I)V" } : Jvm.MethodName)) ∈ wA := wA_of_9 133 rfl rfl
set_option maxRecDepth 100000 in
theorem wd_2054 : (Jvm.Cond.code ({ cls := "LateFallsModel", name := "image", desc := "(I)V" } : Jvm.MethodName) prog_13_method_138_code (3 : Nat) (Option.none : Option Jvm.ClassFile.FieldType)) ∈ wA := wA_of_9 134 rfl rfl
set_option maxRecDepth 100000 in
theorem wd_2055 : (Jvm.Cond.methodLink "LateFallsLaw" (305 : Nat) ({ cls := "LateFallsModel", name := "restore", desc := "(I)V" } : Jvm.MethodName)) ∈ wA := wA_of_9 135 rfl rfl
set_option maxRecDepth 100000 in
theorem wd_2056 : (Jvm.Cond.instanceMethod ({ cls := "LateFallsModel", name := "restore", desc := "(I)V" } : Jvm.MethodName)) ∈ wA := wA_of_9 136 rfl rfl
set_option maxRecDepth 100000 in
theorem wd_2057 : (Jvm.Cond.selects "LateFallsModel" ({ cls := "LateFallsModel", name := "restore", desc := "(I)V" } : Jvm.MethodName) ({ cls := "LateFallsModel", name := "restore", desc := "(I)V" } : Jvm.MethodName)) ∈ wA := wA_of_9 137 rfl rfl
set_option maxRecDepth 100000 in
theorem wd_2058 : (Jvm.Cond.code ({ cls := "LateFallsModel", name := "restore", desc := "(I)V" } : Jvm.MethodName) prog_13_method_139_code (3 : Nat) (Option.none : Option Jvm.ClassFile.FieldType)) ∈ wA := wA_of_9 138 rfl rfl
set_option maxRecDepth 100000 in
theorem wd_2059 : (Jvm.Cond.methodLink "LateFallsLaw" (309 : Nat) ({ cls := "LateFallsModel", name := "count", desc := "(I)I" } : Jvm.MethodName)) ∈ wA := wA_of_9 139 rfl rfl
set_option maxRecDepth 100000 in
theorem wd_2060 : (Jvm.Cond.instanceMethod ({ cls := "LateFallsModel", name := "count", desc := "(I)I" } : Jvm.MethodName)) ∈ wA := wA_of_9 140 rfl rfl
set_option maxRecDepth 100000 in
theorem wd_2061 : (Jvm.Cond.selects "LateFallsModel" ({ cls := "LateFallsModel", name := "count", desc := "(I)I" } : Jvm.MethodName) ({ cls := "LateFallsModel", name := "count", desc := "(I)I" } : Jvm.MethodName)) ∈ wA := wA_of_9 141 rfl rfl
set_option maxRecDepth 100000 in
theorem wd_2062 : (Jvm.Cond.code ({ cls := "LateFallsModel", name := "count", desc := "(I)I" } : Jvm.MethodName) prog_13_method_141_code (2 : Nat) (Option.some Jvm.ClassFile.FieldType.int)) ∈ wA := wA_of_9 142 rfl rfl
set_option maxRecDepth 100000 in
theorem wd_2063 : (Jvm.Cond.methodLink "LateFallsModel" (531 : Nat) ({ cls := "LateFallsModel", name := "allThat", desc := "(I)I" } : Jvm.MethodName)) ∈ wA := wA_of_9 143 rfl rfl
set_option maxRecDepth 100000 in
theorem wd_2065 : (Jvm.Cond.instanceMethod ({ cls := "LateFallsModel", name := "allThat", desc := "(I)I" } : Jvm.MethodName)) ∈ wA := wA_of_9 145 rfl rfl
set_option maxRecDepth 100000 in
theorem wd_2066 : (Jvm.Cond.code ({ cls := "LateFallsModel", name := "allThat", desc := "(I)I" } : Jvm.MethodName) prog_13_method_140_code (4 : Nat) (Option.some Jvm.ClassFile.FieldType.int)) ∈ wA := wA_of_9 146 rfl rfl
set_option maxRecDepth 100000 in
theorem wd_2067 : (Jvm.Cond.constantLong "LateFallsLaw" (290 : Nat) (4294967295 : Int64)) ∈ wA := wA_of_9 147 rfl rfl
set_option maxRecDepth 100000 in
theorem wd_2087 : (Jvm.Cond.fieldLink "java/lang/String" (9 : Nat) "java/lang/String" "value" "[B") ∈ wA := wA_of_9 167 rfl rfl
set_option maxRecDepth 100000 in
theorem wd_2088 : (Jvm.Cond.fieldLink "java/lang/String" (15 : Nat) "java/lang/String" "coder" "B") ∈ wA := wA_of_9 168 rfl rfl
set_option maxRecDepth 100000 in
theorem wp_0 : (Jvm.Cond.selects "LateFalls" ({ cls := "LateFalls", name := "putBytes", desc := "(I)V" } : Jvm.MethodName) ({ cls := "LateFalls", name := "putBytes", desc := "(I)V" } : Jvm.MethodName)) ∈ wA := wA_ofP 0 rfl rfl
set_option maxRecDepth 100000 in
theorem wp_1 : (Jvm.Cond.selects "LateFalls$Scene" ({ cls := "LateFalls$Scene", name := "drop", desc := "(II)V" } : Jvm.MethodName) ({ cls := "LateFalls$Scene", name := "drop", desc := "(II)V" } : Jvm.MethodName)) ∈ wA := wA_ofP 1 rfl rfl
set_option maxRecDepth 100000 in
theorem wp_2 : (Jvm.Cond.selects "LateFalls$Scene" ({ cls := "LateFalls$Scene", name := "isFreed", desc := "(II)Z" } : Jvm.MethodName) ({ cls := "LateFalls$Scene", name := "isFreed", desc := "(II)Z" } : Jvm.MethodName)) ∈ wA := wA_ofP 2 rfl rfl
set_option maxRecDepth 100000 in
theorem wp_3 : (Jvm.Cond.selects "LateFalls$Scene" ({ cls := "LateFalls$Scene", name := "dueIn", desc := "(II)I" } : Jvm.MethodName) ({ cls := "LateFalls$Scene", name := "dueIn", desc := "(II)I" } : Jvm.MethodName)) ∈ wA := wA_ofP 3 rfl rfl
set_option maxRecDepth 100000 in
theorem wp_4 : (Jvm.Cond.selects "java/lang/Throwable" ({ cls := "java/lang/Throwable", name := "fillInStackTrace", desc := "(I)Ljava/lang/Throwable;" } : Jvm.MethodName) ({ cls := "java/lang/Throwable", name := "fillInStackTrace", desc := "(I)Ljava/lang/Throwable;" } : Jvm.MethodName)) ∈ wA := wA_ofP 4 rfl rfl
set_option maxRecDepth 100000 in
theorem wp_5 : (Jvm.Cond.selects "LateFalls$Tokens" ({ cls := "LateFalls$Tokens", name := "append", desc := "(II)V" } : Jvm.MethodName) ({ cls := "LateFalls$Tokens", name := "append", desc := "(II)V" } : Jvm.MethodName)) ∈ wA := wA_ofP 5 rfl rfl
set_option maxRecDepth 100000 in
theorem wp_6 : (Jvm.Cond.selects "LateFalls$Reader" ({ cls := "LateFalls$Reader", name := "fallLine", desc := "()V" } : Jvm.MethodName) ({ cls := "LateFalls$Reader", name := "fallLine", desc := "()V" } : Jvm.MethodName)) ∈ wA := wA_ofP 6 rfl rfl
set_option maxRecDepth 100000 in
theorem wp_7 : (Jvm.Cond.selects "LateFalls$Reader" ({ cls := "LateFalls$Reader", name := "expect", desc := "(I)V" } : Jvm.MethodName) ({ cls := "LateFalls$Reader", name := "expect", desc := "(I)V" } : Jvm.MethodName)) ∈ wA := wA_ofP 7 rfl rfl
set_option maxRecDepth 100000 in
theorem wp_8 : (Jvm.Cond.selects "LateFalls$Reader" ({ cls := "LateFalls$Reader", name := "refuse", desc := "(I)V" } : Jvm.MethodName) ({ cls := "LateFalls$Reader", name := "refuse", desc := "(I)V" } : Jvm.MethodName)) ∈ wA := wA_ofP 8 rfl rfl
set_option maxRecDepth 100000 in
theorem wp_9 : (Jvm.Cond.selects "LateFalls$Reader" ({ cls := "LateFalls$Reader", name := "number", desc := "(II)I" } : Jvm.MethodName) ({ cls := "LateFalls$Reader", name := "number", desc := "(II)I" } : Jvm.MethodName)) ∈ wA := wA_ofP 9 rfl rfl
set_option maxRecDepth 100000 in
theorem wp_10 : (Jvm.Cond.selects "LateFalls$Reader" ({ cls := "LateFalls$Reader", name := "lineEnd", desc := "()V" } : Jvm.MethodName) ({ cls := "LateFalls$Reader", name := "lineEnd", desc := "()V" } : Jvm.MethodName)) ∈ wA := wA_ofP 10 rfl rfl
set_option maxRecDepth 100000 in
theorem wp_11 : (Jvm.Cond.selects "LateFalls$Reader" ({ cls := "LateFalls$Reader", name := "thingLine", desc := "()V" } : Jvm.MethodName) ({ cls := "LateFalls$Reader", name := "thingLine", desc := "()V" } : Jvm.MethodName)) ∈ wA := wA_ofP 11 rfl rfl
set_option maxRecDepth 100000 in
theorem wp_12 : (Jvm.Cond.selects "LateFalls$Reader" ({ cls := "LateFalls$Reader", name := "heldThing", desc := "(I)V" } : Jvm.MethodName) ({ cls := "LateFalls$Reader", name := "heldThing", desc := "(I)V" } : Jvm.MethodName)) ∈ wA := wA_ofP 12 rfl rfl
set_option maxRecDepth 100000 in
theorem wp_13 : (Jvm.Cond.selects "LateFalls$Reader" ({ cls := "LateFalls$Reader", name := "hangingThing", desc := "(I)V" } : Jvm.MethodName) ({ cls := "LateFalls$Reader", name := "hangingThing", desc := "(I)V" } : Jvm.MethodName)) ∈ wA := wA_ofP 13 rfl rfl
set_option maxRecDepth 100000 in
theorem wp_14 : (Jvm.Cond.selects "LateFalls$Reader" ({ cls := "LateFalls$Reader", name := "lyingThing", desc := "(I)V" } : Jvm.MethodName) ({ cls := "LateFalls$Reader", name := "lyingThing", desc := "(I)V" } : Jvm.MethodName)) ∈ wA := wA_ofP 14 rfl rfl
set_option maxRecDepth 100000 in
theorem wp_15 : (Jvm.Cond.selects "LateFalls$Reader" ({ cls := "LateFalls$Reader", name := "walkerLine", desc := "()V" } : Jvm.MethodName) ({ cls := "LateFalls$Reader", name := "walkerLine", desc := "()V" } : Jvm.MethodName)) ∈ wA := wA_ofP 15 rfl rfl
set_option maxRecDepth 100000 in
theorem wp_16 : (Jvm.Cond.selects "LateFalls$Reader" ({ cls := "LateFalls$Reader", name := "hangsLine", desc := "()V" } : Jvm.MethodName) ({ cls := "LateFalls$Reader", name := "hangsLine", desc := "()V" } : Jvm.MethodName)) ∈ wA := wA_ofP 16 rfl rfl
set_option maxRecDepth 100000 in
theorem wp_17 : (Jvm.Cond.selects "LateFalls$Reader" ({ cls := "LateFalls$Reader", name := "sum", desc := "(I)V" } : Jvm.MethodName) ({ cls := "LateFalls$Reader", name := "sum", desc := "(I)V" } : Jvm.MethodName)) ∈ wA := wA_ofP 17 rfl rfl
set_option maxRecDepth 100000 in
theorem wp_18 : (Jvm.Cond.selects "LateFalls$Reader" ({ cls := "LateFalls$Reader", name := "atom", desc := "(I)V" } : Jvm.MethodName) ({ cls := "LateFalls$Reader", name := "atom", desc := "(I)V" } : Jvm.MethodName)) ∈ wA := wA_ofP 18 rfl rfl
set_option maxRecDepth 100000 in
theorem wp_19 : (Jvm.Cond.selects "LateFalls$Reader" ({ cls := "LateFalls$Reader", name := "isTooDeep", desc := "(I)Z" } : Jvm.MethodName) ({ cls := "LateFalls$Reader", name := "isTooDeep", desc := "(I)Z" } : Jvm.MethodName)) ∈ wA := wA_ofP 19 rfl rfl
set_option maxRecDepth 100000 in
theorem wp_20 : (Jvm.Cond.selects "LateFalls$Reader" ({ cls := "LateFalls$Reader", name := "given", desc := "(I)I" } : Jvm.MethodName) ({ cls := "LateFalls$Reader", name := "given", desc := "(I)I" } : Jvm.MethodName)) ∈ wA := wA_ofP 20 rfl rfl
set_option maxRecDepth 100000 in
theorem wp_21 : (Jvm.Cond.selects "LateFalls$Reader" ({ cls := "LateFalls$Reader", name := "emit", desc := "(I)V" } : Jvm.MethodName) ({ cls := "LateFalls$Reader", name := "emit", desc := "(I)V" } : Jvm.MethodName)) ∈ wA := wA_ofP 21 rfl rfl
set_option maxRecDepth 100000 in
theorem wp_22 : (Jvm.Cond.selects "LateFalls$Reader" ({ cls := "LateFalls$Reader", name := "freesLine", desc := "()V" } : Jvm.MethodName) ({ cls := "LateFalls$Reader", name := "freesLine", desc := "()V" } : Jvm.MethodName)) ∈ wA := wA_ofP 22 rfl rfl
set_option maxRecDepth 100000 in
theorem wp_23 : (Jvm.Cond.selects "LateFalls$Reader" ({ cls := "LateFalls$Reader", name := "truth", desc := "(I)V" } : Jvm.MethodName) ({ cls := "LateFalls$Reader", name := "truth", desc := "(I)V" } : Jvm.MethodName)) ∈ wA := wA_ofP 23 rfl rfl
set_option maxRecDepth 100000 in
theorem wp_24 : (Jvm.Cond.selects "LateFalls$Reader" ({ cls := "LateFalls$Reader", name := "unit", desc := "(I)V" } : Jvm.MethodName) ({ cls := "LateFalls$Reader", name := "unit", desc := "(I)V" } : Jvm.MethodName)) ∈ wA := wA_ofP 24 rfl rfl
set_option maxRecDepth 100000 in
theorem wp_25 : (Jvm.Cond.selects "LateFalls$Reader" ({ cls := "LateFalls$Reader", name := "countFromHour", desc := "()V" } : Jvm.MethodName) ({ cls := "LateFalls$Reader", name := "countFromHour", desc := "()V" } : Jvm.MethodName)) ∈ wA := wA_ofP 25 rfl rfl
set_option maxRecDepth 100000 in
theorem wp_26 : (Jvm.Cond.selects "LateFalls" ({ cls := "LateFalls", name := "needThing", desc := "(I)V" } : Jvm.MethodName) ({ cls := "LateFalls", name := "needThing", desc := "(I)V" } : Jvm.MethodName)) ∈ wA := wA_ofP 26 rfl rfl
set_option maxRecDepth 100000 in
theorem wp_27 : (Jvm.Cond.selects "LateFalls" ({ cls := "LateFalls", name := "needWalker", desc := "(I)V" } : Jvm.MethodName) ({ cls := "LateFalls", name := "needWalker", desc := "(I)V" } : Jvm.MethodName)) ∈ wA := wA_ofP 27 rfl rfl
set_option maxRecDepth 100000 in
theorem wp_28 : (Jvm.Cond.selects "LateFalls" ({ cls := "LateFalls", name := "needColumn", desc := "(I)V" } : Jvm.MethodName) ({ cls := "LateFalls", name := "needColumn", desc := "(I)V" } : Jvm.MethodName)) ∈ wA := wA_ofP 28 rfl rfl
set_option maxRecDepth 100000 in
theorem wp_29 : (Jvm.Cond.selects "LateFalls" ({ cls := "LateFalls", name := "needPlace", desc := "(II)V" } : Jvm.MethodName) ({ cls := "LateFalls", name := "needPlace", desc := "(II)V" } : Jvm.MethodName)) ∈ wA := wA_ofP 29 rfl rfl
set_option maxRecDepth 100000 in
theorem wp_30 : (Jvm.Cond.selects "LateFalls" ({ cls := "LateFalls", name := "filledTray", desc := "(I)LLateFalls$Tray;" } : Jvm.MethodName) ({ cls := "LateFalls", name := "filledTray", desc := "(I)LLateFalls$Tray;" } : Jvm.MethodName)) ∈ wA := wA_ofP 30 rfl rfl
set_option maxRecDepth 100000 in
theorem wp_31 : (Jvm.Cond.selects "LateFalls" ({ cls := "LateFalls", name := "anyTray", desc := "(I)LLateFalls$Tray;" } : Jvm.MethodName) ({ cls := "LateFalls", name := "anyTray", desc := "(I)LLateFalls$Tray;" } : Jvm.MethodName)) ∈ wA := wA_ofP 31 rfl rfl
set_option maxRecDepth 100000 in
theorem wp_32 : (Jvm.Cond.selects "LateFalls" ({ cls := "LateFalls", name := "drawDeed", desc := "()I" } : Jvm.MethodName) ({ cls := "LateFalls", name := "drawDeed", desc := "()I" } : Jvm.MethodName)) ∈ wA := wA_ofP 32 rfl rfl
set_option maxRecDepth 100000 in
theorem wp_33 : (Jvm.Cond.selects "LateFalls" ({ cls := "LateFalls", name := "draw", desc := "(I)I" } : Jvm.MethodName) ({ cls := "LateFalls", name := "draw", desc := "(I)I" } : Jvm.MethodName)) ∈ wA := wA_ofP 33 rfl rfl
set_option maxRecDepth 100000 in
theorem wp_34 : (Jvm.Cond.selects "LateFalls" ({ cls := "LateFalls", name := "needHeldAndPlace", desc := "(III)V" } : Jvm.MethodName) ({ cls := "LateFalls", name := "needHeldAndPlace", desc := "(III)V" } : Jvm.MethodName)) ∈ wA := wA_ofP 34 rfl rfl
set_option maxRecDepth 100000 in
theorem wp_35 : (Jvm.Cond.selects "LateFalls" ({ cls := "LateFalls", name := "needHeld", desc := "(I)V" } : Jvm.MethodName) ({ cls := "LateFalls", name := "needHeld", desc := "(I)V" } : Jvm.MethodName)) ∈ wA := wA_ofP 35 rfl rfl
set_option maxRecDepth 100000 in
theorem wp_36 : (Jvm.Cond.selects "LateFalls" ({ cls := "LateFalls", name := "firstWaitFor", desc := "(I)I" } : Jvm.MethodName) ({ cls := "LateFalls", name := "firstWaitFor", desc := "(I)I" } : Jvm.MethodName)) ∈ wA := wA_ofP 36 rfl rfl
set_option maxRecDepth 100000 in
theorem wp_37 : (Jvm.Cond.selects "LateFalls$Ways" ({ cls := "LateFalls$Ways", name := "near", desc := "(I)I" } : Jvm.MethodName) ({ cls := "LateFalls$Ways", name := "near", desc := "(I)I" } : Jvm.MethodName)) ∈ wA := wA_ofP 37 rfl rfl
set_option maxRecDepth 100000 in
theorem wp_38 : (Jvm.Cond.selects "LateFalls$Ways" ({ cls := "LateFalls$Ways", name := "beside", desc := "(I)J" } : Jvm.MethodName) ({ cls := "LateFalls$Ways", name := "beside", desc := "(I)J" } : Jvm.MethodName)) ∈ wA := wA_ofP 38 rfl rfl
set_option maxRecDepth 100000 in
theorem wp_39 : (Jvm.Cond.selects "LateFalls" ({ cls := "LateFalls", name := "isLetGoBy", desc := "(IIIII)Z" } : Jvm.MethodName) ({ cls := "LateFalls", name := "isLetGoBy", desc := "(IIIII)Z" } : Jvm.MethodName)) ∈ wA := wA_ofP 39 rfl rfl
set_option maxRecDepth 100000 in
theorem wp_40 : (Jvm.Cond.selects "LateFalls$Tray" ({ cls := "LateFalls$Tray", name := "cut", desc := "(J)J" } : Jvm.MethodName) ({ cls := "LateFalls$Tray", name := "cut", desc := "(J)J" } : Jvm.MethodName)) ∈ wA := wA_ofP 40 rfl rfl
set_option maxRecDepth 100000 in
theorem wp_41 : (Jvm.Cond.selects "LateFallsModel" ({ cls := "LateFallsModel", name := "fails", desc := "(I)I" } : Jvm.MethodName) ({ cls := "LateFallsModel", name := "fails", desc := "(I)I" } : Jvm.MethodName)) ∈ wA := wA_ofP 41 rfl rfl
set_option maxRecDepth 100000 in
theorem wp_42 : (Jvm.Cond.selects "LateFallsModel" ({ cls := "LateFallsModel", name := "readsOn", desc := "()V" } : Jvm.MethodName) ({ cls := "LateFallsModel", name := "readsOn", desc := "()V" } : Jvm.MethodName)) ∈ wA := wA_ofP 42 rfl rfl
set_option maxRecDepth 100000 in
theorem wp_43 : (Jvm.Cond.selects "LateFallsModel" ({ cls := "LateFallsModel", name := "see", desc := "(I)I" } : Jvm.MethodName) ({ cls := "LateFallsModel", name := "see", desc := "(I)I" } : Jvm.MethodName)) ∈ wA := wA_ofP 43 rfl rfl
set_option maxRecDepth 100000 in
theorem wp_44 : (Jvm.Cond.selects "LateFallsModel" ({ cls := "LateFallsModel", name := "mustWord", desc := "(Ljava/lang/String;)V" } : Jvm.MethodName) ({ cls := "LateFallsModel", name := "mustWord", desc := "(Ljava/lang/String;)V" } : Jvm.MethodName)) ∈ wA := wA_ofP 44 rfl rfl
set_option maxRecDepth 100000 in
theorem wp_45 : (Jvm.Cond.selects "LateFallsModel" ({ cls := "LateFallsModel", name := "took", desc := "(Ljava/lang/String;)Z" } : Jvm.MethodName) ({ cls := "LateFallsModel", name := "took", desc := "(Ljava/lang/String;)Z" } : Jvm.MethodName)) ∈ wA := wA_ofP 45 rfl rfl
set_option maxRecDepth 100000 in
theorem wp_46 : (Jvm.Cond.selects "LateFallsModel" ({ cls := "LateFallsModel", name := "isWord", desc := "(Ljava/lang/String;)Z" } : Jvm.MethodName) ({ cls := "LateFallsModel", name := "isWord", desc := "(Ljava/lang/String;)Z" } : Jvm.MethodName)) ∈ wA := wA_ofP 46 rfl rfl
set_option maxRecDepth 100000 in
theorem wp_47 : (Jvm.Cond.selects "LateFallsModel" ({ cls := "LateFallsModel", name := "blames", desc := "(I)V" } : Jvm.MethodName) ({ cls := "LateFallsModel", name := "blames", desc := "(I)V" } : Jvm.MethodName)) ∈ wA := wA_ofP 47 rfl rfl
set_option maxRecDepth 100000 in
theorem wp_48 : (Jvm.Cond.selects "LateFallsModel" ({ cls := "LateFallsModel", name := "number", desc := "(II)I" } : Jvm.MethodName) ({ cls := "LateFallsModel", name := "number", desc := "(II)I" } : Jvm.MethodName)) ∈ wA := wA_ofP 48 rfl rfl
set_option maxRecDepth 100000 in
theorem wp_49 : (Jvm.Cond.selects "LateFallsModel" ({ cls := "LateFallsModel", name := "readStop", desc := "()V" } : Jvm.MethodName) ({ cls := "LateFallsModel", name := "readStop", desc := "()V" } : Jvm.MethodName)) ∈ wA := wA_ofP 49 rfl rfl
set_option maxRecDepth 100000 in
theorem wp_50 : (Jvm.Cond.selects "LateFallsModel" ({ cls := "LateFallsModel", name := "mustSign", desc := "(I)V" } : Jvm.MethodName) ({ cls := "LateFallsModel", name := "mustSign", desc := "(I)V" } : Jvm.MethodName)) ∈ wA := wA_ofP 50 rfl rfl
set_option maxRecDepth 100000 in
theorem wp_51 : (Jvm.Cond.selects "LateFallsModel" ({ cls := "LateFallsModel", name := "readLine", desc := "()V" } : Jvm.MethodName) ({ cls := "LateFallsModel", name := "readLine", desc := "()V" } : Jvm.MethodName)) ∈ wA := wA_ofP 51 rfl rfl
set_option maxRecDepth 100000 in
theorem wp_52 : (Jvm.Cond.selects "LateFallsModel" ({ cls := "LateFallsModel", name := "readThing", desc := "()V" } : Jvm.MethodName) ({ cls := "LateFallsModel", name := "readThing", desc := "()V" } : Jvm.MethodName)) ∈ wA := wA_ofP 52 rfl rfl
set_option maxRecDepth 100000 in
theorem wp_53 : (Jvm.Cond.selects "LateFallsModel" ({ cls := "LateFallsModel", name := "begins", desc := "(II)Z" } : Jvm.MethodName) ({ cls := "LateFallsModel", name := "begins", desc := "(II)Z" } : Jvm.MethodName)) ∈ wA := wA_ofP 53 rfl rfl
set_option maxRecDepth 100000 in
theorem wp_54 : (Jvm.Cond.selects "LateFallsModel" ({ cls := "LateFallsModel", name := "lays", desc := "(IIIII)V" } : Jvm.MethodName) ({ cls := "LateFallsModel", name := "lays", desc := "(IIIII)V" } : Jvm.MethodName)) ∈ wA := wA_ofP 54 rfl rfl
set_option maxRecDepth 100000 in
theorem wp_55 : (Jvm.Cond.selects "LateFallsModel" ({ cls := "LateFallsModel", name := "readUp", desc := "(I)V" } : Jvm.MethodName) ({ cls := "LateFallsModel", name := "readUp", desc := "(I)V" } : Jvm.MethodName)) ∈ wA := wA_ofP 55 rfl rfl
set_option maxRecDepth 100000 in
theorem wp_56 : (Jvm.Cond.selects "LateFallsModel" ({ cls := "LateFallsModel", name := "readOn", desc := "(I)V" } : Jvm.MethodName) ({ cls := "LateFallsModel", name := "readOn", desc := "(I)V" } : Jvm.MethodName)) ∈ wA := wA_ofP 56 rfl rfl
set_option maxRecDepth 100000 in
theorem wp_57 : (Jvm.Cond.selects "LateFallsModel" ({ cls := "LateFallsModel", name := "readWalker", desc := "()V" } : Jvm.MethodName) ({ cls := "LateFallsModel", name := "readWalker", desc := "()V" } : Jvm.MethodName)) ∈ wA := wA_ofP 57 rfl rfl
set_option maxRecDepth 100000 in
theorem wp_58 : (Jvm.Cond.selects "LateFallsModel" ({ cls := "LateFallsModel", name := "beginsLaw", desc := "(II)V" } : Jvm.MethodName) ({ cls := "LateFallsModel", name := "beginsLaw", desc := "(II)V" } : Jvm.MethodName)) ∈ wA := wA_ofP 58 rfl rfl
set_option maxRecDepth 100000 in
theorem wp_59 : (Jvm.Cond.selects "LateFallsModel" ({ cls := "LateFallsModel", name := "readSum", desc := "()V" } : Jvm.MethodName) ({ cls := "LateFallsModel", name := "readSum", desc := "()V" } : Jvm.MethodName)) ∈ wA := wA_ofP 59 rfl rfl
set_option maxRecDepth 100000 in
theorem wp_60 : (Jvm.Cond.selects "LateFallsModel" ({ cls := "LateFallsModel", name := "readTerm", desc := "()V" } : Jvm.MethodName) ({ cls := "LateFallsModel", name := "readTerm", desc := "()V" } : Jvm.MethodName)) ∈ wA := wA_ofP 60 rfl rfl
set_option maxRecDepth 100000 in
theorem wp_61 : (Jvm.Cond.selects "LateFallsModel" ({ cls := "LateFallsModel", name := "readAtom", desc := "()V" } : Jvm.MethodName) ({ cls := "LateFallsModel", name := "readAtom", desc := "()V" } : Jvm.MethodName)) ∈ wA := wA_ofP 61 rfl rfl
set_option maxRecDepth 100000 in
theorem wp_62 : (Jvm.Cond.selects "LateFallsModel" ({ cls := "LateFallsModel", name := "lawWord", desc := "()I" } : Jvm.MethodName) ({ cls := "LateFallsModel", name := "lawWord", desc := "()I" } : Jvm.MethodName)) ∈ wA := wA_ofP 62 rfl rfl
set_option maxRecDepth 100000 in
theorem wp_63 : (Jvm.Cond.selects "LateFallsModel" ({ cls := "LateFallsModel", name := "hangWord", desc := "()I" } : Jvm.MethodName) ({ cls := "LateFallsModel", name := "hangWord", desc := "()I" } : Jvm.MethodName)) ∈ wA := wA_ofP 63 rfl rfl
set_option maxRecDepth 100000 in
theorem wp_64 : (Jvm.Cond.selects "LateFallsModel" ({ cls := "LateFallsModel", name := "freeWord", desc := "()I" } : Jvm.MethodName) ({ cls := "LateFallsModel", name := "freeWord", desc := "()I" } : Jvm.MethodName)) ∈ wA := wA_ofP 64 rfl rfl
set_option maxRecDepth 100000 in
theorem wp_65 : (Jvm.Cond.selects "LateFallsModel" ({ cls := "LateFallsModel", name := "laysStep", desc := "(I)V" } : Jvm.MethodName) ({ cls := "LateFallsModel", name := "laysStep", desc := "(I)V" } : Jvm.MethodName)) ∈ wA := wA_ofP 65 rfl rfl
set_option maxRecDepth 100000 in
theorem wp_66 : (Jvm.Cond.selects "LateFallsModel" ({ cls := "LateFallsModel", name := "isSign", desc := "(I)Z" } : Jvm.MethodName) ({ cls := "LateFallsModel", name := "isSign", desc := "(I)Z" } : Jvm.MethodName)) ∈ wA := wA_ofP 66 rfl rfl
set_option maxRecDepth 100000 in
theorem wp_67 : (Jvm.Cond.selects "LateFallsModel" ({ cls := "LateFallsModel", name := "goesIn", desc := "()V" } : Jvm.MethodName) ({ cls := "LateFallsModel", name := "goesIn", desc := "()V" } : Jvm.MethodName)) ∈ wA := wA_ofP 67 rfl rfl
set_option maxRecDepth 100000 in
theorem wp_68 : (Jvm.Cond.selects "LateFallsModel" ({ cls := "LateFallsModel", name := "readTruth", desc := "()V" } : Jvm.MethodName) ({ cls := "LateFallsModel", name := "readTruth", desc := "()V" } : Jvm.MethodName)) ∈ wA := wA_ofP 68 rfl rfl
set_option maxRecDepth 100000 in
theorem wp_69 : (Jvm.Cond.selects "LateFallsModel" ({ cls := "LateFallsModel", name := "readBoth", desc := "()V" } : Jvm.MethodName) ({ cls := "LateFallsModel", name := "readBoth", desc := "()V" } : Jvm.MethodName)) ∈ wA := wA_ofP 69 rfl rfl
set_option maxRecDepth 100000 in
theorem wp_70 : (Jvm.Cond.selects "LateFallsModel" ({ cls := "LateFallsModel", name := "readUnit", desc := "()V" } : Jvm.MethodName) ({ cls := "LateFallsModel", name := "readUnit", desc := "()V" } : Jvm.MethodName)) ∈ wA := wA_ofP 70 rfl rfl
set_option maxRecDepth 100000 in
theorem wp_71 : (Jvm.Cond.selects "LateFallsModel" ({ cls := "LateFallsModel", name := "things", desc := "()I" } : Jvm.MethodName) ({ cls := "LateFallsModel", name := "things", desc := "()I" } : Jvm.MethodName)) ∈ wA := wA_ofP 71 rfl rfl
set_option maxRecDepth 100000 in
theorem wp_72 : (Jvm.Cond.selects "LateFallsModel" ({ cls := "LateFallsModel", name := "is", desc := "(II)Z" } : Jvm.MethodName) ({ cls := "LateFallsModel", name := "is", desc := "(II)Z" } : Jvm.MethodName)) ∈ wA := wA_ofP 72 rfl rfl
set_option maxRecDepth 100000 in
theorem wp_73 : (Jvm.Cond.selects "LateFallsModel" ({ cls := "LateFallsModel", name := "isThing", desc := "(J)Z" } : Jvm.MethodName) ({ cls := "LateFallsModel", name := "isThing", desc := "(J)Z" } : Jvm.MethodName)) ∈ wA := wA_ofP 73 rfl rfl
set_option maxRecDepth 100000 in
theorem wp_74 : (Jvm.Cond.selects "LateFallsModel" ({ cls := "LateFallsModel", name := "isWalker", desc := "(I)Z" } : Jvm.MethodName) ({ cls := "LateFallsModel", name := "isWalker", desc := "(I)Z" } : Jvm.MethodName)) ∈ wA := wA_ofP 74 rfl rfl
set_option maxRecDepth 100000 in
theorem wp_75 : (Jvm.Cond.selects "LateFallsModel" ({ cls := "LateFallsModel", name := "walks", desc := "(II)I" } : Jvm.MethodName) ({ cls := "LateFallsModel", name := "walks", desc := "(II)I" } : Jvm.MethodName)) ∈ wA := wA_ofP 75 rfl rfl
set_option maxRecDepth 100000 in
theorem wp_76 : (Jvm.Cond.selects "LateFallsModel" ({ cls := "LateFallsModel", name := "isColumn", desc := "(J)Z" } : Jvm.MethodName) ({ cls := "LateFallsModel", name := "isColumn", desc := "(J)Z" } : Jvm.MethodName)) ∈ wA := wA_ofP 76 rfl rfl
set_option maxRecDepth 100000 in
theorem wp_77 : (Jvm.Cond.selects "LateFallsModel" ({ cls := "LateFallsModel", name := "lying", desc := "(I)I" } : Jvm.MethodName) ({ cls := "LateFallsModel", name := "lying", desc := "(I)I" } : Jvm.MethodName)) ∈ wA := wA_ofP 77 rfl rfl
set_option maxRecDepth 100000 in
theorem wp_78 : (Jvm.Cond.selects "LateFallsModel" ({ cls := "LateFallsModel", name := "isPlace", desc := "(JJ)Z" } : Jvm.MethodName) ({ cls := "LateFallsModel", name := "isPlace", desc := "(JJ)Z" } : Jvm.MethodName)) ∈ wA := wA_ofP 78 rfl rfl
set_option maxRecDepth 100000 in
theorem wp_79 : (Jvm.Cond.selects "LateFallsModel" ({ cls := "LateFallsModel", name := "hangsFor", desc := "(IIIII)I" } : Jvm.MethodName) ({ cls := "LateFallsModel", name := "hangsFor", desc := "(IIIII)I" } : Jvm.MethodName)) ∈ wA := wA_ofP 79 rfl rfl
set_option maxRecDepth 100000 in
theorem wp_80 : (Jvm.Cond.selects "LateFallsModel" ({ cls := "LateFallsModel", name := "lawOf", desc := "(II)I" } : Jvm.MethodName) ({ cls := "LateFallsModel", name := "lawOf", desc := "(II)I" } : Jvm.MethodName)) ∈ wA := wA_ofP 80 rfl rfl
set_option maxRecDepth 100000 in
theorem wp_81 : (Jvm.Cond.selects "LateFallsModel" ({ cls := "LateFallsModel", name := "whyLet", desc := "(JJJ)I" } : Jvm.MethodName) ({ cls := "LateFallsModel", name := "whyLet", desc := "(JJJ)I" } : Jvm.MethodName)) ∈ wA := wA_ofP 81 rfl rfl
set_option maxRecDepth 100000 in
theorem wp_82 : (Jvm.Cond.selects "LateFallsModel" ({ cls := "LateFallsModel", name := "keeps", desc := "()V" } : Jvm.MethodName) ({ cls := "LateFallsModel", name := "keeps", desc := "()V" } : Jvm.MethodName)) ∈ wA := wA_ofP 82 rfl rfl
set_option maxRecDepth 100000 in
theorem wp_83 : (Jvm.Cond.selects "LateFallsModel" ({ cls := "LateFallsModel", name := "lets", desc := "(III)I" } : Jvm.MethodName) ({ cls := "LateFallsModel", name := "lets", desc := "(III)I" } : Jvm.MethodName)) ∈ wA := wA_ofP 83 rfl rfl
set_option maxRecDepth 100000 in
theorem wp_84 : (Jvm.Cond.selects "LateFallsModel" ({ cls := "LateFallsModel", name := "drops", desc := "(II)V" } : Jvm.MethodName) ({ cls := "LateFallsModel", name := "drops", desc := "(II)V" } : Jvm.MethodName)) ∈ wA := wA_ofP 84 rfl rfl
set_option maxRecDepth 100000 in
theorem wp_85 : (Jvm.Cond.selects "LateFallsModel" ({ cls := "LateFallsModel", name := "fallingWith", desc := "(II)I" } : Jvm.MethodName) ({ cls := "LateFallsModel", name := "fallingWith", desc := "(II)I" } : Jvm.MethodName)) ∈ wA := wA_ofP 85 rfl rfl
set_option maxRecDepth 100000 in
theorem wp_86 : (Jvm.Cond.selects "LateFallsModel" ({ cls := "LateFallsModel", name := "hangsIn", desc := "(II)Z" } : Jvm.MethodName) ({ cls := "LateFallsModel", name := "hangsIn", desc := "(II)Z" } : Jvm.MethodName)) ∈ wA := wA_ofP 86 rfl rfl
set_option maxRecDepth 100000 in
theorem wp_87 : (Jvm.Cond.selects "LateFallsModel" ({ cls := "LateFallsModel", name := "comesToo", desc := "(III)Z" } : Jvm.MethodName) ({ cls := "LateFallsModel", name := "comesToo", desc := "(III)Z" } : Jvm.MethodName)) ∈ wA := wA_ofP 87 rfl rfl
set_option maxRecDepth 100000 in
theorem wp_88 : (Jvm.Cond.selects "LateFallsModel" ({ cls := "LateFallsModel", name := "setsFree", desc := "(II)Z" } : Jvm.MethodName) ({ cls := "LateFallsModel", name := "setsFree", desc := "(II)Z" } : Jvm.MethodName)) ∈ wA := wA_ofP 88 rfl rfl
set_option maxRecDepth 100000 in
theorem wp_89 : (Jvm.Cond.selects "LateFallsModel" ({ cls := "LateFallsModel", name := "whyTake", desc := "(J)I" } : Jvm.MethodName) ({ cls := "LateFallsModel", name := "whyTake", desc := "(J)I" } : Jvm.MethodName)) ∈ wA := wA_ofP 89 rfl rfl
set_option maxRecDepth 100000 in
theorem wp_90 : (Jvm.Cond.selects "LateFallsModel" ({ cls := "LateFallsModel", name := "takes", desc := "(I)V" } : Jvm.MethodName) ({ cls := "LateFallsModel", name := "takes", desc := "(I)V" } : Jvm.MethodName)) ∈ wA := wA_ofP 90 rfl rfl
set_option maxRecDepth 100000 in
theorem wp_91 : (Jvm.Cond.selects "LateFallsModel" ({ cls := "LateFallsModel", name := "quakes", desc := "()I" } : Jvm.MethodName) ({ cls := "LateFallsModel", name := "quakes", desc := "()I" } : Jvm.MethodName)) ∈ wA := wA_ofP 91 rfl rfl
set_option maxRecDepth 100000 in
theorem wp_92 : (Jvm.Cond.selects "LateFallsModel" ({ cls := "LateFallsModel", name := "fallAll", desc := "(Z)V" } : Jvm.MethodName) ({ cls := "LateFallsModel", name := "fallAll", desc := "(Z)V" } : Jvm.MethodName)) ∈ wA := wA_ofP 92 rfl rfl
set_option maxRecDepth 100000 in
theorem wp_93 : (Jvm.Cond.selects "LateFallsModel" ({ cls := "LateFallsModel", name := "hour", desc := "()V" } : Jvm.MethodName) ({ cls := "LateFallsModel", name := "hour", desc := "()V" } : Jvm.MethodName)) ∈ wA := wA_ofP 93 rfl rfl
set_option maxRecDepth 100000 in
theorem wp_94 : (Jvm.Cond.selects "LateFallsModel" ({ cls := "LateFallsModel", name := "goesTo", desc := "(I)V" } : Jvm.MethodName) ({ cls := "LateFallsModel", name := "goesTo", desc := "(I)V" } : Jvm.MethodName)) ∈ wA := wA_ofP 94 rfl rfl
set_option maxRecDepth 100000 in
theorem wp_95 : (Jvm.Cond.selects "LateFallsModel" ({ cls := "LateFallsModel", name := "trayFault", desc := "(I)I" } : Jvm.MethodName) ({ cls := "LateFallsModel", name := "trayFault", desc := "(I)I" } : Jvm.MethodName)) ∈ wA := wA_ofP 95 rfl rfl
set_option maxRecDepth 100000 in
theorem wp_96 : (Jvm.Cond.selects "LateFallsModel" ({ cls := "LateFallsModel", name := "putsAside", desc := "()V" } : Jvm.MethodName) ({ cls := "LateFallsModel", name := "putsAside", desc := "()V" } : Jvm.MethodName)) ∈ wA := wA_ofP 96 rfl rfl
set_option maxRecDepth 100000 in
theorem wp_97 : (Jvm.Cond.selects "LateFallsModel" ({ cls := "LateFallsModel", name := "whyTold", desc := "(J)I" } : Jvm.MethodName) ({ cls := "LateFallsModel", name := "whyTold", desc := "(J)I" } : Jvm.MethodName)) ∈ wA := wA_ofP 97 rfl rfl
set_option maxRecDepth 100000 in
theorem wp_98 : (Jvm.Cond.selects "LateFallsModel" ({ cls := "LateFallsModel", name := "does", desc := "(I)V" } : Jvm.MethodName) ({ cls := "LateFallsModel", name := "does", desc := "(I)V" } : Jvm.MethodName)) ∈ wA := wA_ofP 98 rfl rfl
set_option maxRecDepth 100000 in
theorem wp_99 : (Jvm.Cond.selects "LateFallsModel" ({ cls := "LateFallsModel", name := "lyingAll", desc := "()I" } : Jvm.MethodName) ({ cls := "LateFallsModel", name := "lyingAll", desc := "()I" } : Jvm.MethodName)) ∈ wA := wA_ofP 99 rfl rfl
set_option maxRecDepth 100000 in
theorem wp_100 : (Jvm.Cond.selects "LateFallsModel" ({ cls := "LateFallsModel", name := "hurtAll", desc := "()I" } : Jvm.MethodName) ({ cls := "LateFallsModel", name := "hurtAll", desc := "()I" } : Jvm.MethodName)) ∈ wA := wA_ofP 100 rfl rfl
set_option maxRecDepth 100000 in
theorem wp_101 : (Jvm.Cond.selects "LateFallsModel" ({ cls := "LateFallsModel", name := "putsBack", desc := "()V" } : Jvm.MethodName) ({ cls := "LateFallsModel", name := "putsBack", desc := "()V" } : Jvm.MethodName)) ∈ wA := wA_ofP 101 rfl rfl
set_option maxRecDepth 100000 in
theorem wp_102 : (Jvm.Cond.selects "LateFallsModel" ({ cls := "LateFallsModel", name := "draw", desc := "(I)I" } : Jvm.MethodName) ({ cls := "LateFallsModel", name := "draw", desc := "(I)I" } : Jvm.MethodName)) ∈ wA := wA_ofP 102 rfl rfl
set_option maxRecDepth 100000 in
theorem wp_103 : (Jvm.Cond.selects "LateFallsModel" ({ cls := "LateFallsModel", name := "fallsIn", desc := "(I)I" } : Jvm.MethodName) ({ cls := "LateFallsModel", name := "fallsIn", desc := "(I)I" } : Jvm.MethodName)) ∈ wA := wA_ofP 103 rfl rfl
set_option maxRecDepth 100000 in
theorem wp_104 : (Jvm.Cond.selects "LateFallsModel" ({ cls := "LateFallsModel", name := "nextHour", desc := "()I" } : Jvm.MethodName) ({ cls := "LateFallsModel", name := "nextHour", desc := "()I" } : Jvm.MethodName)) ∈ wA := wA_ofP 104 rfl rfl
set_option maxRecDepth 100000 in
theorem wp_105 : (Jvm.Cond.selects "LateFallsModel" ({ cls := "LateFallsModel", name := "nextFall", desc := "(I)Z" } : Jvm.MethodName) ({ cls := "LateFallsModel", name := "nextFall", desc := "(I)Z" } : Jvm.MethodName)) ∈ wA := wA_ofP 105 rfl rfl
set_option maxRecDepth 100000 in
theorem wp_106 : (Jvm.Cond.selects "LateFallsModel" ({ cls := "LateFallsModel", name := "hurtsOf", desc := "(I)I" } : Jvm.MethodName) ({ cls := "LateFallsModel", name := "hurtsOf", desc := "(I)I" } : Jvm.MethodName)) ∈ wA := wA_ofP 106 rfl rfl
set_option maxRecDepth 100000 in
theorem wp_107 : (Jvm.Cond.selects "LateFallsModel" ({ cls := "LateFallsModel", name := "isWaitOut", desc := "(III)Z" } : Jvm.MethodName) ({ cls := "LateFallsModel", name := "isWaitOut", desc := "(III)Z" } : Jvm.MethodName)) ∈ wA := wA_ofP 107 rfl rfl
set_option maxRecDepth 100000 in
theorem wp_108 : (Jvm.Cond.selects "LateFallsModel" ({ cls := "LateFallsModel", name := "laysWait", desc := "(IIII)V" } : Jvm.MethodName) ({ cls := "LateFallsModel", name := "laysWait", desc := "(IIII)V" } : Jvm.MethodName)) ∈ wA := wA_ofP 108 rfl rfl
set_option maxRecDepth 100000 in
theorem wp_109 : (Jvm.Cond.selects "LateFallsModel" ({ cls := "LateFallsModel", name := "leastWait", desc := "(IIII)I" } : Jvm.MethodName) ({ cls := "LateFallsModel", name := "leastWait", desc := "(IIII)I" } : Jvm.MethodName)) ∈ wA := wA_ofP 109 rfl rfl
set_option maxRecDepth 100000 in
theorem wp_110 : (Jvm.Cond.selects "LateFallsModel" ({ cls := "LateFallsModel", name := "walkersIn", desc := "(II)I" } : Jvm.MethodName) ({ cls := "LateFallsModel", name := "walkersIn", desc := "(II)I" } : Jvm.MethodName)) ∈ wA := wA_ofP 110 rfl rfl
set_option maxRecDepth 100000 in
theorem wp_111 : (Jvm.Cond.selects "LateFallsModel" ({ cls := "LateFallsModel", name := "laysWay", desc := "(II)I" } : Jvm.MethodName) ({ cls := "LateFallsModel", name := "laysWay", desc := "(II)I" } : Jvm.MethodName)) ∈ wA := wA_ofP 111 rfl rfl
set_option maxRecDepth 100000 in
theorem wp_112 : (Jvm.Cond.selects "LateFallsModel" ({ cls := "LateFallsModel", name := "laysComes", desc := "(I)V" } : Jvm.MethodName) ({ cls := "LateFallsModel", name := "laysComes", desc := "(I)V" } : Jvm.MethodName)) ∈ wA := wA_ofP 112 rfl rfl
set_option maxRecDepth 100000 in
theorem wp_113 : (Jvm.Cond.selects "LateFallsModel" ({ cls := "LateFallsModel", name := "laysFalling", desc := "()V" } : Jvm.MethodName) ({ cls := "LateFallsModel", name := "laysFalling", desc := "()V" } : Jvm.MethodName)) ∈ wA := wA_ofP 113 rfl rfl
set_option maxRecDepth 100000 in
theorem wp_114 : (Jvm.Cond.selects "LateFallsModel" ({ cls := "LateFallsModel", name := "beside", desc := "(I)I" } : Jvm.MethodName) ({ cls := "LateFallsModel", name := "beside", desc := "(I)I" } : Jvm.MethodName)) ∈ wA := wA_ofP 114 rfl rfl
set_option maxRecDepth 100000 in
theorem wp_115 : (Jvm.Cond.selects "LateFallsModel" ({ cls := "LateFallsModel", name := "allColumns", desc := "()I" } : Jvm.MethodName) ({ cls := "LateFallsModel", name := "allColumns", desc := "()I" } : Jvm.MethodName)) ∈ wA := wA_ofP 115 rfl rfl
set_option maxRecDepth 100000 in
theorem wp_116 : (Jvm.Cond.selects "LateFallsModel" ({ cls := "LateFallsModel", name := "countsOn", desc := "(I)V" } : Jvm.MethodName) ({ cls := "LateFallsModel", name := "countsOn", desc := "(I)V" } : Jvm.MethodName)) ∈ wA := wA_ofP 116 rfl rfl
set_option maxRecDepth 100000 in
theorem wp_117 : (Jvm.Cond.selects "LateFallsModel" ({ cls := "LateFallsModel", name := "isGoneOut", desc := "(III)Z" } : Jvm.MethodName) ({ cls := "LateFallsModel", name := "isGoneOut", desc := "(III)Z" } : Jvm.MethodName)) ∈ wA := wA_ofP 117 rfl rfl
set_option maxRecDepth 100000 in
theorem wp_118 : (Jvm.Cond.selects "LateFallsModel" ({ cls := "LateFallsModel", name := "laysLet", desc := "(IIII)I" } : Jvm.MethodName) ({ cls := "LateFallsModel", name := "laysLet", desc := "(IIII)I" } : Jvm.MethodName)) ∈ wA := wA_ofP 118 rfl rfl
set_option maxRecDepth 100000 in
theorem wp_119 : (Jvm.Cond.selects "LateFallsModel" ({ cls := "LateFallsModel", name := "isJust", desc := "(IIIII)Z" } : Jvm.MethodName) ({ cls := "LateFallsModel", name := "isJust", desc := "(IIIII)Z" } : Jvm.MethodName)) ∈ wA := wA_ofP 119 rfl rfl
set_option maxRecDepth 100000 in
theorem wp_120 : (Jvm.Cond.selects "LateFallsModel" ({ cls := "LateFallsModel", name := "cut", desc := "(IIJ)J" } : Jvm.MethodName) ({ cls := "LateFallsModel", name := "cut", desc := "(IIJ)J" } : Jvm.MethodName)) ∈ wA := wA_ofP 120 rfl rfl
set_option maxRecDepth 100000 in
theorem wp_121 : (Jvm.Cond.selects "LateFallsModel" ({ cls := "LateFallsModel", name := "allThat", desc := "(I)I" } : Jvm.MethodName) ({ cls := "LateFallsModel", name := "allThat", desc := "(I)I" } : Jvm.MethodName)) ∈ wA := wA_ofP 121 rfl rfl
