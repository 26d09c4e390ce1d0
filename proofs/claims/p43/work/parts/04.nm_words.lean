def wA : List Cond := lw_tbl.filter goodWord
theorem wA_of {w : Cond} (i : Nat) (h : tables_1[i]? = some w) (h2 : goodWord w = true) : w ∈ wA := List.mem_filter.mpr ⟨List.mem_append_right _ (List.mem_of_getElem? h), h2⟩
theorem wA_ofP {w : Cond} (i : Nat) (h : (k2_sels lw_privs)[i]? = some w) (h2 : goodWord w = true) : w ∈ wA := List.mem_filter.mpr ⟨List.mem_append_left _ (List.mem_of_getElem? h), h2⟩
set_option maxRecDepth 100000 in
theorem wd_0 : (Jvm.Cond.initialized "LateFallsLaw") ∈ wA := wA_of 0 rfl rfl
set_option maxRecDepth 100000 in
theorem wd_1 : (Jvm.Cond.initialized "LateFalls") ∈ wA := wA_of 1 rfl rfl
set_option maxRecDepth 100000 in
theorem wd_2 : (Jvm.Cond.initialized "LateFalls$Ways") ∈ wA := wA_of 2 rfl rfl
set_option maxRecDepth 100000 in
theorem wd_3 : (Jvm.Cond.initialized "LateFalls$District") ∈ wA := wA_of 3 rfl rfl
set_option maxRecDepth 100000 in
theorem wd_4 : (Jvm.Cond.initialized "LateFalls$Reader") ∈ wA := wA_of 4 rfl rfl
set_option maxRecDepth 100000 in
theorem wd_5 : (Jvm.Cond.initialized "LateFalls$Tokens") ∈ wA := wA_of 5 rfl rfl
set_option maxRecDepth 100000 in
theorem wd_6 : (Jvm.Cond.initialized "LateFalls$Scene") ∈ wA := wA_of 6 rfl rfl
set_option maxRecDepth 100000 in
theorem wd_7 : (Jvm.Cond.initialized "LateFalls$History") ∈ wA := wA_of 7 rfl rfl
set_option maxRecDepth 100000 in
theorem wd_8 : (Jvm.Cond.initialized "LateFalls$Forecast") ∈ wA := wA_of 8 rfl rfl
set_option maxRecDepth 100000 in
theorem wd_9 : (Jvm.Cond.initialized "LateFalls$Tray") ∈ wA := wA_of 9 rfl rfl
set_option maxRecDepth 100000 in
theorem wd_10 : (Jvm.Cond.initialized "LateFallsModel") ∈ wA := wA_of 10 rfl rfl
set_option maxRecDepth 100000 in
theorem wd_11 : (Jvm.Cond.initialized "java/lang/Throwable") ∈ wA := wA_of 11 rfl rfl
set_option maxRecDepth 100000 in
theorem wd_12 : (Jvm.Cond.initialized "java/lang/Exception") ∈ wA := wA_of 12 rfl rfl
set_option maxRecDepth 100000 in
theorem wd_13 : (Jvm.Cond.initialized "java/lang/RuntimeException") ∈ wA := wA_of 13 rfl rfl
set_option maxRecDepth 100000 in
theorem wd_14 : (Jvm.Cond.initialized "java/lang/IllegalArgumentException") ∈ wA := wA_of 14 rfl rfl
set_option maxRecDepth 100000 in
theorem wd_15 : (Jvm.Cond.initialized "java/lang/String") ∈ wA := wA_of 15 rfl rfl
set_option maxRecDepth 100000 in
theorem wd_16 : (Jvm.Cond.initialized "java/lang/StringLatin1") ∈ wA := wA_of 16 rfl rfl
set_option maxRecDepth 100000 in
theorem wd_17 : (Jvm.Cond.initialized "jdk/internal/util/Preconditions") ∈ wA := wA_of 17 rfl rfl
set_option maxRecDepth 100000 in
theorem wd_18 : (Jvm.Cond.initialized "java/lang/StringUTF16") ∈ wA := wA_of 18 rfl rfl
set_option maxRecDepth 100000 in
theorem wd_19 : (Jvm.Cond.initialized "java/lang/Math") ∈ wA := wA_of 19 rfl rfl
set_option maxRecDepth 100000 in
theorem wd_20 : (Jvm.Cond.initialized "java/lang/Character") ∈ wA := wA_of 20 rfl rfl
set_option maxRecDepth 100000 in
theorem wd_21 : (Jvm.Cond.initialized "LateFalls$Law") ∈ wA := wA_of 21 rfl rfl
set_option maxRecDepth 100000 in
theorem wd_22 : (Jvm.Cond.initialized "java/lang/System") ∈ wA := wA_of 22 rfl rfl
set_option maxRecDepth 100000 in
theorem wd_23 : (Jvm.Cond.initialized "java/util/NoSuchElementException") ∈ wA := wA_of 23 rfl rfl
set_option maxRecDepth 100000 in
theorem wd_24 : (Jvm.Cond.initialized "java/lang/Integer") ∈ wA := wA_of 24 rfl rfl
set_option maxRecDepth 100000 in
theorem wd_25 : (Jvm.Cond.initialized "java/lang/IllegalStateException") ∈ wA := wA_of 25 rfl rfl
set_option maxRecDepth 100000 in
theorem wd_26 : (Jvm.Cond.initialized "java/lang/IndexOutOfBoundsException") ∈ wA := wA_of 26 rfl rfl
set_option maxRecDepth 100000 in
theorem wd_27 : (Jvm.Cond.initialized "LateFalls$Image") ∈ wA := wA_of 27 rfl rfl
set_option maxRecDepth 100000 in
theorem wd_28 : (Jvm.Cond.classLink "LateFallsLaw" (8 : Nat) "LateFalls") ∈ wA := wA_of 28 rfl rfl
set_option maxRecDepth 100000 in
theorem wd_29 : (Jvm.Cond.instantiable "LateFalls" (13 : Nat)) ∈ wA := wA_of 29 rfl rfl
set_option maxRecDepth 100000 in
theorem wd_30 : (Jvm.Cond.methodLink "LateFallsLaw" (141 : Nat) ({ cls := "LateFalls", name := "<init>", desc := "()V" } : Jvm.MethodName)) ∈ wA := wA_of 30 rfl rfl
set_option maxRecDepth 100000 in
theorem wd_31 : (Jvm.Cond.instanceMethod ({ cls := "LateFalls", name := "<init>", desc := "()V" } : Jvm.MethodName)) ∈ wA := wA_of 31 rfl rfl
set_option maxRecDepth 100000 in
theorem wd_32 : (Jvm.Cond.code ({ cls := "LateFalls", name := "<init>", desc := "()V" } : Jvm.MethodName) prog_1_method_1_code (3 : Nat) (Option.none : Option Jvm.ClassFile.FieldType)) ∈ wA := wA_of 32 rfl rfl
set_option maxRecDepth 100000 in
theorem wd_33 : (Jvm.Cond.methodLink "LateFalls" (3 : Nat) ({ cls := "java/lang/Object", name := "<init>", desc := "()V" } : Jvm.MethodName)) ∈ wA := wA_of 33 rfl rfl
set_option maxRecDepth 100000 in
theorem wd_34 : (Jvm.Cond.instanceMethod ({ cls := "java/lang/Object", name := "<init>", desc := "()V" } : Jvm.MethodName)) ∈ wA := wA_of 34 rfl rfl
set_option maxRecDepth 100000 in
theorem wd_35 : (Jvm.Cond.code ({ cls := "java/lang/Object", name := "<init>", desc := "()V" } : Jvm.MethodName) object_method_1_code (1 : Nat) (Option.none : Option Jvm.ClassFile.FieldType)) ∈ wA := wA_of 35 rfl rfl
set_option maxRecDepth 100000 in
theorem wd_36 : (Jvm.Cond.classLink "LateFalls" (19 : Nat) "LateFalls$Ways") ∈ wA := wA_of 36 rfl rfl
set_option maxRecDepth 100000 in
theorem wd_37 : (Jvm.Cond.instantiable "LateFalls$Ways" (6 : Nat)) ∈ wA := wA_of 37 rfl rfl
set_option maxRecDepth 100000 in
theorem wd_39 : (Jvm.Cond.instanceMethod ({ cls := "LateFalls$Ways", name := "<init>", desc := "()V" } : Jvm.MethodName)) ∈ wA := wA_of 39 rfl rfl
set_option maxRecDepth 100000 in
theorem wd_40 : (Jvm.Cond.code ({ cls := "LateFalls$Ways", name := "<init>", desc := "()V" } : Jvm.MethodName) prog_11_method_1_code (1 : Nat) (Option.none : Option Jvm.ClassFile.FieldType)) ∈ wA := wA_of 40 rfl rfl
set_option maxRecDepth 100000 in
theorem wd_41 : (Jvm.Cond.methodLink "LateFalls$Ways" (3 : Nat) ({ cls := "java/lang/Object", name := "<init>", desc := "()V" } : Jvm.MethodName)) ∈ wA := wA_of 41 rfl rfl
set_option maxRecDepth 100000 in
theorem wd_42 : (Jvm.Cond.fieldLink "LateFalls$Ways" (46 : Nat) "LateFalls$Ways" "all" "I") ∈ wA := wA_of 42 rfl rfl
set_option maxRecDepth 100000 in
theorem wd_43 : (Jvm.Cond.fieldLink "LateFalls$Ways" (9 : Nat) "LateFalls$Ways" "danger" "[I") ∈ wA := wA_of 43 rfl rfl
set_option maxRecDepth 100000 in
theorem wd_44 : (Jvm.Cond.fieldLink "LateFalls$Ways" (15 : Nat) "LateFalls$Ways" "reached" "[I") ∈ wA := wA_of 44 rfl rfl
set_option maxRecDepth 100000 in
theorem wd_45 : (Jvm.Cond.fieldLink "LateFalls" (360 : Nat) "LateFalls$Ways" "reached" "[I") ∈ wA := wA_of 45 rfl rfl
set_option maxRecDepth 100000 in
theorem wd_46 : (Jvm.Cond.fieldLink "LateFalls$Ways" (18 : Nat) "LateFalls$Ways" "leading" "[I") ∈ wA := wA_of 46 rfl rfl
set_option maxRecDepth 100000 in
theorem wd_47 : (Jvm.Cond.fieldLink "LateFalls$Ways" (21 : Nat) "LateFalls$Ways" "many" "[J") ∈ wA := wA_of 47 rfl rfl
set_option maxRecDepth 100000 in
theorem wd_48 : (Jvm.Cond.fieldLink "LateFalls$Ways" (25 : Nat) "LateFalls$Ways" "before" "[J") ∈ wA := wA_of 48 rfl rfl
set_option maxRecDepth 100000 in
theorem wd_49 : (Jvm.Cond.lays "LateFalls$Ways" "LateFalls$Ways" "all" "I") ∈ wA := wA_of 49 rfl rfl
set_option maxRecDepth 100000 in
theorem wd_51 : (Jvm.Cond.laysFinal "LateFalls$Ways" "LateFalls$Ways" "danger" "[I") ∈ wA := wA_of 51 rfl rfl
set_option maxRecDepth 100000 in
theorem wd_53 : (Jvm.Cond.laysFinal "LateFalls$Ways" "LateFalls$Ways" "reached" "[I") ∈ wA := wA_of 53 rfl rfl
set_option maxRecDepth 100000 in
theorem wd_55 : (Jvm.Cond.laysFinal "LateFalls$Ways" "LateFalls$Ways" "leading" "[I") ∈ wA := wA_of 55 rfl rfl
set_option maxRecDepth 100000 in
theorem wd_57 : (Jvm.Cond.laysFinal "LateFalls$Ways" "LateFalls$Ways" "many" "[J") ∈ wA := wA_of 57 rfl rfl
set_option maxRecDepth 100000 in
theorem wd_59 : (Jvm.Cond.laysFinal "LateFalls$Ways" "LateFalls$Ways" "before" "[J") ∈ wA := wA_of 59 rfl rfl
set_option maxRecDepth 100000 in
theorem wd_62 : (Jvm.Cond.arrayClass Jvm.ClassFile.FieldType.byte) ∈ wA := wA_of 62 rfl rfl
set_option maxRecDepth 100000 in
theorem wd_63 : (Jvm.Cond.arrayClass Jvm.ClassFile.FieldType.int) ∈ wA := wA_of 63 rfl rfl
set_option maxRecDepth 100000 in
theorem wd_64 : (Jvm.Cond.arrayClass Jvm.ClassFile.FieldType.long) ∈ wA := wA_of 64 rfl rfl
set_option maxRecDepth 100000 in
theorem wd_65 : (Jvm.Cond.classLink "LateFalls" (30 : Nat) "LateFalls$Tray") ∈ wA := wA_of 65 rfl rfl
set_option maxRecDepth 100000 in
theorem wd_67 : (Jvm.Cond.classLink "LateFalls" (36 : Nat) "LateFalls$Image") ∈ wA := wA_of 67 rfl rfl
set_option maxRecDepth 100000 in
theorem wd_69 : (Jvm.Cond.classLink "LateFalls" (42 : Nat) "LateFalls$District") ∈ wA := wA_of 69 rfl rfl
set_option maxRecDepth 100000 in
theorem wd_70 : (Jvm.Cond.instantiable "LateFalls$District" (10 : Nat)) ∈ wA := wA_of 70 rfl rfl
set_option maxRecDepth 100000 in
theorem wd_72 : (Jvm.Cond.instanceMethod ({ cls := "LateFalls$District", name := "<init>", desc := "()V" } : Jvm.MethodName)) ∈ wA := wA_of 72 rfl rfl
set_option maxRecDepth 100000 in
theorem wd_73 : (Jvm.Cond.code ({ cls := "LateFalls$District", name := "<init>", desc := "()V" } : Jvm.MethodName) prog_2_method_1_code (1 : Nat) (Option.none : Option Jvm.ClassFile.FieldType)) ∈ wA := wA_of 73 rfl rfl
set_option maxRecDepth 100000 in
theorem wd_74 : (Jvm.Cond.methodLink "LateFalls$District" (3 : Nat) ({ cls := "java/lang/Object", name := "<init>", desc := "()V" } : Jvm.MethodName)) ∈ wA := wA_of 74 rfl rfl
set_option maxRecDepth 100000 in
theorem wd_75 : (Jvm.Cond.fieldLink "LateFalls" (117 : Nat) "LateFalls$District" "lines" "I") ∈ wA := wA_of 75 rfl rfl
set_option maxRecDepth 100000 in
theorem wd_76 : (Jvm.Cond.fieldLink "LateFalls$Reader" (102 : Nat) "LateFalls$District" "lines" "I") ∈ wA := wA_of 76 rfl rfl
set_option maxRecDepth 100000 in
theorem wd_77 : (Jvm.Cond.fieldLink "LateFalls$District" (9 : Nat) "LateFalls$District" "columns" "I") ∈ wA := wA_of 77 rfl rfl
set_option maxRecDepth 100000 in
theorem wd_78 : (Jvm.Cond.fieldLink "LateFalls$Ways" (40 : Nat) "LateFalls$District" "columns" "I") ∈ wA := wA_of 78 rfl rfl
set_option maxRecDepth 100000 in
theorem wd_79 : (Jvm.Cond.fieldLink "LateFalls$Reader" (105 : Nat) "LateFalls$District" "columns" "I") ∈ wA := wA_of 79 rfl rfl
set_option maxRecDepth 100000 in
theorem wd_80 : (Jvm.Cond.fieldLink "LateFalls" (191 : Nat) "LateFalls$District" "columns" "I") ∈ wA := wA_of 80 rfl rfl
set_option maxRecDepth 100000 in
theorem wd_81 : (Jvm.Cond.fieldLink "LateFalls$Scene" (78 : Nat) "LateFalls$District" "columns" "I") ∈ wA := wA_of 81 rfl rfl
set_option maxRecDepth 100000 in
theorem wd_82 : (Jvm.Cond.fieldLink "LateFalls$District" (15 : Nat) "LateFalls$District" "levels" "I") ∈ wA := wA_of 82 rfl rfl
set_option maxRecDepth 100000 in
theorem wd_83 : (Jvm.Cond.fieldLink "LateFalls$Reader" (108 : Nat) "LateFalls$District" "levels" "I") ∈ wA := wA_of 83 rfl rfl
set_option maxRecDepth 100000 in
theorem wd_84 : (Jvm.Cond.fieldLink "LateFalls$Scene" (102 : Nat) "LateFalls$District" "levels" "I") ∈ wA := wA_of 84 rfl rfl
set_option maxRecDepth 100000 in
theorem wd_85 : (Jvm.Cond.fieldLink "LateFalls" (271 : Nat) "LateFalls$District" "levels" "I") ∈ wA := wA_of 85 rfl rfl
set_option maxRecDepth 100000 in
theorem wd_86 : (Jvm.Cond.fieldLink "LateFalls$Scene" (44 : Nat) "LateFalls$District" "things" "I") ∈ wA := wA_of 86 rfl rfl
set_option maxRecDepth 100000 in
theorem wd_87 : (Jvm.Cond.fieldLink "LateFalls$Reader" (111 : Nat) "LateFalls$District" "things" "I") ∈ wA := wA_of 87 rfl rfl
set_option maxRecDepth 100000 in
theorem wd_88 : (Jvm.Cond.fieldLink "LateFalls" (178 : Nat) "LateFalls$District" "things" "I") ∈ wA := wA_of 88 rfl rfl
set_option maxRecDepth 100000 in
theorem wd_89 : (Jvm.Cond.fieldLink "LateFalls$District" (28 : Nat) "LateFalls$District" "walkers" "I") ∈ wA := wA_of 89 rfl rfl
set_option maxRecDepth 100000 in
theorem wd_90 : (Jvm.Cond.fieldLink "LateFalls$Scene" (49 : Nat) "LateFalls$District" "walkers" "I") ∈ wA := wA_of 90 rfl rfl
set_option maxRecDepth 100000 in
theorem wd_91 : (Jvm.Cond.fieldLink "LateFalls$Reader" (149 : Nat) "LateFalls$District" "walkers" "I") ∈ wA := wA_of 91 rfl rfl
set_option maxRecDepth 100000 in
theorem wd_92 : (Jvm.Cond.fieldLink "LateFalls" (186 : Nat) "LateFalls$District" "walkers" "I") ∈ wA := wA_of 92 rfl rfl
set_option maxRecDepth 100000 in
theorem wd_93 : (Jvm.Cond.fieldLink "LateFalls$District" (18 : Nat) "LateFalls$District" "weights" "[I") ∈ wA := wA_of 93 rfl rfl
set_option maxRecDepth 100000 in
theorem wd_94 : (Jvm.Cond.fieldLink "LateFalls" (126 : Nat) "LateFalls$District" "weights" "[I") ∈ wA := wA_of 94 rfl rfl
set_option maxRecDepth 100000 in
theorem wd_95 : (Jvm.Cond.fieldLink "LateFalls$Reader" (114 : Nat) "LateFalls$District" "weights" "[I") ∈ wA := wA_of 95 rfl rfl
set_option maxRecDepth 100000 in
theorem wd_96 : (Jvm.Cond.fieldLink "LateFalls$Scene" (52 : Nat) "LateFalls$District" "weights" "[I") ∈ wA := wA_of 96 rfl rfl
set_option maxRecDepth 100000 in
theorem wd_97 : (Jvm.Cond.fieldLink "LateFalls$District" (22 : Nat) "LateFalls$District" "rounds" "[I") ∈ wA := wA_of 97 rfl rfl
set_option maxRecDepth 100000 in
theorem wd_98 : (Jvm.Cond.fieldLink "LateFalls$Reader" (152 : Nat) "LateFalls$District" "rounds" "[I") ∈ wA := wA_of 98 rfl rfl
set_option maxRecDepth 100000 in
theorem wd_99 : (Jvm.Cond.fieldLink "LateFalls$District" (25 : Nat) "LateFalls$District" "roundLengths" "[I") ∈ wA := wA_of 99 rfl rfl
set_option maxRecDepth 100000 in
theorem wd_100 : (Jvm.Cond.fieldLink "LateFalls" (153 : Nat) "LateFalls$District" "roundLengths" "[I") ∈ wA := wA_of 100 rfl rfl
set_option maxRecDepth 100000 in
theorem wd_101 : (Jvm.Cond.fieldLink "LateFalls$Reader" (155 : Nat) "LateFalls$District" "roundLengths" "[I") ∈ wA := wA_of 101 rfl rfl
set_option maxRecDepth 100000 in
theorem wd_102 : (Jvm.Cond.fieldLink "LateFalls$District" (40 : Nat) "LateFalls$District" "hangs" "LLateFalls$Law;") ∈ wA := wA_of 102 rfl rfl
set_option maxRecDepth 100000 in
theorem wd_103 : (Jvm.Cond.fieldLink "LateFalls$Reader" (173 : Nat) "LateFalls$District" "hangs" "LLateFalls$Law;") ∈ wA := wA_of 103 rfl rfl
set_option maxRecDepth 100000 in
theorem wd_104 : (Jvm.Cond.fieldLink "LateFalls$Reader" (180 : Nat) "LateFalls$District" "frees" "LLateFalls$Law;") ∈ wA := wA_of 104 rfl rfl
set_option maxRecDepth 100000 in
theorem wd_105 : (Jvm.Cond.fieldLink "LateFalls$Scene" (114 : Nat) "LateFalls$District" "frees" "LLateFalls$Law;") ∈ wA := wA_of 105 rfl rfl
set_option maxRecDepth 100000 in
theorem wd_106 : (Jvm.Cond.lays "LateFalls$District" "LateFalls$District" "lines" "I") ∈ wA := wA_of 106 rfl rfl
set_option maxRecDepth 100000 in
theorem wd_108 : (Jvm.Cond.lays "LateFalls$District" "LateFalls$District" "columns" "I") ∈ wA := wA_of 108 rfl rfl
set_option maxRecDepth 100000 in
theorem wd_110 : (Jvm.Cond.lays "LateFalls$District" "LateFalls$District" "levels" "I") ∈ wA := wA_of 110 rfl rfl
set_option maxRecDepth 100000 in
theorem wd_112 : (Jvm.Cond.lays "LateFalls$District" "LateFalls$District" "things" "I") ∈ wA := wA_of 112 rfl rfl
set_option maxRecDepth 100000 in
theorem wd_114 : (Jvm.Cond.lays "LateFalls$District" "LateFalls$District" "walkers" "I") ∈ wA := wA_of 114 rfl rfl
set_option maxRecDepth 100000 in
theorem wd_116 : (Jvm.Cond.laysFinal "LateFalls$District" "LateFalls$District" "weights" "[I") ∈ wA := wA_of 116 rfl rfl
set_option maxRecDepth 100000 in
theorem wd_118 : (Jvm.Cond.laysFinal "LateFalls$District" "LateFalls$District" "rounds" "[I") ∈ wA := wA_of 118 rfl rfl
set_option maxRecDepth 100000 in
theorem wd_120 : (Jvm.Cond.laysFinal "LateFalls$District" "LateFalls$District" "roundLengths" "[I") ∈ wA := wA_of 120 rfl rfl
set_option maxRecDepth 100000 in
theorem wd_122 : (Jvm.Cond.lays "LateFalls$District" "LateFalls$District" "hangs" "LLateFalls$Law;") ∈ wA := wA_of 122 rfl rfl
set_option maxRecDepth 100000 in
theorem wd_124 : (Jvm.Cond.lays "LateFalls$District" "LateFalls$District" "frees" "LLateFalls$Law;") ∈ wA := wA_of 124 rfl rfl
set_option maxRecDepth 100000 in
theorem wd_127 : (Jvm.Cond.classLink "LateFalls" (45 : Nat) "LateFalls$Reader") ∈ wA := wA_of 127 rfl rfl
set_option maxRecDepth 100000 in
theorem wd_128 : (Jvm.Cond.instantiable "LateFalls$Reader" (8 : Nat)) ∈ wA := wA_of 128 rfl rfl
set_option maxRecDepth 100000 in
theorem wd_129 : (Jvm.Cond.methodLink "LateFalls" (47 : Nat) ({ cls := "LateFalls$Reader", name := "<init>", desc := "(LLateFalls$District;)V" } : Jvm.MethodName)) ∈ wA := wA_of 129 rfl rfl
set_option maxRecDepth 100000 in
theorem wd_130 : (Jvm.Cond.instanceMethod ({ cls := "LateFalls$Reader", name := "<init>", desc := "(LLateFalls$District;)V" } : Jvm.MethodName)) ∈ wA := wA_of 130 rfl rfl
set_option maxRecDepth 100000 in
theorem wd_131 : (Jvm.Cond.code ({ cls := "LateFalls$Reader", name := "<init>", desc := "(LLateFalls$District;)V" } : Jvm.MethodName) prog_7_method_1_code (2 : Nat) (Option.none : Option Jvm.ClassFile.FieldType)) ∈ wA := wA_of 131 rfl rfl
set_option maxRecDepth 100000 in
theorem wd_132 : (Jvm.Cond.methodLink "LateFalls$Reader" (3 : Nat) ({ cls := "java/lang/Object", name := "<init>", desc := "()V" } : Jvm.MethodName)) ∈ wA := wA_of 132 rfl rfl
set_option maxRecDepth 100000 in
theorem wd_133 : (Jvm.Cond.classLink "LateFalls$Reader" (9 : Nat) "LateFalls$Tokens") ∈ wA := wA_of 133 rfl rfl
set_option maxRecDepth 100000 in
theorem wd_134 : (Jvm.Cond.instantiable "LateFalls$Tokens" (6 : Nat)) ∈ wA := wA_of 134 rfl rfl
set_option maxRecDepth 100000 in
theorem wd_136 : (Jvm.Cond.instanceMethod ({ cls := "LateFalls$Tokens", name := "<init>", desc := "()V" } : Jvm.MethodName)) ∈ wA := wA_of 136 rfl rfl
set_option maxRecDepth 100000 in
theorem wd_137 : (Jvm.Cond.code ({ cls := "LateFalls$Tokens", name := "<init>", desc := "()V" } : Jvm.MethodName) prog_9_method_1_code (1 : Nat) (Option.none : Option Jvm.ClassFile.FieldType)) ∈ wA := wA_of 137 rfl rfl
set_option maxRecDepth 100000 in
theorem wd_138 : (Jvm.Cond.methodLink "LateFalls$Tokens" (3 : Nat) ({ cls := "java/lang/Object", name := "<init>", desc := "()V" } : Jvm.MethodName)) ∈ wA := wA_of 138 rfl rfl
set_option maxRecDepth 100000 in
theorem wd_139 : (Jvm.Cond.fieldLink "LateFalls$Tokens" (9 : Nat) "LateFalls$Tokens" "kinds" "[I") ∈ wA := wA_of 139 rfl rfl
set_option maxRecDepth 100000 in
theorem wd_140 : (Jvm.Cond.fieldLink "LateFalls$Tokens" (15 : Nat) "LateFalls$Tokens" "places" "[I") ∈ wA := wA_of 140 rfl rfl
set_option maxRecDepth 100000 in
theorem wd_141 : (Jvm.Cond.fieldLink "LateFalls$Tokens" (18 : Nat) "LateFalls$Tokens" "many" "I") ∈ wA := wA_of 141 rfl rfl
set_option maxRecDepth 100000 in
theorem wd_142 : (Jvm.Cond.fieldLink "LateFalls$Tokens" (49 : Nat) "LateFalls$Tokens" "current" "I") ∈ wA := wA_of 142 rfl rfl
set_option maxRecDepth 100000 in
theorem wd_143 : (Jvm.Cond.fieldLink "LateFalls$Reader" (55 : Nat) "LateFalls$Tokens" "kind" "I") ∈ wA := wA_of 143 rfl rfl
set_option maxRecDepth 100000 in
theorem wd_144 : (Jvm.Cond.fieldLink "LateFalls$Tokens" (52 : Nat) "LateFalls$Tokens" "kind" "I") ∈ wA := wA_of 144 rfl rfl
set_option maxRecDepth 100000 in
theorem wd_145 : (Jvm.Cond.fieldLink "LateFalls$Tokens" (55 : Nat) "LateFalls$Tokens" "start" "I") ∈ wA := wA_of 145 rfl rfl
set_option maxRecDepth 100000 in
theorem wd_146 : (Jvm.Cond.fieldLink "LateFalls$Reader" (90 : Nat) "LateFalls$Tokens" "start" "I") ∈ wA := wA_of 146 rfl rfl
set_option maxRecDepth 100000 in
theorem wd_147 : (Jvm.Cond.laysFinal "LateFalls$Tokens" "LateFalls$Tokens" "kinds" "[I") ∈ wA := wA_of 147 rfl rfl
set_option maxRecDepth 100000 in
theorem wd_149 : (Jvm.Cond.laysFinal "LateFalls$Tokens" "LateFalls$Tokens" "places" "[I") ∈ wA := wA_of 149 rfl rfl
set_option maxRecDepth 100000 in
theorem wd_151 : (Jvm.Cond.lays "LateFalls$Tokens" "LateFalls$Tokens" "many" "I") ∈ wA := wA_of 151 rfl rfl
set_option maxRecDepth 100000 in
theorem wd_153 : (Jvm.Cond.lays "LateFalls$Tokens" "LateFalls$Tokens" "current" "I") ∈ wA := wA_of 153 rfl rfl
set_option maxRecDepth 100000 in
theorem wd_155 : (Jvm.Cond.lays "LateFalls$Tokens" "LateFalls$Tokens" "kind" "I") ∈ wA := wA_of 155 rfl rfl
set_option maxRecDepth 100000 in
theorem wd_157 : (Jvm.Cond.lays "LateFalls$Tokens" "LateFalls$Tokens" "start" "I") ∈ wA := wA_of 157 rfl rfl
set_option maxRecDepth 100000 in
theorem wd_160 : (Jvm.Cond.classLink "LateFalls$Reader" (22 : Nat) "LateFalls$Scene") ∈ wA := wA_of 160 rfl rfl
set_option maxRecDepth 100000 in
theorem wd_161 : (Jvm.Cond.instantiable "LateFalls$Scene" (8 : Nat)) ∈ wA := wA_of 161 rfl rfl
set_option maxRecDepth 100000 in
theorem wd_162 : (Jvm.Cond.methodLink "LateFalls$Reader" (24 : Nat) ({ cls := "LateFalls$Scene", name := "<init>", desc := "(LLateFalls$District;)V" } : Jvm.MethodName)) ∈ wA := wA_of 162 rfl rfl
set_option maxRecDepth 100000 in
theorem wd_163 : (Jvm.Cond.instanceMethod ({ cls := "LateFalls$Scene", name := "<init>", desc := "(LLateFalls$District;)V" } : Jvm.MethodName)) ∈ wA := wA_of 163 rfl rfl
set_option maxRecDepth 100000 in
theorem wd_164 : (Jvm.Cond.code ({ cls := "LateFalls$Scene", name := "<init>", desc := "(LLateFalls$District;)V" } : Jvm.MethodName) prog_8_method_1_code (2 : Nat) (Option.none : Option Jvm.ClassFile.FieldType)) ∈ wA := wA_of 164 rfl rfl
set_option maxRecDepth 100000 in
theorem wd_165 : (Jvm.Cond.methodLink "LateFalls$Scene" (3 : Nat) ({ cls := "java/lang/Object", name := "<init>", desc := "()V" } : Jvm.MethodName)) ∈ wA := wA_of 165 rfl rfl
set_option maxRecDepth 100000 in
theorem wd_166 : (Jvm.Cond.fieldLink "LateFalls$Scene" (27 : Nat) "LateFalls$Scene" "district" "LLateFalls$District;") ∈ wA := wA_of 166 rfl rfl
set_option maxRecDepth 100000 in
theorem wd_167 : (Jvm.Cond.fieldLink "LateFalls$Ways" (34 : Nat) "LateFalls$Scene" "district" "LLateFalls$District;") ∈ wA := wA_of 167 rfl rfl
set_option maxRecDepth 100000 in
theorem wd_168 : (Jvm.Cond.fieldLink "LateFalls" (113 : Nat) "LateFalls$Scene" "district" "LLateFalls$District;") ∈ wA := wA_of 168 rfl rfl
set_option maxRecDepth 100000 in
theorem wd_169 : (Jvm.Cond.fieldLink "LateFalls$Forecast" (52 : Nat) "LateFalls$Scene" "district" "LLateFalls$District;") ∈ wA := wA_of 169 rfl rfl
set_option maxRecDepth 100000 in
theorem wd_170 : (Jvm.Cond.fieldLink "LateFalls$Scene" (31 : Nat) "LateFalls$Scene" "hour" "I") ∈ wA := wA_of 170 rfl rfl
set_option maxRecDepth 100000 in
theorem wd_171 : (Jvm.Cond.fieldLink "LateFalls$Forecast" (31 : Nat) "LateFalls$Scene" "hour" "I") ∈ wA := wA_of 171 rfl rfl
set_option maxRecDepth 100000 in
theorem wd_172 : (Jvm.Cond.fieldLink "LateFalls$Reader" (77 : Nat) "LateFalls$Scene" "hour" "I") ∈ wA := wA_of 172 rfl rfl
set_option maxRecDepth 100000 in
theorem wd_173 : (Jvm.Cond.fieldLink "LateFalls" (135 : Nat) "LateFalls$Scene" "hour" "I") ∈ wA := wA_of 173 rfl rfl
set_option maxRecDepth 100000 in
theorem wd_174 : (Jvm.Cond.fieldLink "LateFalls$Scene" (9 : Nat) "LateFalls$Scene" "state" "[I") ∈ wA := wA_of 174 rfl rfl
set_option maxRecDepth 100000 in
theorem wd_175 : (Jvm.Cond.fieldLink "LateFalls" (123 : Nat) "LateFalls$Scene" "state" "[I") ∈ wA := wA_of 175 rfl rfl
set_option maxRecDepth 100000 in
theorem wd_176 : (Jvm.Cond.fieldLink "LateFalls$Forecast" (71 : Nat) "LateFalls$Scene" "state" "[I") ∈ wA := wA_of 176 rfl rfl
set_option maxRecDepth 100000 in
theorem wd_177 : (Jvm.Cond.fieldLink "LateFalls$Reader" (126 : Nat) "LateFalls$Scene" "state" "[I") ∈ wA := wA_of 177 rfl rfl
set_option maxRecDepth 100000 in
theorem wd_178 : (Jvm.Cond.fieldLink "LateFalls$Scene" (15 : Nat) "LateFalls$Scene" "column" "[I") ∈ wA := wA_of 178 rfl rfl
set_option maxRecDepth 100000 in
theorem wd_179 : (Jvm.Cond.fieldLink "LateFalls" (129 : Nat) "LateFalls$Scene" "column" "[I") ∈ wA := wA_of 179 rfl rfl
set_option maxRecDepth 100000 in
theorem wd_180 : (Jvm.Cond.fieldLink "LateFalls$Reader" (136 : Nat) "LateFalls$Scene" "column" "[I") ∈ wA := wA_of 180 rfl rfl
set_option maxRecDepth 100000 in
theorem wd_181 : (Jvm.Cond.fieldLink "LateFalls$Scene" (18 : Nat) "LateFalls$Scene" "level" "[I") ∈ wA := wA_of 181 rfl rfl
set_option maxRecDepth 100000 in
theorem wd_182 : (Jvm.Cond.fieldLink "LateFalls" (132 : Nat) "LateFalls$Scene" "level" "[I") ∈ wA := wA_of 182 rfl rfl
set_option maxRecDepth 100000 in
theorem wd_183 : (Jvm.Cond.fieldLink "LateFalls$Reader" (139 : Nat) "LateFalls$Scene" "level" "[I") ∈ wA := wA_of 183 rfl rfl
set_option maxRecDepth 100000 in
theorem wd_184 : (Jvm.Cond.fieldLink "LateFalls$Scene" (21 : Nat) "LateFalls$Scene" "time" "[I") ∈ wA := wA_of 184 rfl rfl
set_option maxRecDepth 100000 in
theorem wd_185 : (Jvm.Cond.fieldLink "LateFalls" (138 : Nat) "LateFalls$Scene" "time" "[I") ∈ wA := wA_of 185 rfl rfl
set_option maxRecDepth 100000 in
theorem wd_186 : (Jvm.Cond.fieldLink "LateFalls$Reader" (129 : Nat) "LateFalls$Scene" "time" "[I") ∈ wA := wA_of 186 rfl rfl
set_option maxRecDepth 100000 in
theorem wd_187 : (Jvm.Cond.fieldLink "LateFalls$Scene" (24 : Nat) "LateFalls$Scene" "hurt" "[I") ∈ wA := wA_of 187 rfl rfl
set_option maxRecDepth 100000 in
theorem wd_188 : (Jvm.Cond.fieldLink "LateFalls" (150 : Nat) "LateFalls$Scene" "hurt" "[I") ∈ wA := wA_of 188 rfl rfl
set_option maxRecDepth 100000 in
theorem wd_189 : (Jvm.Cond.fieldLink "LateFalls$Scene" (35 : Nat) "LateFalls$Scene" "fallen" "I") ∈ wA := wA_of 189 rfl rfl
set_option maxRecDepth 100000 in
theorem wd_190 : (Jvm.Cond.fieldLink "LateFalls$Forecast" (46 : Nat) "LateFalls$Scene" "fallen" "I") ∈ wA := wA_of 190 rfl rfl
set_option maxRecDepth 100000 in
theorem wd_191 : (Jvm.Cond.fieldLink "LateFalls" (334 : Nat) "LateFalls$Scene" "fallen" "I") ∈ wA := wA_of 191 rfl rfl
set_option maxRecDepth 100000 in
theorem wd_192 : (Jvm.Cond.lays "LateFalls$Scene" "LateFalls$Scene" "district" "LLateFalls$District;") ∈ wA := wA_of 192 rfl rfl
set_option maxRecDepth 100000 in
theorem wd_194 : (Jvm.Cond.lays "LateFalls$Scene" "LateFalls$Scene" "hour" "I") ∈ wA := wA_of 194 rfl rfl
set_option maxRecDepth 100000 in
theorem wd_196 : (Jvm.Cond.laysFinal "LateFalls$Scene" "LateFalls$Scene" "state" "[I") ∈ wA := wA_of 196 rfl rfl
set_option maxRecDepth 100000 in
theorem wd_198 : (Jvm.Cond.laysFinal "LateFalls$Scene" "LateFalls$Scene" "column" "[I") ∈ wA := wA_of 198 rfl rfl
set_option maxRecDepth 100000 in
theorem wd_200 : (Jvm.Cond.laysFinal "LateFalls$Scene" "LateFalls$Scene" "level" "[I") ∈ wA := wA_of 200 rfl rfl
set_option maxRecDepth 100000 in
theorem wd_202 : (Jvm.Cond.laysFinal "LateFalls$Scene" "LateFalls$Scene" "time" "[I") ∈ wA := wA_of 202 rfl rfl
set_option maxRecDepth 100000 in
theorem wd_204 : (Jvm.Cond.laysFinal "LateFalls$Scene" "LateFalls$Scene" "hurt" "[I") ∈ wA := wA_of 204 rfl rfl
set_option maxRecDepth 100000 in
theorem wd_206 : (Jvm.Cond.lays "LateFalls$Scene" "LateFalls$Scene" "fallen" "I") ∈ wA := wA_of 206 rfl rfl
set_option maxRecDepth 100000 in
theorem wd_209 : (Jvm.Cond.fieldLink "LateFalls$Reader" (27 : Nat) "LateFalls$Reader" "start" "LLateFalls$Scene;") ∈ wA := wA_of 209 rfl rfl
set_option maxRecDepth 100000 in
theorem wd_210 : (Jvm.Cond.fieldLink "LateFalls" (103 : Nat) "LateFalls$Reader" "start" "LLateFalls$Scene;") ∈ wA := wA_of 210 rfl rfl
set_option maxRecDepth 100000 in
theorem wd_211 : (Jvm.Cond.fieldLink "LateFalls$Reader" (41 : Nat) "LateFalls$Reader" "fault" "I") ∈ wA := wA_of 211 rfl rfl
set_option maxRecDepth 100000 in
theorem wd_212 : (Jvm.Cond.fieldLink "LateFalls" (94 : Nat) "LateFalls$Reader" "fault" "I") ∈ wA := wA_of 212 rfl rfl
set_option maxRecDepth 100000 in
theorem wd_213 : (Jvm.Cond.fieldLink "LateFalls$Reader" (45 : Nat) "LateFalls$Reader" "place" "I") ∈ wA := wA_of 213 rfl rfl
set_option maxRecDepth 100000 in
theorem wd_214 : (Jvm.Cond.fieldLink "LateFalls" (100 : Nat) "LateFalls$Reader" "place" "I") ∈ wA := wA_of 214 rfl rfl
set_option maxRecDepth 100000 in
theorem wd_215 : (Jvm.Cond.fieldLink "LateFalls$Reader" (31 : Nat) "LateFalls$Reader" "draft" "LLateFalls$District;") ∈ wA := wA_of 215 rfl rfl
set_option maxRecDepth 100000 in
theorem wd_216 : (Jvm.Cond.fieldLink "LateFalls$Reader" (12 : Nat) "LateFalls$Reader" "tokens" "LLateFalls$Tokens;") ∈ wA := wA_of 216 rfl rfl
set_option maxRecDepth 100000 in
theorem wd_217 : (Jvm.Cond.fieldLink "LateFalls$Reader" (18 : Nat) "LateFalls$Reader" "code" "[I") ∈ wA := wA_of 217 rfl rfl
set_option maxRecDepth 100000 in
theorem wd_218 : (Jvm.Cond.fieldLink "LateFalls$Reader" (158 : Nat) "LateFalls$Reader" "codeLength" "I") ∈ wA := wA_of 218 rfl rfl
set_option maxRecDepth 100000 in
theorem wd_219 : (Jvm.Cond.fieldLink "LateFalls$Reader" (161 : Nat) "LateFalls$Reader" "ofHangs" "Z") ∈ wA := wA_of 219 rfl rfl
set_option maxRecDepth 100000 in
theorem wd_220 : (Jvm.Cond.laysFinal "LateFalls$Reader" "LateFalls$Reader" "start" "LLateFalls$Scene;") ∈ wA := wA_of 220 rfl rfl
set_option maxRecDepth 100000 in
theorem wd_222 : (Jvm.Cond.lays "LateFalls$Reader" "LateFalls$Reader" "fault" "I") ∈ wA := wA_of 222 rfl rfl
set_option maxRecDepth 100000 in
theorem wd_224 : (Jvm.Cond.lays "LateFalls$Reader" "LateFalls$Reader" "place" "I") ∈ wA := wA_of 224 rfl rfl
set_option maxRecDepth 100000 in
theorem wd_226 : (Jvm.Cond.lays "LateFalls$Reader" "LateFalls$Reader" "draft" "LLateFalls$District;") ∈ wA := wA_of 226 rfl rfl
set_option maxRecDepth 100000 in
theorem wd_228 : (Jvm.Cond.laysFinal "LateFalls$Reader" "LateFalls$Reader" "tokens" "LLateFalls$Tokens;") ∈ wA := wA_of 228 rfl rfl
set_option maxRecDepth 100000 in
theorem wd_230 : (Jvm.Cond.laysFinal "LateFalls$Reader" "LateFalls$Reader" "code" "[I") ∈ wA := wA_of 230 rfl rfl
set_option maxRecDepth 100000 in
theorem wd_232 : (Jvm.Cond.lays "LateFalls$Reader" "LateFalls$Reader" "codeLength" "I") ∈ wA := wA_of 232 rfl rfl
set_option maxRecDepth 100000 in
theorem wd_234 : (Jvm.Cond.lays "LateFalls$Reader" "LateFalls$Reader" "ofHangs" "Z") ∈ wA := wA_of 234 rfl rfl
set_option maxRecDepth 100000 in
theorem wd_237 : (Jvm.Cond.classLink "LateFalls" (54 : Nat) "LateFalls$Scene") ∈ wA := wA_of 237 rfl rfl
set_option maxRecDepth 100000 in
theorem wd_238 : (Jvm.Cond.methodLink "LateFalls" (56 : Nat) ({ cls := "LateFalls$Scene", name := "<init>", desc := "(LLateFalls$District;)V" } : Jvm.MethodName)) ∈ wA := wA_of 238 rfl rfl
set_option maxRecDepth 100000 in
theorem wd_239 : (Jvm.Cond.classLink "LateFalls" (61 : Nat) "LateFalls$History") ∈ wA := wA_of 239 rfl rfl
set_option maxRecDepth 100000 in
theorem wd_240 : (Jvm.Cond.instantiable "LateFalls$History" (3 : Nat)) ∈ wA := wA_of 240 rfl rfl
set_option maxRecDepth 100000 in
theorem wd_241 : (Jvm.Cond.methodLink "LateFalls" (63 : Nat) ({ cls := "LateFalls$History", name := "<init>", desc := "(LLateFalls$District;)V" } : Jvm.MethodName)) ∈ wA := wA_of 241 rfl rfl
set_option maxRecDepth 100000 in
theorem wd_242 : (Jvm.Cond.instanceMethod ({ cls := "LateFalls$History", name := "<init>", desc := "(LLateFalls$District;)V" } : Jvm.MethodName)) ∈ wA := wA_of 242 rfl rfl
set_option maxRecDepth 100000 in
theorem wd_243 : (Jvm.Cond.code ({ cls := "LateFalls$History", name := "<init>", desc := "(LLateFalls$District;)V" } : Jvm.MethodName) prog_4_method_1_code (3 : Nat) (Option.none : Option Jvm.ClassFile.FieldType)) ∈ wA := wA_of 243 rfl rfl
set_option maxRecDepth 100000 in
theorem wd_244 : (Jvm.Cond.methodLink "LateFalls$History" (3 : Nat) ({ cls := "java/lang/Object", name := "<init>", desc := "()V" } : Jvm.MethodName)) ∈ wA := wA_of 244 rfl rfl
set_option maxRecDepth 100000 in
theorem wd_245 : (Jvm.Cond.classLink "LateFalls$History" (9 : Nat) "LateFalls$Scene") ∈ wA := wA_of 245 rfl rfl
set_option maxRecDepth 100000 in
theorem wd_247 : (Jvm.Cond.methodLink "LateFalls$History" (17 : Nat) ({ cls := "LateFalls$Scene", name := "<init>", desc := "(LLateFalls$District;)V" } : Jvm.MethodName)) ∈ wA := wA_of 247 rfl rfl
set_option maxRecDepth 100000 in
theorem wd_248 : (Jvm.Cond.fieldLink "LateFalls$History" (11 : Nat) "LateFalls$History" "scenes" "[LLateFalls$Scene;") ∈ wA := wA_of 248 rfl rfl
set_option maxRecDepth 100000 in
theorem wd_249 : (Jvm.Cond.fieldLink "LateFalls$History" (20 : Nat) "LateFalls$History" "first" "I") ∈ wA := wA_of 249 rfl rfl
set_option maxRecDepth 100000 in
theorem wd_250 : (Jvm.Cond.fieldLink "LateFalls$History" (24 : Nat) "LateFalls$History" "many" "I") ∈ wA := wA_of 250 rfl rfl
set_option maxRecDepth 100000 in
theorem wd_251 : (Jvm.Cond.fieldLink "LateFalls" (227 : Nat) "LateFalls$History" "many" "I") ∈ wA := wA_of 251 rfl rfl
set_option maxRecDepth 100000 in
theorem wd_252 : (Jvm.Cond.laysFinal "LateFalls$History" "LateFalls$History" "scenes" "[LLateFalls$Scene;") ∈ wA := wA_of 252 rfl rfl
set_option maxRecDepth 100000 in
theorem wd_254 : (Jvm.Cond.lays "LateFalls$History" "LateFalls$History" "first" "I") ∈ wA := wA_of 254 rfl rfl
set_option maxRecDepth 100000 in
theorem wd_256 : (Jvm.Cond.lays "LateFalls$History" "LateFalls$History" "many" "I") ∈ wA := wA_of 256 rfl rfl
set_option maxRecDepth 100000 in
theorem wd_259 : (Jvm.Cond.classLink "LateFalls" (68 : Nat) "LateFalls$Forecast") ∈ wA := wA_of 259 rfl rfl
set_option maxRecDepth 100000 in
theorem wd_260 : (Jvm.Cond.instantiable "LateFalls$Forecast" (5 : Nat)) ∈ wA := wA_of 260 rfl rfl
set_option maxRecDepth 100000 in
theorem wd_261 : (Jvm.Cond.methodLink "LateFalls" (70 : Nat) ({ cls := "LateFalls$Forecast", name := "<init>", desc := "(LLateFalls$District;)V" } : Jvm.MethodName)) ∈ wA := wA_of 261 rfl rfl
set_option maxRecDepth 100000 in
theorem wd_262 : (Jvm.Cond.instanceMethod ({ cls := "LateFalls$Forecast", name := "<init>", desc := "(LLateFalls$District;)V" } : Jvm.MethodName)) ∈ wA := wA_of 262 rfl rfl
set_option maxRecDepth 100000 in
theorem wd_263 : (Jvm.Cond.code ({ cls := "LateFalls$Forecast", name := "<init>", desc := "(LLateFalls$District;)V" } : Jvm.MethodName) prog_3_method_1_code (2 : Nat) (Option.none : Option Jvm.ClassFile.FieldType)) ∈ wA := wA_of 263 rfl rfl
set_option maxRecDepth 100000 in
theorem wd_264 : (Jvm.Cond.methodLink "LateFalls$Forecast" (3 : Nat) ({ cls := "java/lang/Object", name := "<init>", desc := "()V" } : Jvm.MethodName)) ∈ wA := wA_of 264 rfl rfl
set_option maxRecDepth 100000 in
theorem wd_265 : (Jvm.Cond.classLink "LateFalls$Forecast" (18 : Nat) "LateFalls$Scene") ∈ wA := wA_of 265 rfl rfl
set_option maxRecDepth 100000 in
theorem wd_266 : (Jvm.Cond.methodLink "LateFalls$Forecast" (20 : Nat) ({ cls := "LateFalls$Scene", name := "<init>", desc := "(LLateFalls$District;)V" } : Jvm.MethodName)) ∈ wA := wA_of 266 rfl rfl
set_option maxRecDepth 100000 in
theorem wd_267 : (Jvm.Cond.fieldLink "LateFalls$Forecast" (23 : Nat) "LateFalls$Forecast" "ahead" "LLateFalls$Scene;") ∈ wA := wA_of 267 rfl rfl
set_option maxRecDepth 100000 in
theorem wd_268 : (Jvm.Cond.fieldLink "LateFalls$Ways" (28 : Nat) "LateFalls$Forecast" "ahead" "LLateFalls$Scene;") ∈ wA := wA_of 268 rfl rfl
set_option maxRecDepth 100000 in
theorem wd_269 : (Jvm.Cond.fieldLink "LateFalls" (240 : Nat) "LateFalls$Forecast" "ahead" "LLateFalls$Scene;") ∈ wA := wA_of 269 rfl rfl
set_option maxRecDepth 100000 in
theorem wd_270 : (Jvm.Cond.fieldLink "LateFalls$Forecast" (35 : Nat) "LateFalls$Forecast" "from" "I") ∈ wA := wA_of 270 rfl rfl
set_option maxRecDepth 100000 in
theorem wd_271 : (Jvm.Cond.fieldLink "LateFalls$Forecast" (38 : Nat) "LateFalls$Forecast" "events" "I") ∈ wA := wA_of 271 rfl rfl
set_option maxRecDepth 100000 in
theorem wd_272 : (Jvm.Cond.fieldLink "LateFalls$Ways" (49 : Nat) "LateFalls$Forecast" "events" "I") ∈ wA := wA_of 272 rfl rfl
set_option maxRecDepth 100000 in
theorem wd_273 : (Jvm.Cond.fieldLink "LateFalls" (295 : Nat) "LateFalls$Forecast" "events" "I") ∈ wA := wA_of 273 rfl rfl
set_option maxRecDepth 100000 in
theorem wd_274 : (Jvm.Cond.fieldLink "LateFalls$Forecast" (9 : Nat) "LateFalls$Forecast" "when" "[I") ∈ wA := wA_of 274 rfl rfl
set_option maxRecDepth 100000 in
theorem wd_275 : (Jvm.Cond.fieldLink "LateFalls$Ways" (52 : Nat) "LateFalls$Forecast" "when" "[I") ∈ wA := wA_of 275 rfl rfl
set_option maxRecDepth 100000 in
theorem wd_276 : (Jvm.Cond.fieldLink "LateFalls" (298 : Nat) "LateFalls$Forecast" "when" "[I") ∈ wA := wA_of 276 rfl rfl
set_option maxRecDepth 100000 in
theorem wd_277 : (Jvm.Cond.fieldLink "LateFalls$Forecast" (15 : Nat) "LateFalls$Forecast" "fallen" "[I") ∈ wA := wA_of 277 rfl rfl
set_option maxRecDepth 100000 in
theorem wd_278 : (Jvm.Cond.fieldLink "LateFalls" (301 : Nat) "LateFalls$Forecast" "fallen" "[I") ∈ wA := wA_of 278 rfl rfl
set_option maxRecDepth 100000 in
theorem wd_279 : (Jvm.Cond.laysFinal "LateFalls$Forecast" "LateFalls$Forecast" "ahead" "LLateFalls$Scene;") ∈ wA := wA_of 279 rfl rfl
set_option maxRecDepth 100000 in
theorem wd_281 : (Jvm.Cond.lays "LateFalls$Forecast" "LateFalls$Forecast" "from" "I") ∈ wA := wA_of 281 rfl rfl
set_option maxRecDepth 100000 in
theorem wd_283 : (Jvm.Cond.lays "LateFalls$Forecast" "LateFalls$Forecast" "events" "I") ∈ wA := wA_of 283 rfl rfl
set_option maxRecDepth 100000 in
theorem wd_285 : (Jvm.Cond.laysFinal "LateFalls$Forecast" "LateFalls$Forecast" "when" "[I") ∈ wA := wA_of 285 rfl rfl
set_option maxRecDepth 100000 in
theorem wd_287 : (Jvm.Cond.laysFinal "LateFalls$Forecast" "LateFalls$Forecast" "fallen" "[I") ∈ wA := wA_of 287 rfl rfl
set_option maxRecDepth 100000 in
theorem wd_290 : (Jvm.Cond.instantiable "LateFalls$Tray" (3 : Nat)) ∈ wA := wA_of 290 rfl rfl
set_option maxRecDepth 100000 in
theorem wd_292 : (Jvm.Cond.instanceMethod ({ cls := "LateFalls$Tray", name := "<init>", desc := "()V" } : Jvm.MethodName)) ∈ wA := wA_of 292 rfl rfl
set_option maxRecDepth 100000 in
theorem wd_293 : (Jvm.Cond.code ({ cls := "LateFalls$Tray", name := "<init>", desc := "()V" } : Jvm.MethodName) prog_10_method_1_code (1 : Nat) (Option.none : Option Jvm.ClassFile.FieldType)) ∈ wA := wA_of 293 rfl rfl
set_option maxRecDepth 100000 in
theorem wd_294 : (Jvm.Cond.methodLink "LateFalls$Tray" (3 : Nat) ({ cls := "java/lang/Object", name := "<init>", desc := "()V" } : Jvm.MethodName)) ∈ wA := wA_of 294 rfl rfl
set_option maxRecDepth 100000 in
theorem wd_295 : (Jvm.Cond.fieldLink "LateFalls$Tray" (9 : Nat) "LateFalls$Tray" "sort" "I") ∈ wA := wA_of 295 rfl rfl
set_option maxRecDepth 100000 in
theorem wd_296 : (Jvm.Cond.fieldLink "LateFalls" (401 : Nat) "LateFalls$Tray" "sort" "I") ∈ wA := wA_of 296 rfl rfl
set_option maxRecDepth 100000 in
theorem wd_297 : (Jvm.Cond.fieldLink "LateFalls$Tray" (19 : Nat) "LateFalls$Tray" "many" "I") ∈ wA := wA_of 297 rfl rfl
set_option maxRecDepth 100000 in
theorem wd_298 : (Jvm.Cond.fieldLink "LateFalls" (243 : Nat) "LateFalls$Tray" "many" "I") ∈ wA := wA_of 298 rfl rfl
set_option maxRecDepth 100000 in
theorem wd_299 : (Jvm.Cond.fieldLink "LateFalls$Tray" (15 : Nat) "LateFalls$Tray" "numbers" "[J") ∈ wA := wA_of 299 rfl rfl
set_option maxRecDepth 100000 in
theorem wd_300 : (Jvm.Cond.fieldLink "LateFalls" (244 : Nat) "LateFalls$Tray" "numbers" "[J") ∈ wA := wA_of 300 rfl rfl
set_option maxRecDepth 100000 in
theorem wd_301 : (Jvm.Cond.lays "LateFalls$Tray" "LateFalls$Tray" "sort" "I") ∈ wA := wA_of 301 rfl rfl
set_option maxRecDepth 100000 in
theorem wd_303 : (Jvm.Cond.lays "LateFalls$Tray" "LateFalls$Tray" "many" "I") ∈ wA := wA_of 303 rfl rfl
set_option maxRecDepth 100000 in
theorem wd_305 : (Jvm.Cond.laysFinal "LateFalls$Tray" "LateFalls$Tray" "numbers" "[J") ∈ wA := wA_of 305 rfl rfl
set_option maxRecDepth 100000 in
theorem wd_308 : (Jvm.Cond.fieldLink "LateFalls" (11 : Nat) "LateFalls" "tape" "[B") ∈ wA := wA_of 308 rfl rfl
set_option maxRecDepth 100000 in
theorem wd_309 : (Jvm.Cond.fieldLink "LateFalls" (76 : Nat) "LateFalls" "tapeLength" "I") ∈ wA := wA_of 309 rfl rfl
set_option maxRecDepth 100000 in
theorem wd_310 : (Jvm.Cond.fieldLink "LateFalls" (97 : Nat) "LateFalls" "faultKind" "I") ∈ wA := wA_of 310 rfl rfl
set_option maxRecDepth 100000 in
theorem wd_311 : (Jvm.Cond.fieldLink "LateFalls" (15 : Nat) "LateFalls" "faultPlace" "I") ∈ wA := wA_of 311 rfl rfl
set_option maxRecDepth 100000 in
theorem wd_312 : (Jvm.Cond.fieldLink "LateFalls" (50 : Nat) "LateFalls" "reader" "LLateFalls$Reader;") ∈ wA := wA_of 312 rfl rfl
set_option maxRecDepth 100000 in
theorem wd_313 : (Jvm.Cond.fieldLink "LateFalls" (57 : Nat) "LateFalls" "scene" "LLateFalls$Scene;") ∈ wA := wA_of 313 rfl rfl
set_option maxRecDepth 100000 in
theorem wd_314 : (Jvm.Cond.fieldLink "LateFalls" (64 : Nat) "LateFalls" "history" "LLateFalls$History;") ∈ wA := wA_of 314 rfl rfl
set_option maxRecDepth 100000 in
theorem wd_315 : (Jvm.Cond.fieldLink "LateFalls" (71 : Nat) "LateFalls" "forecast" "LLateFalls$Forecast;") ∈ wA := wA_of 315 rfl rfl
set_option maxRecDepth 100000 in
theorem wd_316 : (Jvm.Cond.fieldLink "LateFalls" (22 : Nat) "LateFalls" "ways" "LLateFalls$Ways;") ∈ wA := wA_of 316 rfl rfl
set_option maxRecDepth 100000 in
theorem wd_317 : (Jvm.Cond.fieldLink "LateFalls" (26 : Nat) "LateFalls" "firstFalls" "[I") ∈ wA := wA_of 317 rfl rfl
set_option maxRecDepth 100000 in
theorem wd_318 : (Jvm.Cond.fieldLink "LateFalls" (32 : Nat) "LateFalls" "trays" "[LLateFalls$Tray;") ∈ wA := wA_of 318 rfl rfl
set_option maxRecDepth 100000 in
theorem wd_319 : (Jvm.Cond.fieldLink "LateFalls" (38 : Nat) "LateFalls" "images" "[LLateFalls$Image;") ∈ wA := wA_of 319 rfl rfl
set_option maxRecDepth 100000 in
theorem wd_320 : (Jvm.Cond.fieldLink "LateFalls" (262 : Nat) "LateFalls" "drawn" "I") ∈ wA := wA_of 320 rfl rfl
set_option maxRecDepth 100000 in
theorem wd_321 : (Jvm.Cond.laysFinal "LateFalls" "LateFalls" "tape" "[B") ∈ wA := wA_of 321 rfl rfl
set_option maxRecDepth 100000 in
theorem wd_323 : (Jvm.Cond.lays "LateFalls" "LateFalls" "tapeLength" "I") ∈ wA := wA_of 323 rfl rfl
set_option maxRecDepth 100000 in
theorem wd_325 : (Jvm.Cond.lays "LateFalls" "LateFalls" "faultKind" "I") ∈ wA := wA_of 325 rfl rfl
set_option maxRecDepth 100000 in
theorem wd_327 : (Jvm.Cond.lays "LateFalls" "LateFalls" "faultPlace" "I") ∈ wA := wA_of 327 rfl rfl
set_option maxRecDepth 100000 in
theorem wd_329 : (Jvm.Cond.laysFinal "LateFalls" "LateFalls" "reader" "LLateFalls$Reader;") ∈ wA := wA_of 329 rfl rfl
set_option maxRecDepth 100000 in
theorem wd_331 : (Jvm.Cond.laysFinal "LateFalls" "LateFalls" "scene" "LLateFalls$Scene;") ∈ wA := wA_of 331 rfl rfl
set_option maxRecDepth 100000 in
theorem wd_333 : (Jvm.Cond.laysFinal "LateFalls" "LateFalls" "history" "LLateFalls$History;") ∈ wA := wA_of 333 rfl rfl
set_option maxRecDepth 100000 in
theorem wd_335 : (Jvm.Cond.laysFinal "LateFalls" "LateFalls" "forecast" "LLateFalls$Forecast;") ∈ wA := wA_of 335 rfl rfl
set_option maxRecDepth 100000 in
theorem wd_337 : (Jvm.Cond.laysFinal "LateFalls" "LateFalls" "ways" "LLateFalls$Ways;") ∈ wA := wA_of 337 rfl rfl
set_option maxRecDepth 100000 in
theorem wd_339 : (Jvm.Cond.laysFinal "LateFalls" "LateFalls" "firstFalls" "[I") ∈ wA := wA_of 339 rfl rfl
set_option maxRecDepth 100000 in
theorem wd_341 : (Jvm.Cond.laysFinal "LateFalls" "LateFalls" "trays" "[LLateFalls$Tray;") ∈ wA := wA_of 341 rfl rfl
set_option maxRecDepth 100000 in
theorem wd_343 : (Jvm.Cond.laysFinal "LateFalls" "LateFalls" "images" "[LLateFalls$Image;") ∈ wA := wA_of 343 rfl rfl
set_option maxRecDepth 100000 in
theorem wd_345 : (Jvm.Cond.lays "LateFalls" "LateFalls" "drawn" "I") ∈ wA := wA_of 345 rfl rfl
set_option maxRecDepth 100000 in
theorem wd_348 : (Jvm.Cond.methodLink "LateFallsLaw" (145 : Nat) ({ cls := "LateFalls", name := "feed", desc := "(IIIII)I" } : Jvm.MethodName)) ∈ wA := wA_of 348 rfl rfl
set_option maxRecDepth 100000 in
theorem wd_349 : (Jvm.Cond.instanceMethod ({ cls := "LateFalls", name := "feed", desc := "(IIIII)I" } : Jvm.MethodName)) ∈ wA := wA_of 349 rfl rfl
set_option maxRecDepth 100000 in
theorem wd_350 : (Jvm.Cond.selects "LateFalls" ({ cls := "LateFalls", name := "feed", desc := "(IIIII)I" } : Jvm.MethodName) ({ cls := "LateFalls", name := "feed", desc := "(IIIII)I" } : Jvm.MethodName)) ∈ wA := wA_of 350 rfl rfl
set_option maxRecDepth 100000 in
theorem wd_351 : (Jvm.Cond.code ({ cls := "LateFalls", name := "feed", desc := "(IIIII)I" } : Jvm.MethodName) prog_1_method_2_code (6 : Nat) (Option.some Jvm.ClassFile.FieldType.int)) ∈ wA := wA_of 351 rfl rfl
set_option maxRecDepth 100000 in
theorem wd_352 : (Jvm.Cond.methodLink "LateFalls" (79 : Nat) ({ cls := "LateFalls", name := "putBytes", desc := "(I)V" } : Jvm.MethodName)) ∈ wA := wA_of 352 rfl rfl
set_option maxRecDepth 100000 in
theorem wd_354 : (Jvm.Cond.instanceMethod ({ cls := "LateFalls", name := "putBytes", desc := "(I)V" } : Jvm.MethodName)) ∈ wA := wA_of 354 rfl rfl
set_option maxRecDepth 100000 in
theorem wd_355 : (Jvm.Cond.code ({ cls := "LateFalls", name := "putBytes", desc := "(I)V" } : Jvm.MethodName) prog_1_method_3_code (3 : Nat) (Option.none : Option Jvm.ClassFile.FieldType)) ∈ wA := wA_of 355 rfl rfl
set_option maxRecDepth 100000 in
theorem wd_356 : (Jvm.Cond.methodLink "LateFallsLaw" (156 : Nat) ({ cls := "LateFalls", name := "fault", desc := "(I)I" } : Jvm.MethodName)) ∈ wA := wA_of 356 rfl rfl
set_option maxRecDepth 100000 in
theorem wd_357 : (Jvm.Cond.instanceMethod ({ cls := "LateFalls", name := "fault", desc := "(I)I" } : Jvm.MethodName)) ∈ wA := wA_of 357 rfl rfl
set_option maxRecDepth 100000 in
theorem wd_358 : (Jvm.Cond.selects "LateFalls" ({ cls := "LateFalls", name := "fault", desc := "(I)I" } : Jvm.MethodName) ({ cls := "LateFalls", name := "fault", desc := "(I)I" } : Jvm.MethodName)) ∈ wA := wA_of 358 rfl rfl
set_option maxRecDepth 100000 in
theorem wd_359 : (Jvm.Cond.code ({ cls := "LateFalls", name := "fault", desc := "(I)I" } : Jvm.MethodName) prog_1_method_5_code (2 : Nat) (Option.some Jvm.ClassFile.FieldType.int)) ∈ wA := wA_of 359 rfl rfl
set_option maxRecDepth 100000 in
theorem wd_360 : (Jvm.Cond.methodLink "LateFallsLaw" (177 : Nat) ({ cls := "LateFalls", name := "letGo", desc := "(III)I" } : Jvm.MethodName)) ∈ wA := wA_of 360 rfl rfl
set_option maxRecDepth 100000 in
theorem wd_361 : (Jvm.Cond.instanceMethod ({ cls := "LateFalls", name := "letGo", desc := "(III)I" } : Jvm.MethodName)) ∈ wA := wA_of 361 rfl rfl
set_option maxRecDepth 100000 in
theorem wd_362 : (Jvm.Cond.selects "LateFalls" ({ cls := "LateFalls", name := "letGo", desc := "(III)I" } : Jvm.MethodName) ({ cls := "LateFalls", name := "letGo", desc := "(III)I" } : Jvm.MethodName)) ∈ wA := wA_of 362 rfl rfl
set_option maxRecDepth 100000 in
theorem wd_363 : (Jvm.Cond.code ({ cls := "LateFalls", name := "letGo", desc := "(III)I" } : Jvm.MethodName) prog_1_method_16_code (5 : Nat) (Option.some Jvm.ClassFile.FieldType.int)) ∈ wA := wA_of 363 rfl rfl
set_option maxRecDepth 100000 in
theorem wd_364 : (Jvm.Cond.methodLink "LateFalls" (204 : Nat) ({ cls := "LateFalls$Scene", name := "whyNotLetGo", desc := "(III)I" } : Jvm.MethodName)) ∈ wA := wA_of 364 rfl rfl
set_option maxRecDepth 100000 in
theorem wd_365 : (Jvm.Cond.instanceMethod ({ cls := "LateFalls$Scene", name := "whyNotLetGo", desc := "(III)I" } : Jvm.MethodName)) ∈ wA := wA_of 365 rfl rfl
set_option maxRecDepth 100000 in
theorem wd_366 : (Jvm.Cond.selects "LateFalls$Scene" ({ cls := "LateFalls$Scene", name := "whyNotLetGo", desc := "(III)I" } : Jvm.MethodName) ({ cls := "LateFalls$Scene", name := "whyNotLetGo", desc := "(III)I" } : Jvm.MethodName)) ∈ wA := wA_of 366 rfl rfl
set_option maxRecDepth 100000 in
theorem wd_367 : (Jvm.Cond.code ({ cls := "LateFalls$Scene", name := "whyNotLetGo", desc := "(III)I" } : Jvm.MethodName) prog_8_method_10_code (4 : Nat) (Option.some Jvm.ClassFile.FieldType.int)) ∈ wA := wA_of 367 rfl rfl
set_option maxRecDepth 100000 in
theorem wd_368 : (Jvm.Cond.methodLink "LateFalls$Scene" (63 : Nat) ({ cls := "LateFalls$District", name := "hasPlace", desc := "(II)Z" } : Jvm.MethodName)) ∈ wA := wA_of 368 rfl rfl
set_option maxRecDepth 100000 in
theorem wd_369 : (Jvm.Cond.instanceMethod ({ cls := "LateFalls$District", name := "hasPlace", desc := "(II)Z" } : Jvm.MethodName)) ∈ wA := wA_of 369 rfl rfl
set_option maxRecDepth 100000 in
theorem wd_370 : (Jvm.Cond.selects "LateFalls$District" ({ cls := "LateFalls$District", name := "hasPlace", desc := "(II)Z" } : Jvm.MethodName) ({ cls := "LateFalls$District", name := "hasPlace", desc := "(II)Z" } : Jvm.MethodName)) ∈ wA := wA_of 370 rfl rfl
set_option maxRecDepth 100000 in
theorem wd_371 : (Jvm.Cond.code ({ cls := "LateFalls$District", name := "hasPlace", desc := "(II)Z" } : Jvm.MethodName) prog_2_method_2_code (3 : Nat) (Option.some Jvm.ClassFile.FieldType.boolean)) ∈ wA := wA_of 371 rfl rfl
set_option maxRecDepth 100000 in
theorem wd_372 : (Jvm.Cond.methodLink "LateFalls$Scene" (67 : Nat) ({ cls := "LateFalls$Scene", name := "isFree", desc := "(II)Z" } : Jvm.MethodName)) ∈ wA := wA_of 372 rfl rfl
set_option maxRecDepth 100000 in
theorem wd_373 : (Jvm.Cond.instanceMethod ({ cls := "LateFalls$Scene", name := "isFree", desc := "(II)Z" } : Jvm.MethodName)) ∈ wA := wA_of 373 rfl rfl
set_option maxRecDepth 100000 in
theorem wd_374 : (Jvm.Cond.selects "LateFalls$Scene" ({ cls := "LateFalls$Scene", name := "isFree", desc := "(II)Z" } : Jvm.MethodName) ({ cls := "LateFalls$Scene", name := "isFree", desc := "(II)Z" } : Jvm.MethodName)) ∈ wA := wA_of 374 rfl rfl
set_option maxRecDepth 100000 in
theorem wd_375 : (Jvm.Cond.code ({ cls := "LateFalls$Scene", name := "isFree", desc := "(II)Z" } : Jvm.MethodName) prog_8_method_9_code (3 : Nat) (Option.some Jvm.ClassFile.FieldType.boolean)) ∈ wA := wA_of 375 rfl rfl
set_option maxRecDepth 100000 in
theorem wd_376 : (Jvm.Cond.methodLink "LateFalls$Scene" (55 : Nat) ({ cls := "LateFalls$Scene", name := "lying", desc := "(I)I" } : Jvm.MethodName)) ∈ wA := wA_of 376 rfl rfl
set_option maxRecDepth 100000 in
theorem wd_377 : (Jvm.Cond.instanceMethod ({ cls := "LateFalls$Scene", name := "lying", desc := "(I)I" } : Jvm.MethodName)) ∈ wA := wA_of 377 rfl rfl
set_option maxRecDepth 100000 in
theorem wd_378 : (Jvm.Cond.selects "LateFalls$Scene" ({ cls := "LateFalls$Scene", name := "lying", desc := "(I)I" } : Jvm.MethodName) ({ cls := "LateFalls$Scene", name := "lying", desc := "(I)I" } : Jvm.MethodName)) ∈ wA := wA_of 378 rfl rfl
set_option maxRecDepth 100000 in
theorem wd_379 : (Jvm.Cond.code ({ cls := "LateFalls$Scene", name := "lying", desc := "(I)I" } : Jvm.MethodName) prog_8_method_4_code (4 : Nat) (Option.some Jvm.ClassFile.FieldType.int)) ∈ wA := wA_of 379 rfl rfl
set_option maxRecDepth 100000 in
theorem wd_380 : (Jvm.Cond.methodLink "LateFalls$Scene" (59 : Nat) ({ cls := "LateFalls$Scene", name := "thingAt", desc := "(II)I" } : Jvm.MethodName)) ∈ wA := wA_of 380 rfl rfl
set_option maxRecDepth 100000 in
theorem wd_381 : (Jvm.Cond.instanceMethod ({ cls := "LateFalls$Scene", name := "thingAt", desc := "(II)I" } : Jvm.MethodName)) ∈ wA := wA_of 381 rfl rfl
set_option maxRecDepth 100000 in
theorem wd_382 : (Jvm.Cond.selects "LateFalls$Scene" ({ cls := "LateFalls$Scene", name := "thingAt", desc := "(II)I" } : Jvm.MethodName) ({ cls := "LateFalls$Scene", name := "thingAt", desc := "(II)I" } : Jvm.MethodName)) ∈ wA := wA_of 382 rfl rfl
set_option maxRecDepth 100000 in
theorem wd_383 : (Jvm.Cond.code ({ cls := "LateFalls$Scene", name := "thingAt", desc := "(II)I" } : Jvm.MethodName) prog_8_method_5_code (4 : Nat) (Option.some Jvm.ClassFile.FieldType.int)) ∈ wA := wA_of 383 rfl rfl
set_option maxRecDepth 100000 in
theorem wd_384 : (Jvm.Cond.methodLink "LateFalls" (208 : Nat) ({ cls := "LateFalls$History", name := "keep", desc := "(LLateFalls$Scene;)V" } : Jvm.MethodName)) ∈ wA := wA_of 384 rfl rfl
set_option maxRecDepth 100000 in
theorem wd_385 : (Jvm.Cond.instanceMethod ({ cls := "LateFalls$History", name := "keep", desc := "(LLateFalls$Scene;)V" } : Jvm.MethodName)) ∈ wA := wA_of 385 rfl rfl
set_option maxRecDepth 100000 in
theorem wd_386 : (Jvm.Cond.selects "LateFalls$History" ({ cls := "LateFalls$History", name := "keep", desc := "(LLateFalls$Scene;)V" } : Jvm.MethodName) ({ cls := "LateFalls$History", name := "keep", desc := "(LLateFalls$Scene;)V" } : Jvm.MethodName)) ∈ wA := wA_of 386 rfl rfl
set_option maxRecDepth 100000 in
theorem wd_387 : (Jvm.Cond.code ({ cls := "LateFalls$History", name := "keep", desc := "(LLateFalls$Scene;)V" } : Jvm.MethodName) prog_4_method_3_code (2 : Nat) (Option.none : Option Jvm.ClassFile.FieldType)) ∈ wA := wA_of 387 rfl rfl
set_option maxRecDepth 100000 in
theorem wd_388 : (Jvm.Cond.methodLink "LateFalls$History" (27 : Nat) ({ cls := "LateFalls$Scene", name := "copyFrom", desc := "(LLateFalls$Scene;)V" } : Jvm.MethodName)) ∈ wA := wA_of 388 rfl rfl
set_option maxRecDepth 100000 in
theorem wd_389 : (Jvm.Cond.instanceMethod ({ cls := "LateFalls$Scene", name := "copyFrom", desc := "(LLateFalls$Scene;)V" } : Jvm.MethodName)) ∈ wA := wA_of 389 rfl rfl
set_option maxRecDepth 100000 in
theorem wd_390 : (Jvm.Cond.selects "LateFalls$Scene" ({ cls := "LateFalls$Scene", name := "copyFrom", desc := "(LLateFalls$Scene;)V" } : Jvm.MethodName) ({ cls := "LateFalls$Scene", name := "copyFrom", desc := "(LLateFalls$Scene;)V" } : Jvm.MethodName)) ∈ wA := wA_of 390 rfl rfl
set_option maxRecDepth 100000 in
theorem wd_391 : (Jvm.Cond.code ({ cls := "LateFalls$Scene", name := "copyFrom", desc := "(LLateFalls$Scene;)V" } : Jvm.MethodName) prog_8_method_3_code (2 : Nat) (Option.none : Option Jvm.ClassFile.FieldType)) ∈ wA := wA_of 391 rfl rfl
set_option maxRecDepth 100000 in
theorem wd_392 : (Jvm.Cond.methodLink "LateFalls$Scene" (38 : Nat) ({ cls := "java/lang/System", name := "arraycopy", desc := "(Ljava/lang/Object;ILjava/lang/Object;II)V" } : Jvm.MethodName)) ∈ wA := wA_of 392 rfl rfl
set_option maxRecDepth 100000 in
theorem wd_393 : (Jvm.Cond.static ({ cls := "java/lang/System", name := "arraycopy", desc := "(Ljava/lang/Object;ILjava/lang/Object;II)V" } : Jvm.MethodName)) ∈ wA := wA_of 393 rfl rfl
set_option maxRecDepth 100000 in
theorem wd_394 : (Jvm.Cond.native ({ cls := "java/lang/System", name := "arraycopy", desc := "(Ljava/lang/Object;ILjava/lang/Object;II)V" } : Jvm.MethodName)) ∈ wA := wA_of 394 rfl rfl
set_option maxRecDepth 100000 in
theorem wd_395 : (Jvm.Cond.methodLink "LateFalls" (211 : Nat) ({ cls := "LateFalls$Scene", name := "release", desc := "(III)I" } : Jvm.MethodName)) ∈ wA := wA_of 395 rfl rfl
set_option maxRecDepth 100000 in
theorem wd_396 : (Jvm.Cond.instanceMethod ({ cls := "LateFalls$Scene", name := "release", desc := "(III)I" } : Jvm.MethodName)) ∈ wA := wA_of 396 rfl rfl
set_option maxRecDepth 100000 in
theorem wd_397 : (Jvm.Cond.selects "LateFalls$Scene" ({ cls := "LateFalls$Scene", name := "release", desc := "(III)I" } : Jvm.MethodName) ({ cls := "LateFalls$Scene", name := "release", desc := "(III)I" } : Jvm.MethodName)) ∈ wA := wA_of 397 rfl rfl
set_option maxRecDepth 100000 in
theorem wd_398 : (Jvm.Cond.code ({ cls := "LateFalls$Scene", name := "release", desc := "(III)I" } : Jvm.MethodName) prog_8_method_12_code (5 : Nat) (Option.some Jvm.ClassFile.FieldType.int)) ∈ wA := wA_of 398 rfl rfl
set_option maxRecDepth 100000 in
theorem wd_399 : (Jvm.Cond.methodLink "LateFalls$Scene" (70 : Nat) ({ cls := "LateFalls$District", name := "hangTime", desc := "(IIIIII)I" } : Jvm.MethodName)) ∈ wA := wA_of 399 rfl rfl
set_option maxRecDepth 100000 in
theorem wd_400 : (Jvm.Cond.instanceMethod ({ cls := "LateFalls$District", name := "hangTime", desc := "(IIIIII)I" } : Jvm.MethodName)) ∈ wA := wA_of 400 rfl rfl
set_option maxRecDepth 100000 in
theorem wd_401 : (Jvm.Cond.selects "LateFalls$District" ({ cls := "LateFalls$District", name := "hangTime", desc := "(IIIIII)I" } : Jvm.MethodName) ({ cls := "LateFalls$District", name := "hangTime", desc := "(IIIIII)I" } : Jvm.MethodName)) ∈ wA := wA_of 401 rfl rfl
set_option maxRecDepth 100000 in
theorem wd_402 : (Jvm.Cond.code ({ cls := "LateFalls$District", name := "hangTime", desc := "(IIIIII)I" } : Jvm.MethodName) prog_2_method_5_code (8 : Nat) (Option.some Jvm.ClassFile.FieldType.int)) ∈ wA := wA_of 402 rfl rfl
set_option maxRecDepth 100000 in
theorem wd_403 : (Jvm.Cond.methodLink "LateFalls$District" (31 : Nat) ({ cls := "java/lang/Math", name := "floorMod", desc := "(II)I" } : Jvm.MethodName)) ∈ wA := wA_of 403 rfl rfl
set_option maxRecDepth 100000 in
theorem wd_404 : (Jvm.Cond.static ({ cls := "java/lang/Math", name := "floorMod", desc := "(II)I" } : Jvm.MethodName)) ∈ wA := wA_of 404 rfl rfl
set_option maxRecDepth 100000 in
theorem wd_405 : (Jvm.Cond.code ({ cls := "java/lang/Math", name := "floorMod", desc := "(II)I" } : Jvm.MethodName) prog_23_method_50_code (3 : Nat) (Option.some Jvm.ClassFile.FieldType.int)) ∈ wA := wA_of 405 rfl rfl
set_option maxRecDepth 100000 in
theorem wd_406 : (Jvm.Cond.methodLink "LateFalls$District" (49 : Nat) ({ cls := "LateFalls$Law", name := "value", desc := "()I" } : Jvm.MethodName)) ∈ wA := wA_of 406 rfl rfl
set_option maxRecDepth 100000 in
theorem wd_407 : (Jvm.Cond.instanceMethod ({ cls := "LateFalls$Law", name := "value", desc := "()I" } : Jvm.MethodName)) ∈ wA := wA_of 407 rfl rfl
set_option maxRecDepth 100000 in
theorem wd_408 : (Jvm.Cond.selects "LateFalls$Law" ({ cls := "LateFalls$Law", name := "value", desc := "()I" } : Jvm.MethodName) ({ cls := "LateFalls$Law", name := "value", desc := "()I" } : Jvm.MethodName)) ∈ wA := wA_of 408 rfl rfl
set_option maxRecDepth 100000 in
theorem wd_409 : (Jvm.Cond.code ({ cls := "LateFalls$Law", name := "value", desc := "()I" } : Jvm.MethodName) prog_6_method_2_code (6 : Nat) (Option.some Jvm.ClassFile.FieldType.int)) ∈ wA := wA_of 409 rfl rfl
set_option maxRecDepth 100000 in
theorem wd_410 : (Jvm.Cond.methodLink "LateFalls$Law" (34 : Nat) ({ cls := "LateFalls$Law", name := "join", desc := "(IJJ)J" } : Jvm.MethodName)) ∈ wA := wA_of 410 rfl rfl
set_option maxRecDepth 100000 in
theorem wd_411 : (Jvm.Cond.static ({ cls := "LateFalls$Law", name := "join", desc := "(IJJ)J" } : Jvm.MethodName)) ∈ wA := wA_of 411 rfl rfl
set_option maxRecDepth 100000 in
theorem wd_412 : (Jvm.Cond.code ({ cls := "LateFalls$Law", name := "join", desc := "(IJJ)J" } : Jvm.MethodName) prog_6_method_3_code (5 : Nat) (Option.some Jvm.ClassFile.FieldType.long)) ∈ wA := wA_of 412 rfl rfl
set_option maxRecDepth 100000 in
theorem wd_413 : (Jvm.Cond.constantLong "LateFalls$Law" (38 : Nat) (-1000000 : Int64)) ∈ wA := wA_of 413 rfl rfl
set_option maxRecDepth 100000 in
theorem wd_414 : (Jvm.Cond.constantLong "LateFalls$Law" (40 : Nat) (1000000 : Int64)) ∈ wA := wA_of 414 rfl rfl
set_option maxRecDepth 100000 in
theorem wd_415 : (Jvm.Cond.methodLink "LateFalls$Law" (42 : Nat) ({ cls := "java/lang/Math", name := "min", desc := "(JJ)J" } : Jvm.MethodName)) ∈ wA := wA_of 415 rfl rfl
set_option maxRecDepth 100000 in
theorem wd_416 : (Jvm.Cond.static ({ cls := "java/lang/Math", name := "min", desc := "(JJ)J" } : Jvm.MethodName)) ∈ wA := wA_of 416 rfl rfl
set_option maxRecDepth 100000 in
theorem wd_417 : (Jvm.Cond.code ({ cls := "java/lang/Math", name := "min", desc := "(JJ)J" } : Jvm.MethodName) prog_23_method_70_code (4 : Nat) (Option.some Jvm.ClassFile.FieldType.long)) ∈ wA := wA_of 417 rfl rfl
set_option maxRecDepth 100000 in
theorem wd_418 : (Jvm.Cond.methodLink "LateFalls$Law" (45 : Nat) ({ cls := "java/lang/Math", name := "max", desc := "(JJ)J" } : Jvm.MethodName)) ∈ wA := wA_of 418 rfl rfl
set_option maxRecDepth 100000 in
theorem wd_419 : (Jvm.Cond.static ({ cls := "java/lang/Math", name := "max", desc := "(JJ)J" } : Jvm.MethodName)) ∈ wA := wA_of 419 rfl rfl
set_option maxRecDepth 100000 in
theorem wd_420 : (Jvm.Cond.code ({ cls := "java/lang/Math", name := "max", desc := "(JJ)J" } : Jvm.MethodName) prog_23_method_66_code (4 : Nat) (Option.some Jvm.ClassFile.FieldType.long)) ∈ wA := wA_of 420 rfl rfl
set_option maxRecDepth 100000 in
theorem wd_421 : (Jvm.Cond.methodLink "LateFalls$Law" (16 : Nat) ({ cls := "java/lang/Math", name := "min", desc := "(II)I" } : Jvm.MethodName)) ∈ wA := wA_of 421 rfl rfl
set_option maxRecDepth 100000 in
theorem wd_422 : (Jvm.Cond.static ({ cls := "java/lang/Math", name := "min", desc := "(II)I" } : Jvm.MethodName)) ∈ wA := wA_of 422 rfl rfl
set_option maxRecDepth 100000 in
theorem wd_423 : (Jvm.Cond.code ({ cls := "java/lang/Math", name := "min", desc := "(II)I" } : Jvm.MethodName) prog_23_method_69_code (2 : Nat) (Option.some Jvm.ClassFile.FieldType.int)) ∈ wA := wA_of 423 rfl rfl
set_option maxRecDepth 100000 in
theorem wd_424 : (Jvm.Cond.methodLink "LateFalls$District" (53 : Nat) ({ cls := "java/lang/Math", name := "min", desc := "(II)I" } : Jvm.MethodName)) ∈ wA := wA_of 424 rfl rfl
set_option maxRecDepth 100000 in
theorem wd_425 : (Jvm.Cond.methodLink "LateFalls$District" (56 : Nat) ({ cls := "java/lang/Math", name := "max", desc := "(II)I" } : Jvm.MethodName)) ∈ wA := wA_of 425 rfl rfl
set_option maxRecDepth 100000 in
theorem wd_426 : (Jvm.Cond.static ({ cls := "java/lang/Math", name := "max", desc := "(II)I" } : Jvm.MethodName)) ∈ wA := wA_of 426 rfl rfl
set_option maxRecDepth 100000 in
theorem wd_427 : (Jvm.Cond.code ({ cls := "java/lang/Math", name := "max", desc := "(II)I" } : Jvm.MethodName) prog_23_method_65_code (2 : Nat) (Option.some Jvm.ClassFile.FieldType.int)) ∈ wA := wA_of 427 rfl rfl
set_option maxRecDepth 100000 in
theorem wd_428 : (Jvm.Cond.methodLink "LateFalls$Scene" (74 : Nat) ({ cls := "LateFalls$Scene", name := "drop", desc := "(II)V" } : Jvm.MethodName)) ∈ wA := wA_of 428 rfl rfl
set_option maxRecDepth 100000 in
theorem wd_430 : (Jvm.Cond.instanceMethod ({ cls := "LateFalls$Scene", name := "drop", desc := "(II)V" } : Jvm.MethodName)) ∈ wA := wA_of 430 rfl rfl
set_option maxRecDepth 100000 in
theorem wd_431 : (Jvm.Cond.code ({ cls := "LateFalls$Scene", name := "drop", desc := "(II)V" } : Jvm.MethodName) prog_8_method_18_code (7 : Nat) (Option.none : Option Jvm.ClassFile.FieldType)) ∈ wA := wA_of 431 rfl rfl
set_option maxRecDepth 100000 in
theorem wd_432 : (Jvm.Cond.methodLink "LateFalls$Scene" (99 : Nat) ({ cls := "LateFalls$Scene", name := "falling", desc := "(II)I" } : Jvm.MethodName)) ∈ wA := wA_of 432 rfl rfl
set_option maxRecDepth 100000 in
theorem wd_433 : (Jvm.Cond.instanceMethod ({ cls := "LateFalls$Scene", name := "falling", desc := "(II)I" } : Jvm.MethodName)) ∈ wA := wA_of 433 rfl rfl
set_option maxRecDepth 100000 in
theorem wd_434 : (Jvm.Cond.selects "LateFalls$Scene" ({ cls := "LateFalls$Scene", name := "falling", desc := "(II)I" } : Jvm.MethodName) ({ cls := "LateFalls$Scene", name := "falling", desc := "(II)I" } : Jvm.MethodName)) ∈ wA := wA_of 434 rfl rfl
set_option maxRecDepth 100000 in
theorem wd_435 : (Jvm.Cond.code ({ cls := "LateFalls$Scene", name := "falling", desc := "(II)I" } : Jvm.MethodName) prog_8_method_19_code (8 : Nat) (Option.some Jvm.ClassFile.FieldType.int)) ∈ wA := wA_of 435 rfl rfl
set_option maxRecDepth 100000 in
theorem wd_436 : (Jvm.Cond.methodLink "LateFalls$Scene" (85 : Nat) ({ cls := "java/lang/Integer", name := "bitCount", desc := "(I)I" } : Jvm.MethodName)) ∈ wA := wA_of 436 rfl rfl
set_option maxRecDepth 100000 in
theorem wd_437 : (Jvm.Cond.static ({ cls := "java/lang/Integer", name := "bitCount", desc := "(I)I" } : Jvm.MethodName)) ∈ wA := wA_of 437 rfl rfl
set_option maxRecDepth 100000 in
theorem wd_438 : (Jvm.Cond.code ({ cls := "java/lang/Integer", name := "bitCount", desc := "(I)I" } : Jvm.MethodName) prog_22_method_49_code (1 : Nat) (Option.some Jvm.ClassFile.FieldType.int)) ∈ wA := wA_of 438 rfl rfl
set_option maxRecDepth 100000 in
theorem wd_439 : (Jvm.Cond.constant "java/lang/Integer" (265 : Nat) (1431655765 : Int32)) ∈ wA := wA_of 439 rfl rfl
set_option maxRecDepth 100000 in
theorem wd_440 : (Jvm.Cond.constant "java/lang/Integer" (266 : Nat) (858993459 : Int32)) ∈ wA := wA_of 440 rfl rfl
set_option maxRecDepth 100000 in
theorem wd_441 : (Jvm.Cond.constant "java/lang/Integer" (267 : Nat) (252645135 : Int32)) ∈ wA := wA_of 441 rfl rfl
set_option maxRecDepth 100000 in
theorem wd_442 : (Jvm.Cond.methodLink "LateFalls$Scene" (111 : Nat) ({ cls := "LateFalls$Scene", name := "isFreed", desc := "(II)Z" } : Jvm.MethodName)) ∈ wA := wA_of 442 rfl rfl
set_option maxRecDepth 100000 in
theorem wd_444 : (Jvm.Cond.instanceMethod ({ cls := "LateFalls$Scene", name := "isFreed", desc := "(II)Z" } : Jvm.MethodName)) ∈ wA := wA_of 444 rfl rfl
set_option maxRecDepth 100000 in
theorem wd_445 : (Jvm.Cond.code ({ cls := "LateFalls$Scene", name := "isFreed", desc := "(II)Z" } : Jvm.MethodName) prog_8_method_20_code (5 : Nat) (Option.some Jvm.ClassFile.FieldType.boolean)) ∈ wA := wA_of 445 rfl rfl
set_option maxRecDepth 100000 in
theorem wd_446 : (Jvm.Cond.methodLink "LateFalls$Scene" (123 : Nat) ({ cls := "java/lang/Math", name := "floorMod", desc := "(II)I" } : Jvm.MethodName)) ∈ wA := wA_of 446 rfl rfl
set_option maxRecDepth 100000 in
theorem wd_447 : (Jvm.Cond.methodLink "LateFalls$Scene" (126 : Nat) ({ cls := "LateFalls$Law", name := "value", desc := "()I" } : Jvm.MethodName)) ∈ wA := wA_of 447 rfl rfl
set_option maxRecDepth 100000 in
theorem wd_448 : (Jvm.Cond.methodLink "LateFalls$Scene" (105 : Nat) ({ cls := "LateFalls$Scene", name := "weightOf", desc := "(II)I" } : Jvm.MethodName)) ∈ wA := wA_of 448 rfl rfl
set_option maxRecDepth 100000 in
theorem wd_449 : (Jvm.Cond.instanceMethod ({ cls := "LateFalls$Scene", name := "weightOf", desc := "(II)I" } : Jvm.MethodName)) ∈ wA := wA_of 449 rfl rfl
set_option maxRecDepth 100000 in
theorem wd_450 : (Jvm.Cond.selects "LateFalls$Scene" ({ cls := "LateFalls$Scene", name := "weightOf", desc := "(II)I" } : Jvm.MethodName) ({ cls := "LateFalls$Scene", name := "weightOf", desc := "(II)I" } : Jvm.MethodName)) ∈ wA := wA_of 450 rfl rfl
set_option maxRecDepth 100000 in
theorem wd_451 : (Jvm.Cond.code ({ cls := "LateFalls$Scene", name := "weightOf", desc := "(II)I" } : Jvm.MethodName) prog_8_method_8_code (5 : Nat) (Option.some Jvm.ClassFile.FieldType.int)) ∈ wA := wA_of 451 rfl rfl
set_option maxRecDepth 100000 in
theorem wd_452 : (Jvm.Cond.methodLink "LateFalls$Scene" (108 : Nat) ({ cls := "LateFalls$District", name := "walkerColumn", desc := "(II)I" } : Jvm.MethodName)) ∈ wA := wA_of 452 rfl rfl
set_option maxRecDepth 100000 in
theorem wd_453 : (Jvm.Cond.instanceMethod ({ cls := "LateFalls$District", name := "walkerColumn", desc := "(II)I" } : Jvm.MethodName)) ∈ wA := wA_of 453 rfl rfl
set_option maxRecDepth 100000 in
theorem wd_454 : (Jvm.Cond.selects "LateFalls$District" ({ cls := "LateFalls$District", name := "walkerColumn", desc := "(II)I" } : Jvm.MethodName) ({ cls := "LateFalls$District", name := "walkerColumn", desc := "(II)I" } : Jvm.MethodName)) ∈ wA := wA_of 454 rfl rfl
set_option maxRecDepth 100000 in
theorem wd_455 : (Jvm.Cond.code ({ cls := "LateFalls$District", name := "walkerColumn", desc := "(II)I" } : Jvm.MethodName) prog_2_method_3_code (3 : Nat) (Option.some Jvm.ClassFile.FieldType.int)) ∈ wA := wA_of 455 rfl rfl
set_option maxRecDepth 100000 in
theorem wd_456 : (Jvm.Cond.methodLink "LateFallsLaw" (181 : Nat) ({ cls := "LateFalls", name := "take", desc := "(I)I" } : Jvm.MethodName)) ∈ wA := wA_of 456 rfl rfl
set_option maxRecDepth 100000 in
theorem wd_457 : (Jvm.Cond.instanceMethod ({ cls := "LateFalls", name := "take", desc := "(I)I" } : Jvm.MethodName)) ∈ wA := wA_of 457 rfl rfl
set_option maxRecDepth 100000 in
theorem wd_458 : (Jvm.Cond.selects "LateFalls" ({ cls := "LateFalls", name := "take", desc := "(I)I" } : Jvm.MethodName) ({ cls := "LateFalls", name := "take", desc := "(I)I" } : Jvm.MethodName)) ∈ wA := wA_of 458 rfl rfl
set_option maxRecDepth 100000 in
theorem wd_459 : (Jvm.Cond.code ({ cls := "LateFalls", name := "take", desc := "(I)I" } : Jvm.MethodName) prog_1_method_17_code (3 : Nat) (Option.some Jvm.ClassFile.FieldType.int)) ∈ wA := wA_of 459 rfl rfl
set_option maxRecDepth 100000 in
theorem wd_460 : (Jvm.Cond.methodLink "LateFalls" (214 : Nat) ({ cls := "LateFalls$Scene", name := "whyNotTake", desc := "(I)I" } : Jvm.MethodName)) ∈ wA := wA_of 460 rfl rfl
set_option maxRecDepth 100000 in
theorem wd_461 : (Jvm.Cond.instanceMethod ({ cls := "LateFalls$Scene", name := "whyNotTake", desc := "(I)I" } : Jvm.MethodName)) ∈ wA := wA_of 461 rfl rfl
set_option maxRecDepth 100000 in
theorem wd_462 : (Jvm.Cond.selects "LateFalls$Scene" ({ cls := "LateFalls$Scene", name := "whyNotTake", desc := "(I)I" } : Jvm.MethodName) ({ cls := "LateFalls$Scene", name := "whyNotTake", desc := "(I)I" } : Jvm.MethodName)) ∈ wA := wA_of 462 rfl rfl
set_option maxRecDepth 100000 in
theorem wd_463 : (Jvm.Cond.code ({ cls := "LateFalls$Scene", name := "whyNotTake", desc := "(I)I" } : Jvm.MethodName) prog_8_method_11_code (3 : Nat) (Option.some Jvm.ClassFile.FieldType.int)) ∈ wA := wA_of 463 rfl rfl
set_option maxRecDepth 100000 in
theorem wd_464 : (Jvm.Cond.methodLink "LateFalls" (217 : Nat) ({ cls := "LateFalls$Scene", name := "pickUp", desc := "(I)V" } : Jvm.MethodName)) ∈ wA := wA_of 464 rfl rfl
set_option maxRecDepth 100000 in
theorem wd_465 : (Jvm.Cond.instanceMethod ({ cls := "LateFalls$Scene", name := "pickUp", desc := "(I)V" } : Jvm.MethodName)) ∈ wA := wA_of 465 rfl rfl
set_option maxRecDepth 100000 in
theorem wd_466 : (Jvm.Cond.selects "LateFalls$Scene" ({ cls := "LateFalls$Scene", name := "pickUp", desc := "(I)V" } : Jvm.MethodName) ({ cls := "LateFalls$Scene", name := "pickUp", desc := "(I)V" } : Jvm.MethodName)) ∈ wA := wA_of 466 rfl rfl
set_option maxRecDepth 100000 in
theorem wd_467 : (Jvm.Cond.code ({ cls := "LateFalls$Scene", name := "pickUp", desc := "(I)V" } : Jvm.MethodName) prog_8_method_13_code (2 : Nat) (Option.none : Option Jvm.ClassFile.FieldType)) ∈ wA := wA_of 467 rfl rfl
set_option maxRecDepth 100000 in
theorem wd_468 : (Jvm.Cond.methodLink "LateFallsLaw" (185 : Nat) ({ cls := "LateFalls", name := "quake", desc := "()I" } : Jvm.MethodName)) ∈ wA := wA_of 468 rfl rfl
set_option maxRecDepth 100000 in
theorem wd_469 : (Jvm.Cond.instanceMethod ({ cls := "LateFalls", name := "quake", desc := "()I" } : Jvm.MethodName)) ∈ wA := wA_of 469 rfl rfl
set_option maxRecDepth 100000 in
theorem wd_470 : (Jvm.Cond.selects "LateFalls" ({ cls := "LateFalls", name := "quake", desc := "()I" } : Jvm.MethodName) ({ cls := "LateFalls", name := "quake", desc := "()I" } : Jvm.MethodName)) ∈ wA := wA_of 470 rfl rfl
set_option maxRecDepth 100000 in
theorem wd_471 : (Jvm.Cond.code ({ cls := "LateFalls", name := "quake", desc := "()I" } : Jvm.MethodName) prog_1_method_18_code (1 : Nat) (Option.some Jvm.ClassFile.FieldType.int)) ∈ wA := wA_of 471 rfl rfl
set_option maxRecDepth 100000 in
theorem wd_472 : (Jvm.Cond.methodLink "LateFalls" (220 : Nat) ({ cls := "LateFalls$Scene", name := "shake", desc := "()I" } : Jvm.MethodName)) ∈ wA := wA_of 472 rfl rfl
set_option maxRecDepth 100000 in
theorem wd_473 : (Jvm.Cond.instanceMethod ({ cls := "LateFalls$Scene", name := "shake", desc := "()I" } : Jvm.MethodName)) ∈ wA := wA_of 473 rfl rfl
set_option maxRecDepth 100000 in
theorem wd_474 : (Jvm.Cond.selects "LateFalls$Scene" ({ cls := "LateFalls$Scene", name := "shake", desc := "()I" } : Jvm.MethodName) ({ cls := "LateFalls$Scene", name := "shake", desc := "()I" } : Jvm.MethodName)) ∈ wA := wA_of 474 rfl rfl
set_option maxRecDepth 100000 in
theorem wd_475 : (Jvm.Cond.code ({ cls := "LateFalls$Scene", name := "shake", desc := "()I" } : Jvm.MethodName) prog_8_method_14_code (2 : Nat) (Option.some Jvm.ClassFile.FieldType.int)) ∈ wA := wA_of 475 rfl rfl
set_option maxRecDepth 100000 in
theorem wd_476 : (Jvm.Cond.constant "LateFalls$Scene" (81 : Nat) (2147483647 : Int32)) ∈ wA := wA_of 476 rfl rfl
set_option maxRecDepth 100000 in
theorem wd_477 : (Jvm.Cond.methodLink "LateFalls$Scene" (82 : Nat) ({ cls := "LateFalls$Scene", name := "dueIn", desc := "(II)I" } : Jvm.MethodName)) ∈ wA := wA_of 477 rfl rfl
set_option maxRecDepth 100000 in
theorem wd_479 : (Jvm.Cond.instanceMethod ({ cls := "LateFalls$Scene", name := "dueIn", desc := "(II)I" } : Jvm.MethodName)) ∈ wA := wA_of 479 rfl rfl
set_option maxRecDepth 100000 in
theorem wd_480 : (Jvm.Cond.code ({ cls := "LateFalls$Scene", name := "dueIn", desc := "(II)I" } : Jvm.MethodName) prog_8_method_17_code (5 : Nat) (Option.some Jvm.ClassFile.FieldType.int)) ∈ wA := wA_of 480 rfl rfl
set_option maxRecDepth 100000 in
theorem wd_481 : (Jvm.Cond.methodLink "LateFallsLaw" (214 : Nat) ({ cls := "LateFalls", name := "next", desc := "()I" } : Jvm.MethodName)) ∈ wA := wA_of 481 rfl rfl
set_option maxRecDepth 100000 in
theorem wd_482 : (Jvm.Cond.instanceMethod ({ cls := "LateFalls", name := "next", desc := "()I" } : Jvm.MethodName)) ∈ wA := wA_of 482 rfl rfl
set_option maxRecDepth 100000 in
theorem wd_483 : (Jvm.Cond.selects "LateFalls" ({ cls := "LateFalls", name := "next", desc := "()I" } : Jvm.MethodName) ({ cls := "LateFalls", name := "next", desc := "()I" } : Jvm.MethodName)) ∈ wA := wA_of 483 rfl rfl
set_option maxRecDepth 100000 in
theorem wd_484 : (Jvm.Cond.code ({ cls := "LateFalls", name := "next", desc := "()I" } : Jvm.MethodName) prog_1_method_31_code (1 : Nat) (Option.some Jvm.ClassFile.FieldType.int)) ∈ wA := wA_of 484 rfl rfl
set_option maxRecDepth 100000 in
theorem wd_485 : (Jvm.Cond.methodLink "LateFalls" (289 : Nat) ({ cls := "LateFalls$Forecast", name := "look", desc := "(LLateFalls$Scene;)V" } : Jvm.MethodName)) ∈ wA := wA_of 485 rfl rfl
set_option maxRecDepth 100000 in
theorem wd_486 : (Jvm.Cond.instanceMethod ({ cls := "LateFalls$Forecast", name := "look", desc := "(LLateFalls$Scene;)V" } : Jvm.MethodName)) ∈ wA := wA_of 486 rfl rfl
set_option maxRecDepth 100000 in
theorem wd_487 : (Jvm.Cond.selects "LateFalls$Forecast" ({ cls := "LateFalls$Forecast", name := "look", desc := "(LLateFalls$Scene;)V" } : Jvm.MethodName) ({ cls := "LateFalls$Forecast", name := "look", desc := "(LLateFalls$Scene;)V" } : Jvm.MethodName)) ∈ wA := wA_of 487 rfl rfl
set_option maxRecDepth 100000 in
theorem wd_488 : (Jvm.Cond.code ({ cls := "LateFalls$Forecast", name := "look", desc := "(LLateFalls$Scene;)V" } : Jvm.MethodName) prog_3_method_2_code (3 : Nat) (Option.none : Option Jvm.ClassFile.FieldType)) ∈ wA := wA_of 488 rfl rfl
set_option maxRecDepth 100000 in
theorem wd_489 : (Jvm.Cond.methodLink "LateFalls$Forecast" (27 : Nat) ({ cls := "LateFalls$Scene", name := "copyFrom", desc := "(LLateFalls$Scene;)V" } : Jvm.MethodName)) ∈ wA := wA_of 489 rfl rfl
set_option maxRecDepth 100000 in
theorem wd_490 : (Jvm.Cond.constant "LateFalls$Forecast" (41 : Nat) (2147483647 : Int32)) ∈ wA := wA_of 490 rfl rfl
set_option maxRecDepth 100000 in
theorem wd_491 : (Jvm.Cond.methodLink "LateFalls$Forecast" (42 : Nat) ({ cls := "LateFalls$Scene", name := "nextFall", desc := "(I)Z" } : Jvm.MethodName)) ∈ wA := wA_of 491 rfl rfl
set_option maxRecDepth 100000 in
theorem wd_492 : (Jvm.Cond.instanceMethod ({ cls := "LateFalls$Scene", name := "nextFall", desc := "(I)Z" } : Jvm.MethodName)) ∈ wA := wA_of 492 rfl rfl
set_option maxRecDepth 100000 in
theorem wd_493 : (Jvm.Cond.selects "LateFalls$Scene" ({ cls := "LateFalls$Scene", name := "nextFall", desc := "(I)Z" } : Jvm.MethodName) ({ cls := "LateFalls$Scene", name := "nextFall", desc := "(I)Z" } : Jvm.MethodName)) ∈ wA := wA_of 493 rfl rfl
set_option maxRecDepth 100000 in
theorem wd_494 : (Jvm.Cond.code ({ cls := "LateFalls$Scene", name := "nextFall", desc := "(I)Z" } : Jvm.MethodName) prog_8_method_16_code (4 : Nat) (Option.some Jvm.ClassFile.FieldType.boolean)) ∈ wA := wA_of 494 rfl rfl
set_option maxRecDepth 100000 in
theorem wd_495 : (Jvm.Cond.methodLink "LateFalls$Scene" (94 : Nat) ({ cls := "java/lang/Math", name := "min", desc := "(II)I" } : Jvm.MethodName)) ∈ wA := wA_of 495 rfl rfl
set_option maxRecDepth 100000 in
theorem wd_496 : (Jvm.Cond.methodLink "LateFallsLaw" (218 : Nat) ({ cls := "LateFalls", name := "busiest", desc := "()I" } : Jvm.MethodName)) ∈ wA := wA_of 496 rfl rfl
set_option maxRecDepth 100000 in
theorem wd_497 : (Jvm.Cond.instanceMethod ({ cls := "LateFalls", name := "busiest", desc := "()I" } : Jvm.MethodName)) ∈ wA := wA_of 497 rfl rfl
set_option maxRecDepth 100000 in
theorem wd_498 : (Jvm.Cond.selects "LateFalls" ({ cls := "LateFalls", name := "busiest", desc := "()I" } : Jvm.MethodName) ({ cls := "LateFalls", name := "busiest", desc := "()I" } : Jvm.MethodName)) ∈ wA := wA_of 498 rfl rfl
set_option maxRecDepth 100000 in
theorem wd_499 : (Jvm.Cond.code ({ cls := "LateFalls", name := "busiest", desc := "()I" } : Jvm.MethodName) prog_1_method_32_code (5 : Nat) (Option.some Jvm.ClassFile.FieldType.int)) ∈ wA := wA_of 499 rfl rfl
set_option maxRecDepth 100000 in
theorem wd_500 : (Jvm.Cond.methodLink "LateFalls" (304 : Nat) ({ cls := "java/lang/Integer", name := "bitCount", desc := "(I)I" } : Jvm.MethodName)) ∈ wA := wA_of 500 rfl rfl
set_option maxRecDepth 100000 in
theorem wd_501 : (Jvm.Cond.methodLink "LateFallsLaw" (270 : Nat) ({ cls := "LateFalls", name := "shelter", desc := "()I" } : Jvm.MethodName)) ∈ wA := wA_of 501 rfl rfl
set_option maxRecDepth 100000 in
theorem wd_502 : (Jvm.Cond.instanceMethod ({ cls := "LateFalls", name := "shelter", desc := "()I" } : Jvm.MethodName)) ∈ wA := wA_of 502 rfl rfl
set_option maxRecDepth 100000 in
theorem wd_503 : (Jvm.Cond.selects "LateFalls" ({ cls := "LateFalls", name := "shelter", desc := "()I" } : Jvm.MethodName) ({ cls := "LateFalls", name := "shelter", desc := "()I" } : Jvm.MethodName)) ∈ wA := wA_of 503 rfl rfl
set_option maxRecDepth 100000 in
theorem wd_504 : (Jvm.Cond.code ({ cls := "LateFalls", name := "shelter", desc := "()I" } : Jvm.MethodName) prog_1_method_51_code (6 : Nat) (Option.some Jvm.ClassFile.FieldType.int)) ∈ wA := wA_of 504 rfl rfl
set_option maxRecDepth 100000 in
theorem wd_505 : (Jvm.Cond.methodLink "LateFalls" (315 : Nat) ({ cls := "LateFalls$Forecast", name := "weightIn", desc := "(II)I" } : Jvm.MethodName)) ∈ wA := wA_of 505 rfl rfl
set_option maxRecDepth 100000 in
theorem wd_506 : (Jvm.Cond.instanceMethod ({ cls := "LateFalls$Forecast", name := "weightIn", desc := "(II)I" } : Jvm.MethodName)) ∈ wA := wA_of 506 rfl rfl
set_option maxRecDepth 100000 in
theorem wd_507 : (Jvm.Cond.selects "LateFalls$Forecast" ({ cls := "LateFalls$Forecast", name := "weightIn", desc := "(II)I" } : Jvm.MethodName) ({ cls := "LateFalls$Forecast", name := "weightIn", desc := "(II)I" } : Jvm.MethodName)) ∈ wA := wA_of 507 rfl rfl
set_option maxRecDepth 100000 in
theorem wd_508 : (Jvm.Cond.code ({ cls := "LateFalls$Forecast", name := "weightIn", desc := "(II)I" } : Jvm.MethodName) prog_3_method_4_code (3 : Nat) (Option.some Jvm.ClassFile.FieldType.int)) ∈ wA := wA_of 508 rfl rfl
set_option maxRecDepth 100000 in
theorem wd_509 : (Jvm.Cond.methodLink "LateFalls$Forecast" (48 : Nat) ({ cls := "LateFalls$Scene", name := "weightOf", desc := "(II)I" } : Jvm.MethodName)) ∈ wA := wA_of 509 rfl rfl
set_option maxRecDepth 100000 in
theorem wd_510 : (Jvm.Cond.methodLink "LateFalls" (363 : Nat) ({ cls := "java/lang/Math", name := "min", desc := "(II)I" } : Jvm.MethodName)) ∈ wA := wA_of 510 rfl rfl
set_option maxRecDepth 100000 in
theorem wd_511 : (Jvm.Cond.methodLink "LateFallsLaw" (309 : Nat) ({ cls := "LateFalls", name := "count", desc := "(I)I" } : Jvm.MethodName)) ∈ wA := wA_of 511 rfl rfl
set_option maxRecDepth 100000 in
theorem wd_512 : (Jvm.Cond.instanceMethod ({ cls := "LateFalls", name := "count", desc := "(I)I" } : Jvm.MethodName)) ∈ wA := wA_of 512 rfl rfl
set_option maxRecDepth 100000 in
theorem wd_513 : (Jvm.Cond.selects "LateFalls" ({ cls := "LateFalls", name := "count", desc := "(I)I" } : Jvm.MethodName) ({ cls := "LateFalls", name := "count", desc := "(I)I" } : Jvm.MethodName)) ∈ wA := wA_of 513 rfl rfl
set_option maxRecDepth 100000 in
theorem wd_514 : (Jvm.Cond.code ({ cls := "LateFalls", name := "count", desc := "(I)I" } : Jvm.MethodName) prog_1_method_62_code (3 : Nat) (Option.some Jvm.ClassFile.FieldType.int)) ∈ wA := wA_of 514 rfl rfl
set_option maxRecDepth 100000 in
theorem wd_515 : (Jvm.Cond.methodLink "LateFalls" (256 : Nat) ({ cls := "LateFalls$Scene", name := "countOf", desc := "(I)I" } : Jvm.MethodName)) ∈ wA := wA_of 515 rfl rfl
set_option maxRecDepth 100000 in
theorem wd_516 : (Jvm.Cond.instanceMethod ({ cls := "LateFalls$Scene", name := "countOf", desc := "(I)I" } : Jvm.MethodName)) ∈ wA := wA_of 516 rfl rfl
set_option maxRecDepth 100000 in
theorem wd_517 : (Jvm.Cond.selects "LateFalls$Scene" ({ cls := "LateFalls$Scene", name := "countOf", desc := "(I)I" } : Jvm.MethodName) ({ cls := "LateFalls$Scene", name := "countOf", desc := "(I)I" } : Jvm.MethodName)) ∈ wA := wA_of 517 rfl rfl
set_option maxRecDepth 100000 in
theorem wd_518 : (Jvm.Cond.code ({ cls := "LateFalls$Scene", name := "countOf", desc := "(I)I" } : Jvm.MethodName) prog_8_method_6_code (4 : Nat) (Option.some Jvm.ClassFile.FieldType.int)) ∈ wA := wA_of 518 rfl rfl
set_option maxRecDepth 100000 in
theorem wd_519 : (Jvm.Cond.methodLink "LateFalls" (259 : Nat) ({ cls := "LateFalls$Scene", name := "totalHurt", desc := "()I" } : Jvm.MethodName)) ∈ wA := wA_of 519 rfl rfl
set_option maxRecDepth 100000 in
theorem wd_520 : (Jvm.Cond.instanceMethod ({ cls := "LateFalls$Scene", name := "totalHurt", desc := "()I" } : Jvm.MethodName)) ∈ wA := wA_of 520 rfl rfl
set_option maxRecDepth 100000 in
theorem wd_521 : (Jvm.Cond.selects "LateFalls$Scene" ({ cls := "LateFalls$Scene", name := "totalHurt", desc := "()I" } : Jvm.MethodName) ({ cls := "LateFalls$Scene", name := "totalHurt", desc := "()I" } : Jvm.MethodName)) ∈ wA := wA_of 521 rfl rfl
set_option maxRecDepth 100000 in
theorem wd_522 : (Jvm.Cond.code ({ cls := "LateFalls$Scene", name := "totalHurt", desc := "()I" } : Jvm.MethodName) prog_8_method_7_code (3 : Nat) (Option.some Jvm.ClassFile.FieldType.int)) ∈ wA := wA_of 522 rfl rfl
set_option maxRecDepth 100000 in
theorem wd_523 : (Jvm.Cond.methodLink "LateFallsLaw" (150 : Nat) ({ cls := "LateFallsLaw", name := "district", desc := "(LLateFalls;I[J)I" } : Jvm.MethodName)) ∈ wA := wA_of 523 rfl rfl
set_option maxRecDepth 100000 in
theorem wd_524 : (Jvm.Cond.static ({ cls := "LateFallsLaw", name := "district", desc := "(LLateFalls;I[J)I" } : Jvm.MethodName)) ∈ wA := wA_of 524 rfl rfl
set_option maxRecDepth 100000 in
theorem wd_525 : (Jvm.Cond.codeWith ({ cls := "LateFallsLaw", name := "district", desc := "(LLateFalls;I[J)I" } : Jvm.MethodName) method_3_code (4 : Nat) (Option.some Jvm.ClassFile.FieldType.int) [((0 : Nat), (9 : Nat), (12 : Nat), (13 : Nat))]) ∈ wA := wA_of 525 rfl rfl
set_option maxRecDepth 100000 in
theorem wd_526 : (Jvm.Cond.classLink "LateFallsLaw" (13 : Nat) "java/lang/IllegalArgumentException") ∈ wA := wA_of 526 rfl rfl
set_option maxRecDepth 100000 in
theorem wd_527 : (Jvm.Cond.methodLink "LateFallsLaw" (7 : Nat) ({ cls := "LateFalls", name := "district", desc := "(I)I" } : Jvm.MethodName)) ∈ wA := wA_of 527 rfl rfl
set_option maxRecDepth 100000 in
theorem wd_528 : (Jvm.Cond.instanceMethod ({ cls := "LateFalls", name := "district", desc := "(I)I" } : Jvm.MethodName)) ∈ wA := wA_of 528 rfl rfl
set_option maxRecDepth 100000 in
theorem wd_529 : (Jvm.Cond.selects "LateFalls" ({ cls := "LateFalls", name := "district", desc := "(I)I" } : Jvm.MethodName) ({ cls := "LateFalls", name := "district", desc := "(I)I" } : Jvm.MethodName)) ∈ wA := wA_of 529 rfl rfl
set_option maxRecDepth 100000 in
theorem wd_530 : (Jvm.Cond.code ({ cls := "LateFalls", name := "district", desc := "(I)I" } : Jvm.MethodName) prog_1_method_4_code (2 : Nat) (Option.some Jvm.ClassFile.FieldType.int)) ∈ wA := wA_of 530 rfl rfl
set_option maxRecDepth 100000 in
theorem wd_531 : (Jvm.Cond.classLink "LateFalls" (83 : Nat) "java/lang/IllegalArgumentException") ∈ wA := wA_of 531 rfl rfl
set_option maxRecDepth 100000 in
theorem wd_532 : (Jvm.Cond.instantiable "java/lang/IllegalArgumentException" (6 : Nat)) ∈ wA := wA_of 532 rfl rfl
set_option maxRecDepth 100000 in
theorem wd_540 : (Jvm.Cond.selects "java/lang/IllegalArgumentException" ({ cls := "java/lang/Throwable", name := "fillInStackTrace", desc := "(I)Ljava/lang/Throwable;" } : Jvm.MethodName) ({ cls := "java/lang/Throwable", name := "fillInStackTrace", desc := "(I)Ljava/lang/Throwable;" } : Jvm.MethodName)) ∈ wA := wA_of 540 rfl rfl
set_option maxRecDepth 100000 in
theorem wd_541 : (Jvm.Cond.selects "java/lang/IllegalArgumentException" ({ cls := "java/lang/Throwable", name := "fillInStackTrace", desc := "()Ljava/lang/Throwable;" } : Jvm.MethodName) ({ cls := "java/lang/Throwable", name := "fillInStackTrace", desc := "()Ljava/lang/Throwable;" } : Jvm.MethodName)) ∈ wA := wA_of 541 rfl rfl
set_option maxRecDepth 100000 in
theorem wd_542 : (Jvm.Cond.lays "java/lang/IllegalArgumentException" "java/lang/Throwable" "cause" "Ljava/lang/Throwable;") ∈ wA := wA_of 542 rfl rfl
set_option maxRecDepth 100000 in
theorem wd_543 : (Jvm.Cond.lays "java/lang/Throwable" "java/lang/Throwable" "cause" "Ljava/lang/Throwable;") ∈ wA := wA_of 543 rfl rfl
set_option maxRecDepth 100000 in
theorem wd_544 : (Jvm.Cond.lays "java/lang/IllegalArgumentException" "java/lang/Throwable" "stackTrace" "[Ljava/lang/StackTraceElement;") ∈ wA := wA_of 544 rfl rfl
set_option maxRecDepth 100000 in
theorem wd_545 : (Jvm.Cond.lays "java/lang/Throwable" "java/lang/Throwable" "stackTrace" "[Ljava/lang/StackTraceElement;") ∈ wA := wA_of 545 rfl rfl
set_option maxRecDepth 100000 in
theorem wd_546 : (Jvm.Cond.lays "java/lang/IllegalArgumentException" "java/lang/Throwable" "suppressedExceptions" "Ljava/util/List;") ∈ wA := wA_of 546 rfl rfl
set_option maxRecDepth 100000 in
theorem wd_547 : (Jvm.Cond.lays "java/lang/Throwable" "java/lang/Throwable" "suppressedExceptions" "Ljava/util/List;") ∈ wA := wA_of 547 rfl rfl
set_option maxRecDepth 100000 in
theorem wd_548 : (Jvm.Cond.lays "java/lang/IllegalArgumentException" "java/lang/Throwable" "detailMessage" "Ljava/lang/String;") ∈ wA := wA_of 548 rfl rfl
set_option maxRecDepth 100000 in
theorem wd_549 : (Jvm.Cond.lays "java/lang/Throwable" "java/lang/Throwable" "detailMessage" "Ljava/lang/String;") ∈ wA := wA_of 549 rfl rfl
set_option maxRecDepth 100000 in
theorem wd_550 : (Jvm.Cond.lays "java/lang/IllegalArgumentException" "java/lang/Throwable" "backtrace" "Ljava/lang/Object;") ∈ wA := wA_of 550 rfl rfl
set_option maxRecDepth 100000 in
theorem wd_551 : (Jvm.Cond.lays "java/lang/Throwable" "java/lang/Throwable" "backtrace" "Ljava/lang/Object;") ∈ wA := wA_of 551 rfl rfl
set_option maxRecDepth 100000 in
theorem wd_552 : (Jvm.Cond.fieldLink "java/lang/Throwable" (198 : Nat) "java/lang/Throwable" "backtrace" "Ljava/lang/Object;") ∈ wA := wA_of 552 rfl rfl
set_option maxRecDepth 100000 in
theorem wd_554 : (Jvm.Cond.instanceMethod ({ cls := "java/lang/Throwable", name := "<init>", desc := "()V" } : Jvm.MethodName)) ∈ wA := wA_of 554 rfl rfl
set_option maxRecDepth 100000 in
theorem wd_555 : (Jvm.Cond.code ({ cls := "java/lang/Throwable", name := "<init>", desc := "()V" } : Jvm.MethodName) prog_29_method_1_code (1 : Nat) (Option.none : Option Jvm.ClassFile.FieldType)) ∈ wA := wA_of 555 rfl rfl
set_option maxRecDepth 100000 in
theorem wd_556 : (Jvm.Cond.methodLink "java/lang/Throwable" (1 : Nat) ({ cls := "java/lang/Object", name := "<init>", desc := "()V" } : Jvm.MethodName)) ∈ wA := wA_of 556 rfl rfl
set_option maxRecDepth 100000 in
theorem wd_557 : (Jvm.Cond.fieldLink "java/lang/Throwable" (13 : Nat) "java/lang/Throwable" "UNASSIGNED_STACK" "[Ljava/lang/StackTraceElement;") ∈ wA := wA_of 557 rfl rfl
set_option maxRecDepth 100000 in
theorem wd_559 : (Jvm.Cond.fieldLink "java/lang/Throwable" (20 : Nat) "java/lang/Throwable" "SUPPRESSED_SENTINEL" "Ljava/util/List;") ∈ wA := wA_of 559 rfl rfl
set_option maxRecDepth 100000 in
theorem wd_561 : (Jvm.Cond.methodLink "java/lang/Throwable" (27 : Nat) ({ cls := "java/lang/Throwable", name := "fillInStackTrace", desc := "()Ljava/lang/Throwable;" } : Jvm.MethodName)) ∈ wA := wA_of 561 rfl rfl
set_option maxRecDepth 100000 in
theorem wd_562 : (Jvm.Cond.instanceMethod ({ cls := "java/lang/Throwable", name := "fillInStackTrace", desc := "()Ljava/lang/Throwable;" } : Jvm.MethodName)) ∈ wA := wA_of 562 rfl rfl
set_option maxRecDepth 100000 in
theorem wd_564 : (Jvm.Cond.selects "java/lang/IllegalStateException" ({ cls := "java/lang/Throwable", name := "fillInStackTrace", desc := "()Ljava/lang/Throwable;" } : Jvm.MethodName) ({ cls := "java/lang/Throwable", name := "fillInStackTrace", desc := "()Ljava/lang/Throwable;" } : Jvm.MethodName)) ∈ wA := wA_of 564 rfl rfl
set_option maxRecDepth 100000 in
theorem wd_565 : (Jvm.Cond.selects "java/lang/IndexOutOfBoundsException" ({ cls := "java/lang/Throwable", name := "fillInStackTrace", desc := "()Ljava/lang/Throwable;" } : Jvm.MethodName) ({ cls := "java/lang/Throwable", name := "fillInStackTrace", desc := "()Ljava/lang/Throwable;" } : Jvm.MethodName)) ∈ wA := wA_of 565 rfl rfl
set_option maxRecDepth 100000 in
theorem wd_566 : (Jvm.Cond.selects "java/util/NoSuchElementException" ({ cls := "java/lang/Throwable", name := "fillInStackTrace", desc := "()Ljava/lang/Throwable;" } : Jvm.MethodName) ({ cls := "java/lang/Throwable", name := "fillInStackTrace", desc := "()Ljava/lang/Throwable;" } : Jvm.MethodName)) ∈ wA := wA_of 566 rfl rfl
set_option maxRecDepth 100000 in
theorem wd_567 : (Jvm.Cond.codeSync ({ cls := "java/lang/Throwable", name := "fillInStackTrace", desc := "()Ljava/lang/Throwable;" } : Jvm.MethodName) prog_29_method_18_code (1 : Nat) (Option.some (Jvm.ClassFile.FieldType.object "java/lang/Throwable"))) ∈ wA := wA_of 567 rfl rfl
set_option maxRecDepth 100000 in
theorem wd_568 : (Jvm.Cond.methodLink "java/lang/Throwable" (202 : Nat) ({ cls := "java/lang/Throwable", name := "fillInStackTrace", desc := "(I)Ljava/lang/Throwable;" } : Jvm.MethodName)) ∈ wA := wA_of 568 rfl rfl
set_option maxRecDepth 100000 in
theorem wd_570 : (Jvm.Cond.instanceMethod ({ cls := "java/lang/Throwable", name := "fillInStackTrace", desc := "(I)Ljava/lang/Throwable;" } : Jvm.MethodName)) ∈ wA := wA_of 570 rfl rfl
set_option maxRecDepth 100000 in
theorem wd_571 : (Jvm.Cond.instantiable "java/lang/Throwable" (6 : Nat)) ∈ wA := wA_of 571 rfl rfl
set_option maxRecDepth 100000 in
theorem wd_572 : (Jvm.Cond.native ({ cls := "java/lang/Throwable", name := "fillInStackTrace", desc := "(I)Ljava/lang/Throwable;" } : Jvm.MethodName)) ∈ wA := wA_of 572 rfl rfl
set_option maxRecDepth 100000 in
theorem wd_574 : (Jvm.Cond.methodLink "LateFalls" (87 : Nat) ({ cls := "java/lang/IllegalArgumentException", name := "<init>", desc := "(Ljava/lang/String;)V" } : Jvm.MethodName)) ∈ wA := wA_of 574 rfl rfl
set_option maxRecDepth 100000 in
theorem wd_575 : (Jvm.Cond.instanceMethod ({ cls := "java/lang/IllegalArgumentException", name := "<init>", desc := "(Ljava/lang/String;)V" } : Jvm.MethodName)) ∈ wA := wA_of 575 rfl rfl
set_option maxRecDepth 100000 in
theorem wd_576 : (Jvm.Cond.code ({ cls := "java/lang/IllegalArgumentException", name := "<init>", desc := "(Ljava/lang/String;)V" } : Jvm.MethodName) prog_19_method_2_code (2 : Nat) (Option.none : Option Jvm.ClassFile.FieldType)) ∈ wA := wA_of 576 rfl rfl
set_option maxRecDepth 100000 in
theorem wd_577 : (Jvm.Cond.methodLink "java/lang/IllegalArgumentException" (7 : Nat) ({ cls := "java/lang/RuntimeException", name := "<init>", desc := "(Ljava/lang/String;)V" } : Jvm.MethodName)) ∈ wA := wA_of 577 rfl rfl
set_option maxRecDepth 100000 in
theorem wd_578 : (Jvm.Cond.instanceMethod ({ cls := "java/lang/RuntimeException", name := "<init>", desc := "(Ljava/lang/String;)V" } : Jvm.MethodName)) ∈ wA := wA_of 578 rfl rfl
set_option maxRecDepth 100000 in
theorem wd_579 : (Jvm.Cond.code ({ cls := "java/lang/RuntimeException", name := "<init>", desc := "(Ljava/lang/String;)V" } : Jvm.MethodName) prog_24_method_2_code (2 : Nat) (Option.none : Option Jvm.ClassFile.FieldType)) ∈ wA := wA_of 579 rfl rfl
set_option maxRecDepth 100000 in
theorem wd_580 : (Jvm.Cond.methodLink "java/lang/RuntimeException" (7 : Nat) ({ cls := "java/lang/Exception", name := "<init>", desc := "(Ljava/lang/String;)V" } : Jvm.MethodName)) ∈ wA := wA_of 580 rfl rfl
set_option maxRecDepth 100000 in
theorem wd_581 : (Jvm.Cond.instanceMethod ({ cls := "java/lang/Exception", name := "<init>", desc := "(Ljava/lang/String;)V" } : Jvm.MethodName)) ∈ wA := wA_of 581 rfl rfl
set_option maxRecDepth 100000 in
theorem wd_582 : (Jvm.Cond.code ({ cls := "java/lang/Exception", name := "<init>", desc := "(Ljava/lang/String;)V" } : Jvm.MethodName) prog_18_method_2_code (2 : Nat) (Option.none : Option Jvm.ClassFile.FieldType)) ∈ wA := wA_of 582 rfl rfl
set_option maxRecDepth 100000 in
theorem wd_583 : (Jvm.Cond.methodLink "java/lang/Exception" (7 : Nat) ({ cls := "java/lang/Throwable", name := "<init>", desc := "(Ljava/lang/String;)V" } : Jvm.MethodName)) ∈ wA := wA_of 583 rfl rfl
set_option maxRecDepth 100000 in
theorem wd_584 : (Jvm.Cond.instanceMethod ({ cls := "java/lang/Throwable", name := "<init>", desc := "(Ljava/lang/String;)V" } : Jvm.MethodName)) ∈ wA := wA_of 584 rfl rfl
set_option maxRecDepth 100000 in
theorem wd_585 : (Jvm.Cond.code ({ cls := "java/lang/Throwable", name := "<init>", desc := "(Ljava/lang/String;)V" } : Jvm.MethodName) prog_29_method_2_code (2 : Nat) (Option.none : Option Jvm.ClassFile.FieldType)) ∈ wA := wA_of 585 rfl rfl
set_option maxRecDepth 100000 in
theorem wd_586 : (Jvm.Cond.fieldLink "java/lang/Throwable" (198 : Nat) "java/lang/Throwable" "backtrace" "Ljava/lang/Object;") ∈ wA := wA_of 586 rfl rfl
set_option maxRecDepth 100000 in
theorem wd_587 : (Jvm.Cond.fieldLink "java/lang/Throwable" (31 : Nat) "java/lang/Throwable" "detailMessage" "Ljava/lang/String;") ∈ wA := wA_of 587 rfl rfl
set_option maxRecDepth 100000 in
theorem wd_588 : (Jvm.Cond.fieldLink "java/lang/Throwable" (7 : Nat) "java/lang/Throwable" "cause" "Ljava/lang/Throwable;") ∈ wA := wA_of 588 rfl rfl
set_option maxRecDepth 100000 in
theorem wd_589 : (Jvm.Cond.fieldLink "java/lang/Throwable" (17 : Nat) "java/lang/Throwable" "stackTrace" "[Ljava/lang/StackTraceElement;") ∈ wA := wA_of 589 rfl rfl
set_option maxRecDepth 100000 in
theorem wd_590 : (Jvm.Cond.fieldLink "java/lang/Throwable" (24 : Nat) "java/lang/Throwable" "suppressedExceptions" "Ljava/util/List;") ∈ wA := wA_of 590 rfl rfl
set_option maxRecDepth 100000 in
theorem wd_595 : (Jvm.Cond.lays "java/lang/IllegalArgumentException" "java/lang/Throwable" "depth" "I") ∈ wA := wA_of 595 rfl rfl
set_option maxRecDepth 100000 in
theorem wd_599 : (Jvm.Cond.methodLink "LateFalls" (90 : Nat) ({ cls := "LateFalls$Reader", name := "read", desc := "([BI)V" } : Jvm.MethodName)) ∈ wA := wA_of 599 rfl rfl
set_option maxRecDepth 100000 in
theorem wd_600 : (Jvm.Cond.instanceMethod ({ cls := "LateFalls$Reader", name := "read", desc := "([BI)V" } : Jvm.MethodName)) ∈ wA := wA_of 600 rfl rfl
set_option maxRecDepth 100000 in
theorem wd_601 : (Jvm.Cond.selects "LateFalls$Reader" ({ cls := "LateFalls$Reader", name := "read", desc := "([BI)V" } : Jvm.MethodName) ({ cls := "LateFalls$Reader", name := "read", desc := "([BI)V" } : Jvm.MethodName)) ∈ wA := wA_of 601 rfl rfl
set_option maxRecDepth 100000 in
theorem wd_602 : (Jvm.Cond.code ({ cls := "LateFalls$Reader", name := "read", desc := "([BI)V" } : Jvm.MethodName) prog_7_method_2_code (4 : Nat) (Option.none : Option Jvm.ClassFile.FieldType)) ∈ wA := wA_of 602 rfl rfl
set_option maxRecDepth 100000 in
theorem wd_603 : (Jvm.Cond.classLink "LateFalls$Reader" (35 : Nat) "LateFalls$District") ∈ wA := wA_of 603 rfl rfl
set_option maxRecDepth 100000 in
theorem wd_605 : (Jvm.Cond.methodLink "LateFalls$Reader" (38 : Nat) ({ cls := "LateFalls$Scene", name := "begin", desc := "(LLateFalls$District;)V" } : Jvm.MethodName)) ∈ wA := wA_of 605 rfl rfl
set_option maxRecDepth 100000 in
theorem wd_606 : (Jvm.Cond.instanceMethod ({ cls := "LateFalls$Scene", name := "begin", desc := "(LLateFalls$District;)V" } : Jvm.MethodName)) ∈ wA := wA_of 606 rfl rfl
set_option maxRecDepth 100000 in
theorem wd_607 : (Jvm.Cond.selects "LateFalls$Scene" ({ cls := "LateFalls$Scene", name := "begin", desc := "(LLateFalls$District;)V" } : Jvm.MethodName) ({ cls := "LateFalls$Scene", name := "begin", desc := "(LLateFalls$District;)V" } : Jvm.MethodName)) ∈ wA := wA_of 607 rfl rfl
set_option maxRecDepth 100000 in
theorem wd_608 : (Jvm.Cond.code ({ cls := "LateFalls$Scene", name := "begin", desc := "(LLateFalls$District;)V" } : Jvm.MethodName) prog_8_method_2_code (3 : Nat) (Option.none : Option Jvm.ClassFile.FieldType)) ∈ wA := wA_of 608 rfl rfl
set_option maxRecDepth 100000 in
theorem wd_609 : (Jvm.Cond.methodLink "LateFalls$Reader" (48 : Nat) ({ cls := "LateFalls$Tokens", name := "scan", desc := "([BI)V" } : Jvm.MethodName)) ∈ wA := wA_of 609 rfl rfl
set_option maxRecDepth 100000 in
theorem wd_610 : (Jvm.Cond.instanceMethod ({ cls := "LateFalls$Tokens", name := "scan", desc := "([BI)V" } : Jvm.MethodName)) ∈ wA := wA_of 610 rfl rfl
set_option maxRecDepth 100000 in
theorem wd_611 : (Jvm.Cond.selects "LateFalls$Tokens" ({ cls := "LateFalls$Tokens", name := "scan", desc := "([BI)V" } : Jvm.MethodName) ({ cls := "LateFalls$Tokens", name := "scan", desc := "([BI)V" } : Jvm.MethodName)) ∈ wA := wA_of 611 rfl rfl
set_option maxRecDepth 100000 in
theorem wd_612 : (Jvm.Cond.code ({ cls := "LateFalls$Tokens", name := "scan", desc := "([BI)V" } : Jvm.MethodName) prog_9_method_2_code (8 : Nat) (Option.none : Option Jvm.ClassFile.FieldType)) ∈ wA := wA_of 612 rfl rfl
set_option maxRecDepth 100000 in
theorem wd_613 : (Jvm.Cond.methodLink "LateFalls$Tokens" (22 : Nat) ({ cls := "LateFalls$Tokens", name := "isWithin", desc := "(ICC)Z" } : Jvm.MethodName)) ∈ wA := wA_of 613 rfl rfl
set_option maxRecDepth 100000 in
theorem wd_614 : (Jvm.Cond.static ({ cls := "LateFalls$Tokens", name := "isWithin", desc := "(ICC)Z" } : Jvm.MethodName)) ∈ wA := wA_of 614 rfl rfl
set_option maxRecDepth 100000 in
theorem wd_615 : (Jvm.Cond.code ({ cls := "LateFalls$Tokens", name := "isWithin", desc := "(ICC)Z" } : Jvm.MethodName) prog_9_method_4_code (3 : Nat) (Option.some Jvm.ClassFile.FieldType.boolean)) ∈ wA := wA_of 615 rfl rfl
set_option maxRecDepth 100000 in
theorem wd_616 : (Jvm.Cond.methodLink "LateFalls$Tokens" (26 : Nat) ({ cls := "LateFalls$Tokens", name := "runEnd", desc := "([BIICC)I" } : Jvm.MethodName)) ∈ wA := wA_of 616 rfl rfl
set_option maxRecDepth 100000 in
theorem wd_617 : (Jvm.Cond.static ({ cls := "LateFalls$Tokens", name := "runEnd", desc := "([BIICC)I" } : Jvm.MethodName)) ∈ wA := wA_of 617 rfl rfl
set_option maxRecDepth 100000 in
theorem wd_618 : (Jvm.Cond.code ({ cls := "LateFalls$Tokens", name := "runEnd", desc := "([BIICC)I" } : Jvm.MethodName) prog_9_method_5_code (6 : Nat) (Option.some Jvm.ClassFile.FieldType.int)) ∈ wA := wA_of 618 rfl rfl
set_option maxRecDepth 100000 in
theorem wd_619 : (Jvm.Cond.methodLink "LateFalls$Tokens" (30 : Nat) ({ cls := "LateFalls$Tokens", name := "wordKind", desc := "([BII)I" } : Jvm.MethodName)) ∈ wA := wA_of 619 rfl rfl
set_option maxRecDepth 100000 in
theorem wd_620 : (Jvm.Cond.static ({ cls := "LateFalls$Tokens", name := "wordKind", desc := "([BII)I" } : Jvm.MethodName)) ∈ wA := wA_of 620 rfl rfl
set_option maxRecDepth 100000 in
theorem wd_621 : (Jvm.Cond.code ({ cls := "LateFalls$Tokens", name := "wordKind", desc := "([BII)I" } : Jvm.MethodName) prog_9_method_7_code (8 : Nat) (Option.some Jvm.ClassFile.FieldType.int)) ∈ wA := wA_of 621 rfl rfl
set_option maxRecDepth 100000 in
theorem wd_623 : (Jvm.Cond.methodLink "LateFalls$Tokens" (60 : Nat) ({ cls := "java/lang/String", name := "length", desc := "()I" } : Jvm.MethodName)) ∈ wA := wA_of 623 rfl rfl
set_option maxRecDepth 100000 in
theorem wd_624 : (Jvm.Cond.instanceMethod ({ cls := "java/lang/String", name := "length", desc := "()I" } : Jvm.MethodName)) ∈ wA := wA_of 624 rfl rfl
set_option maxRecDepth 100000 in
theorem wd_625 : (Jvm.Cond.selects "java/lang/String" ({ cls := "java/lang/String", name := "length", desc := "()I" } : Jvm.MethodName) ({ cls := "java/lang/String", name := "length", desc := "()I" } : Jvm.MethodName)) ∈ wA := wA_of 625 rfl rfl
set_option maxRecDepth 100000 in
theorem wd_626 : (Jvm.Cond.code ({ cls := "java/lang/String", name := "length", desc := "()I" } : Jvm.MethodName) prog_25_method_54_code (1 : Nat) (Option.some Jvm.ClassFile.FieldType.int)) ∈ wA := wA_of 626 rfl rfl
set_option maxRecDepth 100000 in
theorem wd_627 : (Jvm.Cond.methodLink "java/lang/String" (335 : Nat) ({ cls := "java/lang/String", name := "coder", desc := "()B" } : Jvm.MethodName)) ∈ wA := wA_of 627 rfl rfl
set_option maxRecDepth 100000 in
theorem wd_628 : (Jvm.Cond.instanceMethod ({ cls := "java/lang/String", name := "coder", desc := "()B" } : Jvm.MethodName)) ∈ wA := wA_of 628 rfl rfl
set_option maxRecDepth 100000 in
theorem wd_629 : (Jvm.Cond.selects "java/lang/String" ({ cls := "java/lang/String", name := "coder", desc := "()B" } : Jvm.MethodName) ({ cls := "java/lang/String", name := "coder", desc := "()B" } : Jvm.MethodName)) ∈ wA := wA_of 629 rfl rfl
set_option maxRecDepth 100000 in
theorem wd_630 : (Jvm.Cond.code ({ cls := "java/lang/String", name := "coder", desc := "()B" } : Jvm.MethodName) prog_25_method_152_code (1 : Nat) (Option.some Jvm.ClassFile.FieldType.byte)) ∈ wA := wA_of 630 rfl rfl
set_option maxRecDepth 100000 in
theorem wd_631 : (Jvm.Cond.fieldLink "java/lang/String" (38 : Nat) "java/lang/String" "COMPACT_STRINGS" "Z") ∈ wA := wA_of 631 rfl rfl
set_option maxRecDepth 100000 in
theorem wd_633 : (Jvm.Cond.methodLink "LateFalls$Tokens" (64 : Nat) ({ cls := "java/lang/String", name := "charAt", desc := "(I)C" } : Jvm.MethodName)) ∈ wA := wA_of 633 rfl rfl
set_option maxRecDepth 100000 in
theorem wd_634 : (Jvm.Cond.instanceMethod ({ cls := "java/lang/String", name := "charAt", desc := "(I)C" } : Jvm.MethodName)) ∈ wA := wA_of 634 rfl rfl
set_option maxRecDepth 100000 in
theorem wd_635 : (Jvm.Cond.selects "java/lang/String" ({ cls := "java/lang/String", name := "charAt", desc := "(I)C" } : Jvm.MethodName) ({ cls := "java/lang/String", name := "charAt", desc := "(I)C" } : Jvm.MethodName)) ∈ wA := wA_of 635 rfl rfl
set_option maxRecDepth 100000 in
theorem wd_636 : (Jvm.Cond.code ({ cls := "java/lang/String", name := "charAt", desc := "(I)C" } : Jvm.MethodName) prog_25_method_56_code (2 : Nat) (Option.some Jvm.ClassFile.FieldType.char)) ∈ wA := wA_of 636 rfl rfl
set_option maxRecDepth 100000 in
theorem wd_637 : (Jvm.Cond.methodLink "java/lang/String" (492 : Nat) ({ cls := "java/lang/String", name := "isLatin1", desc := "()Z" } : Jvm.MethodName)) ∈ wA := wA_of 637 rfl rfl
set_option maxRecDepth 100000 in
theorem wd_638 : (Jvm.Cond.instanceMethod ({ cls := "java/lang/String", name := "isLatin1", desc := "()Z" } : Jvm.MethodName)) ∈ wA := wA_of 638 rfl rfl
set_option maxRecDepth 100000 in
theorem wd_639 : (Jvm.Cond.selects "java/lang/String" ({ cls := "java/lang/String", name := "isLatin1", desc := "()Z" } : Jvm.MethodName) ({ cls := "java/lang/String", name := "isLatin1", desc := "()Z" } : Jvm.MethodName)) ∈ wA := wA_of 639 rfl rfl
set_option maxRecDepth 100000 in
theorem wd_640 : (Jvm.Cond.code ({ cls := "java/lang/String", name := "isLatin1", desc := "()Z" } : Jvm.MethodName) prog_25_method_154_code (1 : Nat) (Option.some Jvm.ClassFile.FieldType.boolean)) ∈ wA := wA_of 640 rfl rfl
set_option maxRecDepth 100000 in
theorem wd_641 : (Jvm.Cond.methodLink "java/lang/String" (495 : Nat) ({ cls := "java/lang/StringLatin1", name := "charAt", desc := "([BI)C" } : Jvm.MethodName)) ∈ wA := wA_of 641 rfl rfl
set_option maxRecDepth 100000 in
theorem wd_642 : (Jvm.Cond.static ({ cls := "java/lang/StringLatin1", name := "charAt", desc := "([BI)C" } : Jvm.MethodName)) ∈ wA := wA_of 642 rfl rfl
set_option maxRecDepth 100000 in
theorem wd_643 : (Jvm.Cond.code ({ cls := "java/lang/StringLatin1", name := "charAt", desc := "([BI)C" } : Jvm.MethodName) prog_26_method_2_code (2 : Nat) (Option.some Jvm.ClassFile.FieldType.char)) ∈ wA := wA_of 643 rfl rfl
set_option maxRecDepth 100000 in
theorem wd_644 : (Jvm.Cond.methodLink "java/lang/StringLatin1" (9 : Nat) ({ cls := "java/lang/String", name := "checkIndex", desc := "(II)V" } : Jvm.MethodName)) ∈ wA := wA_of 644 rfl rfl
set_option maxRecDepth 100000 in
theorem wd_645 : (Jvm.Cond.static ({ cls := "java/lang/String", name := "checkIndex", desc := "(II)V" } : Jvm.MethodName)) ∈ wA := wA_of 645 rfl rfl
set_option maxRecDepth 100000 in
theorem wd_646 : (Jvm.Cond.code ({ cls := "java/lang/String", name := "checkIndex", desc := "(II)V" } : Jvm.MethodName) prog_25_method_155_code (2 : Nat) (Option.none : Option Jvm.ClassFile.FieldType)) ∈ wA := wA_of 646 rfl rfl
set_option maxRecDepth 100000 in
theorem wd_647 : (Jvm.Cond.fieldLink "java/lang/String" (1053 : Nat) "jdk/internal/util/Preconditions" "SIOOBE_FORMATTER" "Ljava/util/function/BiFunction;") ∈ wA := wA_of 647 rfl rfl
set_option maxRecDepth 100000 in
theorem wd_649 : (Jvm.Cond.methodLink "java/lang/String" (1059 : Nat) ({ cls := "jdk/internal/util/Preconditions", name := "checkIndex", desc := "(IILjava/util/function/BiFunction;)I" } : Jvm.MethodName)) ∈ wA := wA_of 649 rfl rfl
set_option maxRecDepth 100000 in
theorem wd_650 : (Jvm.Cond.static ({ cls := "jdk/internal/util/Preconditions", name := "checkIndex", desc := "(IILjava/util/function/BiFunction;)I" } : Jvm.MethodName)) ∈ wA := wA_of 650 rfl rfl
set_option maxRecDepth 100000 in
theorem wd_651 : (Jvm.Cond.code ({ cls := "jdk/internal/util/Preconditions", name := "checkIndex", desc := "(IILjava/util/function/BiFunction;)I" } : Jvm.MethodName) prog_33_method_11_code (3 : Nat) (Option.some Jvm.ClassFile.FieldType.int)) ∈ wA := wA_of 651 rfl rfl
set_option maxRecDepth 100000 in
theorem wd_652 : (Jvm.Cond.methodLink "java/lang/String" (498 : Nat) ({ cls := "java/lang/StringUTF16", name := "charAt", desc := "([BI)C" } : Jvm.MethodName)) ∈ wA := wA_of 652 rfl rfl
set_option maxRecDepth 100000 in
theorem wd_653 : (Jvm.Cond.static ({ cls := "java/lang/StringUTF16", name := "charAt", desc := "([BI)C" } : Jvm.MethodName)) ∈ wA := wA_of 653 rfl rfl
set_option maxRecDepth 100000 in
theorem wd_654 : (Jvm.Cond.code ({ cls := "java/lang/StringUTF16", name := "charAt", desc := "([BI)C" } : Jvm.MethodName) prog_27_method_83_code (2 : Nat) (Option.some Jvm.ClassFile.FieldType.char)) ∈ wA := wA_of 654 rfl rfl
set_option maxRecDepth 100000 in
theorem wd_655 : (Jvm.Cond.methodLink "java/lang/StringUTF16" (67 : Nat) ({ cls := "java/lang/StringUTF16", name := "checkIndex", desc := "(I[B)V" } : Jvm.MethodName)) ∈ wA := wA_of 655 rfl rfl
set_option maxRecDepth 100000 in
theorem wd_656 : (Jvm.Cond.static ({ cls := "java/lang/StringUTF16", name := "checkIndex", desc := "(I[B)V" } : Jvm.MethodName)) ∈ wA := wA_of 656 rfl rfl
set_option maxRecDepth 100000 in
theorem wd_657 : (Jvm.Cond.code ({ cls := "java/lang/StringUTF16", name := "checkIndex", desc := "(I[B)V" } : Jvm.MethodName) prog_27_method_91_code (2 : Nat) (Option.none : Option Jvm.ClassFile.FieldType)) ∈ wA := wA_of 657 rfl rfl
set_option maxRecDepth 100000 in
theorem wd_658 : (Jvm.Cond.methodLink "java/lang/StringUTF16" (48 : Nat) ({ cls := "java/lang/StringUTF16", name := "length", desc := "([B)I" } : Jvm.MethodName)) ∈ wA := wA_of 658 rfl rfl
set_option maxRecDepth 100000 in
theorem wd_659 : (Jvm.Cond.static ({ cls := "java/lang/StringUTF16", name := "length", desc := "([B)I" } : Jvm.MethodName)) ∈ wA := wA_of 659 rfl rfl
set_option maxRecDepth 100000 in
theorem wd_660 : (Jvm.Cond.code ({ cls := "java/lang/StringUTF16", name := "length", desc := "([B)I" } : Jvm.MethodName) prog_27_method_6_code (1 : Nat) (Option.some Jvm.ClassFile.FieldType.int)) ∈ wA := wA_of 660 rfl rfl
set_option maxRecDepth 100000 in
theorem wd_661 : (Jvm.Cond.methodLink "java/lang/StringUTF16" (414 : Nat) ({ cls := "java/lang/String", name := "checkIndex", desc := "(II)V" } : Jvm.MethodName)) ∈ wA := wA_of 661 rfl rfl
set_option maxRecDepth 100000 in
theorem wd_662 : (Jvm.Cond.methodLink "java/lang/StringUTF16" (71 : Nat) ({ cls := "java/lang/StringUTF16", name := "getChar", desc := "([BI)C" } : Jvm.MethodName)) ∈ wA := wA_of 662 rfl rfl
set_option maxRecDepth 100000 in
theorem wd_663 : (Jvm.Cond.static ({ cls := "java/lang/StringUTF16", name := "getChar", desc := "([BI)C" } : Jvm.MethodName)) ∈ wA := wA_of 663 rfl rfl
set_option maxRecDepth 100000 in
theorem wd_664 : (Jvm.Cond.code ({ cls := "java/lang/StringUTF16", name := "getChar", desc := "([BI)C" } : Jvm.MethodName) prog_27_method_5_code (2 : Nat) (Option.some Jvm.ClassFile.FieldType.char)) ∈ wA := wA_of 664 rfl rfl
set_option maxRecDepth 100000 in
theorem wd_665 : (Jvm.Cond.fieldLink "java/lang/StringUTF16" (44 : Nat) "java/lang/StringUTF16" "$assertionsDisabled" "Z") ∈ wA := wA_of 665 rfl rfl
set_option maxRecDepth 100000 in
theorem wd_667 : (Jvm.Cond.fieldLink "java/lang/StringUTF16" (59 : Nat) "java/lang/StringUTF16" "HI_BYTE_SHIFT" "I") ∈ wA := wA_of 667 rfl rfl
set_option maxRecDepth 100000 in
theorem wd_669 : (Jvm.Cond.fieldLink "java/lang/StringUTF16" (63 : Nat) "java/lang/StringUTF16" "LO_BYTE_SHIFT" "I") ∈ wA := wA_of 669 rfl rfl
set_option maxRecDepth 100000 in
theorem wd_671 : (Jvm.Cond.methodLink "LateFalls$Tokens" (34 : Nat) ({ cls := "LateFalls$Tokens", name := "numberAt", desc := "([BII)I" } : Jvm.MethodName)) ∈ wA := wA_of 671 rfl rfl
set_option maxRecDepth 100000 in
theorem wd_672 : (Jvm.Cond.static ({ cls := "LateFalls$Tokens", name := "numberAt", desc := "([BII)I" } : Jvm.MethodName)) ∈ wA := wA_of 672 rfl rfl
set_option maxRecDepth 100000 in
theorem wd_673 : (Jvm.Cond.code ({ cls := "LateFalls$Tokens", name := "numberAt", desc := "([BII)I" } : Jvm.MethodName) prog_9_method_6_code (5 : Nat) (Option.some Jvm.ClassFile.FieldType.int)) ∈ wA := wA_of 673 rfl rfl
set_option maxRecDepth 100000 in
theorem wd_675 : (Jvm.Cond.methodLink "LateFalls$Tokens" (39 : Nat) ({ cls := "java/lang/String", name := "indexOf", desc := "(I)I" } : Jvm.MethodName)) ∈ wA := wA_of 675 rfl rfl
set_option maxRecDepth 100000 in
theorem wd_676 : (Jvm.Cond.instanceMethod ({ cls := "java/lang/String", name := "indexOf", desc := "(I)I" } : Jvm.MethodName)) ∈ wA := wA_of 676 rfl rfl
set_option maxRecDepth 100000 in
theorem wd_677 : (Jvm.Cond.selects "java/lang/String" ({ cls := "java/lang/String", name := "indexOf", desc := "(I)I" } : Jvm.MethodName) ({ cls := "java/lang/String", name := "indexOf", desc := "(I)I" } : Jvm.MethodName)) ∈ wA := wA_of 677 rfl rfl
set_option maxRecDepth 100000 in
theorem wd_678 : (Jvm.Cond.code ({ cls := "java/lang/String", name := "indexOf", desc := "(I)I" } : Jvm.MethodName) prog_25_method_79_code (2 : Nat) (Option.some Jvm.ClassFile.FieldType.int)) ∈ wA := wA_of 678 rfl rfl
set_option maxRecDepth 100000 in
theorem wd_679 : (Jvm.Cond.methodLink "java/lang/String" (633 : Nat) ({ cls := "java/lang/String", name := "indexOf", desc := "(II)I" } : Jvm.MethodName)) ∈ wA := wA_of 679 rfl rfl
set_option maxRecDepth 100000 in
theorem wd_680 : (Jvm.Cond.instanceMethod ({ cls := "java/lang/String", name := "indexOf", desc := "(II)I" } : Jvm.MethodName)) ∈ wA := wA_of 680 rfl rfl
set_option maxRecDepth 100000 in
theorem wd_681 : (Jvm.Cond.selects "java/lang/String" ({ cls := "java/lang/String", name := "indexOf", desc := "(II)I" } : Jvm.MethodName) ({ cls := "java/lang/String", name := "indexOf", desc := "(II)I" } : Jvm.MethodName)) ∈ wA := wA_of 681 rfl rfl
set_option maxRecDepth 100000 in
theorem wd_682 : (Jvm.Cond.code ({ cls := "java/lang/String", name := "indexOf", desc := "(II)I" } : Jvm.MethodName) prog_25_method_80_code (3 : Nat) (Option.some Jvm.ClassFile.FieldType.int)) ∈ wA := wA_of 682 rfl rfl
set_option maxRecDepth 100000 in
theorem wd_683 : (Jvm.Cond.methodLink "java/lang/String" (505 : Nat) ({ cls := "java/lang/String", name := "length", desc := "()I" } : Jvm.MethodName)) ∈ wA := wA_of 683 rfl rfl
set_option maxRecDepth 100000 in
theorem wd_684 : (Jvm.Cond.methodLink "java/lang/String" (637 : Nat) ({ cls := "java/lang/StringLatin1", name := "indexOf", desc := "([BIII)I" } : Jvm.MethodName)) ∈ wA := wA_of 684 rfl rfl
set_option maxRecDepth 100000 in
theorem wd_685 : (Jvm.Cond.static ({ cls := "java/lang/StringLatin1", name := "indexOf", desc := "([BIII)I" } : Jvm.MethodName)) ∈ wA := wA_of 685 rfl rfl
set_option maxRecDepth 100000 in
theorem wd_686 : (Jvm.Cond.code ({ cls := "java/lang/StringLatin1", name := "indexOf", desc := "([BIII)I" } : Jvm.MethodName) prog_26_method_22_code (4 : Nat) (Option.some Jvm.ClassFile.FieldType.int)) ∈ wA := wA_of 686 rfl rfl
set_option maxRecDepth 100000 in
theorem wd_687 : (Jvm.Cond.methodLink "java/lang/StringLatin1" (88 : Nat) ({ cls := "java/lang/StringLatin1", name := "canEncode", desc := "(I)Z" } : Jvm.MethodName)) ∈ wA := wA_of 687 rfl rfl
set_option maxRecDepth 100000 in
theorem wd_688 : (Jvm.Cond.static ({ cls := "java/lang/StringLatin1", name := "canEncode", desc := "(I)Z" } : Jvm.MethodName)) ∈ wA := wA_of 688 rfl rfl
set_option maxRecDepth 100000 in
theorem wd_689 : (Jvm.Cond.code ({ cls := "java/lang/StringLatin1", name := "canEncode", desc := "(I)Z" } : Jvm.MethodName) prog_26_method_4_code (1 : Nat) (Option.some Jvm.ClassFile.FieldType.boolean)) ∈ wA := wA_of 689 rfl rfl
set_option maxRecDepth 100000 in
theorem wd_690 : (Jvm.Cond.methodLink "java/lang/StringLatin1" (92 : Nat) ({ cls := "java/lang/Math", name := "max", desc := "(II)I" } : Jvm.MethodName)) ∈ wA := wA_of 690 rfl rfl
set_option maxRecDepth 100000 in
theorem wd_691 : (Jvm.Cond.methodLink "java/lang/StringLatin1" (38 : Nat) ({ cls := "java/lang/Math", name := "min", desc := "(II)I" } : Jvm.MethodName)) ∈ wA := wA_of 691 rfl rfl
set_option maxRecDepth 100000 in
theorem wd_692 : (Jvm.Cond.methodLink "java/lang/StringLatin1" (95 : Nat) ({ cls := "java/lang/StringLatin1", name := "indexOfChar", desc := "([BIII)I" } : Jvm.MethodName)) ∈ wA := wA_of 692 rfl rfl
set_option maxRecDepth 100000 in
theorem wd_693 : (Jvm.Cond.static ({ cls := "java/lang/StringLatin1", name := "indexOfChar", desc := "([BIII)I" } : Jvm.MethodName)) ∈ wA := wA_of 693 rfl rfl
set_option maxRecDepth 100000 in
theorem wd_694 : (Jvm.Cond.code ({ cls := "java/lang/StringLatin1", name := "indexOfChar", desc := "([BIII)I" } : Jvm.MethodName) prog_26_method_23_code (6 : Nat) (Option.some Jvm.ClassFile.FieldType.int)) ∈ wA := wA_of 694 rfl rfl
set_option maxRecDepth 100000 in
theorem wd_695 : (Jvm.Cond.methodLink "java/lang/String" (640 : Nat) ({ cls := "java/lang/StringUTF16", name := "indexOf", desc := "([BIII)I" } : Jvm.MethodName)) ∈ wA := wA_of 695 rfl rfl
set_option maxRecDepth 100000 in
theorem wd_696 : (Jvm.Cond.static ({ cls := "java/lang/StringUTF16", name := "indexOf", desc := "([BIII)I" } : Jvm.MethodName)) ∈ wA := wA_of 696 rfl rfl
set_option maxRecDepth 100000 in
theorem wd_697 : (Jvm.Cond.code ({ cls := "java/lang/StringUTF16", name := "indexOf", desc := "([BIII)I" } : Jvm.MethodName) prog_27_method_40_code (4 : Nat) (Option.some Jvm.ClassFile.FieldType.int)) ∈ wA := wA_of 697 rfl rfl
set_option maxRecDepth 100000 in
theorem wd_698 : (Jvm.Cond.methodLink "java/lang/StringUTF16" (224 : Nat) ({ cls := "java/lang/Math", name := "max", desc := "(II)I" } : Jvm.MethodName)) ∈ wA := wA_of 698 rfl rfl
set_option maxRecDepth 100000 in
theorem wd_699 : (Jvm.Cond.methodLink "java/lang/StringUTF16" (183 : Nat) ({ cls := "java/lang/Math", name := "min", desc := "(II)I" } : Jvm.MethodName)) ∈ wA := wA_of 699 rfl rfl
set_option maxRecDepth 100000 in
theorem wd_700 : (Jvm.Cond.constant "java/lang/StringUTF16" (227 : Nat) (65536 : Int32)) ∈ wA := wA_of 700 rfl rfl
set_option maxRecDepth 100000 in
theorem wd_701 : (Jvm.Cond.methodLink "java/lang/StringUTF16" (228 : Nat) ({ cls := "java/lang/StringUTF16", name := "indexOfChar", desc := "([BIII)I" } : Jvm.MethodName)) ∈ wA := wA_of 701 rfl rfl
set_option maxRecDepth 100000 in
theorem wd_702 : (Jvm.Cond.static ({ cls := "java/lang/StringUTF16", name := "indexOfChar", desc := "([BIII)I" } : Jvm.MethodName)) ∈ wA := wA_of 702 rfl rfl
set_option maxRecDepth 100000 in
theorem wd_703 : (Jvm.Cond.code ({ cls := "java/lang/StringUTF16", name := "indexOfChar", desc := "([BIII)I" } : Jvm.MethodName) prog_27_method_47_code (4 : Nat) (Option.some Jvm.ClassFile.FieldType.int)) ∈ wA := wA_of 703 rfl rfl
set_option maxRecDepth 100000 in
theorem wd_704 : (Jvm.Cond.methodLink "java/lang/StringUTF16" (96 : Nat) ({ cls := "java/lang/StringUTF16", name := "checkBoundsBeginEnd", desc := "(II[B)V" } : Jvm.MethodName)) ∈ wA := wA_of 704 rfl rfl
set_option maxRecDepth 100000 in
theorem wd_705 : (Jvm.Cond.static ({ cls := "java/lang/StringUTF16", name := "checkBoundsBeginEnd", desc := "(II[B)V" } : Jvm.MethodName)) ∈ wA := wA_of 705 rfl rfl
set_option maxRecDepth 100000 in
theorem wd_706 : (Jvm.Cond.code ({ cls := "java/lang/StringUTF16", name := "checkBoundsBeginEnd", desc := "(II[B)V" } : Jvm.MethodName) prog_27_method_93_code (3 : Nat) (Option.none : Option Jvm.ClassFile.FieldType)) ∈ wA := wA_of 706 rfl rfl
set_option maxRecDepth 100000 in
theorem wd_707 : (Jvm.Cond.methodLink "java/lang/StringUTF16" (241 : Nat) ({ cls := "java/lang/String", name := "checkBoundsBeginEnd", desc := "(III)V" } : Jvm.MethodName)) ∈ wA := wA_of 707 rfl rfl
set_option maxRecDepth 100000 in
theorem wd_708 : (Jvm.Cond.static ({ cls := "java/lang/String", name := "checkBoundsBeginEnd", desc := "(III)V" } : Jvm.MethodName)) ∈ wA := wA_of 708 rfl rfl
set_option maxRecDepth 100000 in
theorem wd_709 : (Jvm.Cond.code ({ cls := "java/lang/String", name := "checkBoundsBeginEnd", desc := "(III)V" } : Jvm.MethodName) prog_25_method_158_code (3 : Nat) (Option.none : Option Jvm.ClassFile.FieldType)) ∈ wA := wA_of 709 rfl rfl
set_option maxRecDepth 100000 in
theorem wd_710 : (Jvm.Cond.methodLink "java/lang/String" (1062 : Nat) ({ cls := "jdk/internal/util/Preconditions", name := "checkFromToIndex", desc := "(IIILjava/util/function/BiFunction;)I" } : Jvm.MethodName)) ∈ wA := wA_of 710 rfl rfl
set_option maxRecDepth 100000 in
theorem wd_711 : (Jvm.Cond.static ({ cls := "jdk/internal/util/Preconditions", name := "checkFromToIndex", desc := "(IIILjava/util/function/BiFunction;)I" } : Jvm.MethodName)) ∈ wA := wA_of 711 rfl rfl
set_option maxRecDepth 100000 in
theorem wd_712 : (Jvm.Cond.code ({ cls := "jdk/internal/util/Preconditions", name := "checkFromToIndex", desc := "(IIILjava/util/function/BiFunction;)I" } : Jvm.MethodName) prog_33_method_12_code (4 : Nat) (Option.some Jvm.ClassFile.FieldType.int)) ∈ wA := wA_of 712 rfl rfl
set_option maxRecDepth 100000 in
theorem wd_713 : (Jvm.Cond.methodLink "java/lang/StringUTF16" (244 : Nat) ({ cls := "java/lang/StringUTF16", name := "indexOfCharUnsafe", desc := "([BIII)I" } : Jvm.MethodName)) ∈ wA := wA_of 713 rfl rfl
set_option maxRecDepth 100000 in
theorem wd_714 : (Jvm.Cond.static ({ cls := "java/lang/StringUTF16", name := "indexOfCharUnsafe", desc := "([BIII)I" } : Jvm.MethodName)) ∈ wA := wA_of 714 rfl rfl
set_option maxRecDepth 100000 in
theorem wd_715 : (Jvm.Cond.code ({ cls := "java/lang/StringUTF16", name := "indexOfCharUnsafe", desc := "([BIII)I" } : Jvm.MethodName) prog_27_method_48_code (5 : Nat) (Option.some Jvm.ClassFile.FieldType.int)) ∈ wA := wA_of 715 rfl rfl
set_option maxRecDepth 100000 in
theorem wd_716 : (Jvm.Cond.methodLink "java/lang/StringUTF16" (232 : Nat) ({ cls := "java/lang/StringUTF16", name := "indexOfSupplementary", desc := "([BIII)I" } : Jvm.MethodName)) ∈ wA := wA_of 716 rfl rfl
set_option maxRecDepth 100000 in
theorem wd_717 : (Jvm.Cond.static ({ cls := "java/lang/StringUTF16", name := "indexOfSupplementary", desc := "([BIII)I" } : Jvm.MethodName)) ∈ wA := wA_of 717 rfl rfl
set_option maxRecDepth 100000 in
theorem wd_718 : (Jvm.Cond.code ({ cls := "java/lang/StringUTF16", name := "indexOfSupplementary", desc := "([BIII)I" } : Jvm.MethodName) prog_27_method_49_code (7 : Nat) (Option.some Jvm.ClassFile.FieldType.int)) ∈ wA := wA_of 718 rfl rfl
set_option maxRecDepth 100000 in
theorem wd_719 : (Jvm.Cond.methodLink "java/lang/StringUTF16" (164 : Nat) ({ cls := "java/lang/Character", name := "isValidCodePoint", desc := "(I)Z" } : Jvm.MethodName)) ∈ wA := wA_of 719 rfl rfl
set_option maxRecDepth 100000 in
theorem wd_720 : (Jvm.Cond.static ({ cls := "java/lang/Character", name := "isValidCodePoint", desc := "(I)Z" } : Jvm.MethodName)) ∈ wA := wA_of 720 rfl rfl
set_option maxRecDepth 100000 in
theorem wd_721 : (Jvm.Cond.code ({ cls := "java/lang/Character", name := "isValidCodePoint", desc := "(I)Z" } : Jvm.MethodName) prog_16_method_11_code (2 : Nat) (Option.some Jvm.ClassFile.FieldType.boolean)) ∈ wA := wA_of 721 rfl rfl
set_option maxRecDepth 100000 in
theorem wd_722 : (Jvm.Cond.methodLink "java/lang/StringUTF16" (157 : Nat) ({ cls := "java/lang/Character", name := "highSurrogate", desc := "(I)C" } : Jvm.MethodName)) ∈ wA := wA_of 722 rfl rfl
set_option maxRecDepth 100000 in
theorem wd_723 : (Jvm.Cond.static ({ cls := "java/lang/Character", name := "highSurrogate", desc := "(I)C" } : Jvm.MethodName)) ∈ wA := wA_of 723 rfl rfl
set_option maxRecDepth 100000 in
theorem wd_724 : (Jvm.Cond.code ({ cls := "java/lang/Character", name := "highSurrogate", desc := "(I)C" } : Jvm.MethodName) prog_16_method_28_code (1 : Nat) (Option.some Jvm.ClassFile.FieldType.char)) ∈ wA := wA_of 724 rfl rfl
set_option maxRecDepth 100000 in
theorem wd_725 : (Jvm.Cond.constant "java/lang/Character" (110 : Nat) (55232 : Int32)) ∈ wA := wA_of 725 rfl rfl
set_option maxRecDepth 100000 in
theorem wd_726 : (Jvm.Cond.methodLink "java/lang/StringUTF16" (161 : Nat) ({ cls := "java/lang/Character", name := "lowSurrogate", desc := "(I)C" } : Jvm.MethodName)) ∈ wA := wA_of 726 rfl rfl
set_option maxRecDepth 100000 in
theorem wd_727 : (Jvm.Cond.static ({ cls := "java/lang/Character", name := "lowSurrogate", desc := "(I)C" } : Jvm.MethodName)) ∈ wA := wA_of 727 rfl rfl
set_option maxRecDepth 100000 in
theorem wd_728 : (Jvm.Cond.code ({ cls := "java/lang/Character", name := "lowSurrogate", desc := "(I)C" } : Jvm.MethodName) prog_16_method_29_code (1 : Nat) (Option.some Jvm.ClassFile.FieldType.char)) ∈ wA := wA_of 728 rfl rfl
set_option maxRecDepth 100000 in
theorem wd_729 : (Jvm.Cond.constant "java/lang/Character" (76 : Nat) (56320 : Int32)) ∈ wA := wA_of 729 rfl rfl
set_option maxRecDepth 100000 in
theorem wd_730 : (Jvm.Cond.methodLink "LateFalls$Tokens" (45 : Nat) ({ cls := "LateFalls$Tokens", name := "append", desc := "(II)V" } : Jvm.MethodName)) ∈ wA := wA_of 730 rfl rfl
set_option maxRecDepth 100000 in
theorem wd_732 : (Jvm.Cond.instanceMethod ({ cls := "LateFalls$Tokens", name := "append", desc := "(II)V" } : Jvm.MethodName)) ∈ wA := wA_of 732 rfl rfl
set_option maxRecDepth 100000 in
theorem wd_733 : (Jvm.Cond.code ({ cls := "LateFalls$Tokens", name := "append", desc := "(II)V" } : Jvm.MethodName) prog_9_method_3_code (3 : Nat) (Option.none : Option Jvm.ClassFile.FieldType)) ∈ wA := wA_of 733 rfl rfl
set_option maxRecDepth 100000 in
theorem wd_734 : (Jvm.Cond.methodLink "LateFalls$Reader" (52 : Nat) ({ cls := "LateFalls$Reader", name := "fallLine", desc := "()V" } : Jvm.MethodName)) ∈ wA := wA_of 734 rfl rfl
set_option maxRecDepth 100000 in
theorem wd_736 : (Jvm.Cond.instanceMethod ({ cls := "LateFalls$Reader", name := "fallLine", desc := "()V" } : Jvm.MethodName)) ∈ wA := wA_of 736 rfl rfl
set_option maxRecDepth 100000 in
theorem wd_737 : (Jvm.Cond.code ({ cls := "LateFalls$Reader", name := "fallLine", desc := "()V" } : Jvm.MethodName) prog_7_method_7_code (1 : Nat) (Option.none : Option Jvm.ClassFile.FieldType)) ∈ wA := wA_of 737 rfl rfl
set_option maxRecDepth 100000 in
theorem wd_738 : (Jvm.Cond.methodLink "LateFalls$Reader" (99 : Nat) ({ cls := "LateFalls$Reader", name := "expect", desc := "(I)V" } : Jvm.MethodName)) ∈ wA := wA_of 738 rfl rfl
set_option maxRecDepth 100000 in
theorem wd_740 : (Jvm.Cond.instanceMethod ({ cls := "LateFalls$Reader", name := "expect", desc := "(I)V" } : Jvm.MethodName)) ∈ wA := wA_of 740 rfl rfl
set_option maxRecDepth 100000 in
theorem wd_741 : (Jvm.Cond.code ({ cls := "LateFalls$Reader", name := "expect", desc := "(I)V" } : Jvm.MethodName) prog_7_method_4_code (2 : Nat) (Option.none : Option Jvm.ClassFile.FieldType)) ∈ wA := wA_of 741 rfl rfl
set_option maxRecDepth 100000 in
theorem wd_742 : (Jvm.Cond.methodLink "LateFalls$Reader" (70 : Nat) ({ cls := "LateFalls$Tokens", name := "advance", desc := "()V" } : Jvm.MethodName)) ∈ wA := wA_of 742 rfl rfl
set_option maxRecDepth 100000 in
theorem wd_743 : (Jvm.Cond.instanceMethod ({ cls := "LateFalls$Tokens", name := "advance", desc := "()V" } : Jvm.MethodName)) ∈ wA := wA_of 743 rfl rfl
set_option maxRecDepth 100000 in
theorem wd_744 : (Jvm.Cond.selects "LateFalls$Tokens" ({ cls := "LateFalls$Tokens", name := "advance", desc := "()V" } : Jvm.MethodName) ({ cls := "LateFalls$Tokens", name := "advance", desc := "()V" } : Jvm.MethodName)) ∈ wA := wA_of 744 rfl rfl
set_option maxRecDepth 100000 in
theorem wd_745 : (Jvm.Cond.code ({ cls := "LateFalls$Tokens", name := "advance", desc := "()V" } : Jvm.MethodName) prog_9_method_8_code (1 : Nat) (Option.none : Option Jvm.ClassFile.FieldType)) ∈ wA := wA_of 745 rfl rfl
set_option maxRecDepth 100000 in
theorem wd_746 : (Jvm.Cond.methodLink "LateFalls$Reader" (80 : Nat) ({ cls := "LateFalls$Reader", name := "refuse", desc := "(I)V" } : Jvm.MethodName)) ∈ wA := wA_of 746 rfl rfl
set_option maxRecDepth 100000 in
theorem wd_748 : (Jvm.Cond.instanceMethod ({ cls := "LateFalls$Reader", name := "refuse", desc := "(I)V" } : Jvm.MethodName)) ∈ wA := wA_of 748 rfl rfl
set_option maxRecDepth 100000 in
theorem wd_749 : (Jvm.Cond.code ({ cls := "LateFalls$Reader", name := "refuse", desc := "(I)V" } : Jvm.MethodName) prog_7_method_3_code (2 : Nat) (Option.none : Option Jvm.ClassFile.FieldType)) ∈ wA := wA_of 749 rfl rfl
set_option maxRecDepth 100000 in
theorem wd_750 : (Jvm.Cond.methodLink "LateFalls$Reader" (92 : Nat) ({ cls := "LateFalls$Tokens", name := "stop", desc := "()V" } : Jvm.MethodName)) ∈ wA := wA_of 750 rfl rfl
set_option maxRecDepth 100000 in
theorem wd_751 : (Jvm.Cond.instanceMethod ({ cls := "LateFalls$Tokens", name := "stop", desc := "()V" } : Jvm.MethodName)) ∈ wA := wA_of 751 rfl rfl
set_option maxRecDepth 100000 in
theorem wd_752 : (Jvm.Cond.selects "LateFalls$Tokens" ({ cls := "LateFalls$Tokens", name := "stop", desc := "()V" } : Jvm.MethodName) ({ cls := "LateFalls$Tokens", name := "stop", desc := "()V" } : Jvm.MethodName)) ∈ wA := wA_of 752 rfl rfl
set_option maxRecDepth 100000 in
theorem wd_753 : (Jvm.Cond.code ({ cls := "LateFalls$Tokens", name := "stop", desc := "()V" } : Jvm.MethodName) prog_9_method_9_code (1 : Nat) (Option.none : Option Jvm.ClassFile.FieldType)) ∈ wA := wA_of 753 rfl rfl
set_option maxRecDepth 100000 in
theorem wd_754 : (Jvm.Cond.methodLink "LateFalls$Reader" (73 : Nat) ({ cls := "LateFalls$Reader", name := "number", desc := "(II)I" } : Jvm.MethodName)) ∈ wA := wA_of 754 rfl rfl
set_option maxRecDepth 100000 in
theorem wd_756 : (Jvm.Cond.instanceMethod ({ cls := "LateFalls$Reader", name := "number", desc := "(II)I" } : Jvm.MethodName)) ∈ wA := wA_of 756 rfl rfl
set_option maxRecDepth 100000 in
theorem wd_757 : (Jvm.Cond.code ({ cls := "LateFalls$Reader", name := "number", desc := "(II)I" } : Jvm.MethodName) prog_7_method_5_code (4 : Nat) (Option.some Jvm.ClassFile.FieldType.int)) ∈ wA := wA_of 757 rfl rfl
set_option maxRecDepth 100000 in
theorem wd_758 : (Jvm.Cond.methodLink "LateFalls$Reader" (95 : Nat) ({ cls := "LateFalls$Tokens", name := "isNumber", desc := "()Z" } : Jvm.MethodName)) ∈ wA := wA_of 758 rfl rfl
set_option maxRecDepth 100000 in
theorem wd_759 : (Jvm.Cond.instanceMethod ({ cls := "LateFalls$Tokens", name := "isNumber", desc := "()Z" } : Jvm.MethodName)) ∈ wA := wA_of 759 rfl rfl
set_option maxRecDepth 100000 in
theorem wd_760 : (Jvm.Cond.selects "LateFalls$Tokens" ({ cls := "LateFalls$Tokens", name := "isNumber", desc := "()Z" } : Jvm.MethodName) ({ cls := "LateFalls$Tokens", name := "isNumber", desc := "()Z" } : Jvm.MethodName)) ∈ wA := wA_of 760 rfl rfl
set_option maxRecDepth 100000 in
theorem wd_761 : (Jvm.Cond.code ({ cls := "LateFalls$Tokens", name := "isNumber", desc := "()Z" } : Jvm.MethodName) prog_9_method_10_code (1 : Nat) (Option.some Jvm.ClassFile.FieldType.boolean)) ∈ wA := wA_of 761 rfl rfl
set_option maxRecDepth 100000 in
theorem wd_762 : (Jvm.Cond.methodLink "LateFalls$Reader" (84 : Nat) ({ cls := "LateFalls$Reader", name := "lineEnd", desc := "()V" } : Jvm.MethodName)) ∈ wA := wA_of 762 rfl rfl
set_option maxRecDepth 100000 in
theorem wd_764 : (Jvm.Cond.instanceMethod ({ cls := "LateFalls$Reader", name := "lineEnd", desc := "()V" } : Jvm.MethodName)) ∈ wA := wA_of 764 rfl rfl
set_option maxRecDepth 100000 in
theorem wd_765 : (Jvm.Cond.code ({ cls := "LateFalls$Reader", name := "lineEnd", desc := "()V" } : Jvm.MethodName) prog_7_method_6_code (1 : Nat) (Option.none : Option Jvm.ClassFile.FieldType)) ∈ wA := wA_of 765 rfl rfl
set_option maxRecDepth 100000 in
theorem wd_766 : (Jvm.Cond.methodLink "LateFalls$Reader" (58 : Nat) ({ cls := "LateFalls$Reader", name := "thingLine", desc := "()V" } : Jvm.MethodName)) ∈ wA := wA_of 766 rfl rfl
set_option maxRecDepth 100000 in
theorem wd_768 : (Jvm.Cond.instanceMethod ({ cls := "LateFalls$Reader", name := "thingLine", desc := "()V" } : Jvm.MethodName)) ∈ wA := wA_of 768 rfl rfl
set_option maxRecDepth 100000 in
theorem wd_769 : (Jvm.Cond.code ({ cls := "LateFalls$Reader", name := "thingLine", desc := "()V" } : Jvm.MethodName) prog_7_method_8_code (2 : Nat) (Option.none : Option Jvm.ClassFile.FieldType)) ∈ wA := wA_of 769 rfl rfl
set_option maxRecDepth 100000 in
theorem wd_770 : (Jvm.Cond.methodLink "LateFalls$Reader" (117 : Nat) ({ cls := "LateFalls$Reader", name := "heldThing", desc := "(I)V" } : Jvm.MethodName)) ∈ wA := wA_of 770 rfl rfl
set_option maxRecDepth 100000 in
theorem wd_772 : (Jvm.Cond.instanceMethod ({ cls := "LateFalls$Reader", name := "heldThing", desc := "(I)V" } : Jvm.MethodName)) ∈ wA := wA_of 772 rfl rfl
set_option maxRecDepth 100000 in
theorem wd_773 : (Jvm.Cond.code ({ cls := "LateFalls$Reader", name := "heldThing", desc := "(I)V" } : Jvm.MethodName) prog_7_method_9_code (2 : Nat) (Option.none : Option Jvm.ClassFile.FieldType)) ∈ wA := wA_of 773 rfl rfl
set_option maxRecDepth 100000 in
theorem wd_774 : (Jvm.Cond.methodLink "LateFalls$Reader" (120 : Nat) ({ cls := "LateFalls$Reader", name := "hangingThing", desc := "(I)V" } : Jvm.MethodName)) ∈ wA := wA_of 774 rfl rfl
set_option maxRecDepth 100000 in
theorem wd_776 : (Jvm.Cond.instanceMethod ({ cls := "LateFalls$Reader", name := "hangingThing", desc := "(I)V" } : Jvm.MethodName)) ∈ wA := wA_of 776 rfl rfl
set_option maxRecDepth 100000 in
theorem wd_777 : (Jvm.Cond.code ({ cls := "LateFalls$Reader", name := "hangingThing", desc := "(I)V" } : Jvm.MethodName) prog_7_method_10_code (4 : Nat) (Option.none : Option Jvm.ClassFile.FieldType)) ∈ wA := wA_of 777 rfl rfl
set_option maxRecDepth 100000 in
theorem wd_778 : (Jvm.Cond.methodLink "LateFalls$Reader" (132 : Nat) ({ cls := "LateFalls$Scene", name := "isFree", desc := "(II)Z" } : Jvm.MethodName)) ∈ wA := wA_of 778 rfl rfl
set_option maxRecDepth 100000 in
theorem wd_779 : (Jvm.Cond.methodLink "LateFalls$Reader" (123 : Nat) ({ cls := "LateFalls$Reader", name := "lyingThing", desc := "(I)V" } : Jvm.MethodName)) ∈ wA := wA_of 779 rfl rfl
set_option maxRecDepth 100000 in
theorem wd_781 : (Jvm.Cond.instanceMethod ({ cls := "LateFalls$Reader", name := "lyingThing", desc := "(I)V" } : Jvm.MethodName)) ∈ wA := wA_of 781 rfl rfl
set_option maxRecDepth 100000 in
theorem wd_782 : (Jvm.Cond.code ({ cls := "LateFalls$Reader", name := "lyingThing", desc := "(I)V" } : Jvm.MethodName) prog_7_method_11_code (4 : Nat) (Option.none : Option Jvm.ClassFile.FieldType)) ∈ wA := wA_of 782 rfl rfl
set_option maxRecDepth 100000 in
theorem wd_783 : (Jvm.Cond.methodLink "LateFalls$Reader" (142 : Nat) ({ cls := "LateFalls$Scene", name := "lying", desc := "(I)I" } : Jvm.MethodName)) ∈ wA := wA_of 783 rfl rfl
set_option maxRecDepth 100000 in
theorem wd_784 : (Jvm.Cond.methodLink "LateFalls$Reader" (146 : Nat) ({ cls := "LateFalls$Scene", name := "thingAt", desc := "(II)I" } : Jvm.MethodName)) ∈ wA := wA_of 784 rfl rfl
set_option maxRecDepth 100000 in
theorem wd_785 : (Jvm.Cond.methodLink "LateFalls$Reader" (61 : Nat) ({ cls := "LateFalls$Reader", name := "walkerLine", desc := "()V" } : Jvm.MethodName)) ∈ wA := wA_of 785 rfl rfl
set_option maxRecDepth 100000 in
theorem wd_787 : (Jvm.Cond.instanceMethod ({ cls := "LateFalls$Reader", name := "walkerLine", desc := "()V" } : Jvm.MethodName)) ∈ wA := wA_of 787 rfl rfl
set_option maxRecDepth 100000 in
theorem wd_788 : (Jvm.Cond.code ({ cls := "LateFalls$Reader", name := "walkerLine", desc := "()V" } : Jvm.MethodName) prog_7_method_12_code (3 : Nat) (Option.none : Option Jvm.ClassFile.FieldType)) ∈ wA := wA_of 788 rfl rfl
set_option maxRecDepth 100000 in
theorem wd_789 : (Jvm.Cond.methodLink "LateFalls$Reader" (64 : Nat) ({ cls := "LateFalls$Reader", name := "hangsLine", desc := "()V" } : Jvm.MethodName)) ∈ wA := wA_of 789 rfl rfl
set_option maxRecDepth 100000 in
theorem wd_791 : (Jvm.Cond.instanceMethod ({ cls := "LateFalls$Reader", name := "hangsLine", desc := "()V" } : Jvm.MethodName)) ∈ wA := wA_of 791 rfl rfl
set_option maxRecDepth 100000 in
theorem wd_792 : (Jvm.Cond.code ({ cls := "LateFalls$Reader", name := "hangsLine", desc := "()V" } : Jvm.MethodName) prog_7_method_13_code (1 : Nat) (Option.none : Option Jvm.ClassFile.FieldType)) ∈ wA := wA_of 792 rfl rfl
set_option maxRecDepth 100000 in
theorem wd_793 : (Jvm.Cond.methodLink "LateFalls$Reader" (165 : Nat) ({ cls := "LateFalls$Reader", name := "sum", desc := "(I)V" } : Jvm.MethodName)) ∈ wA := wA_of 793 rfl rfl
set_option maxRecDepth 100000 in
theorem wd_795 : (Jvm.Cond.instanceMethod ({ cls := "LateFalls$Reader", name := "sum", desc := "(I)V" } : Jvm.MethodName)) ∈ wA := wA_of 795 rfl rfl
set_option maxRecDepth 100000 in
theorem wd_796 : (Jvm.Cond.code ({ cls := "LateFalls$Reader", name := "sum", desc := "(I)V" } : Jvm.MethodName) prog_7_method_20_code (6 : Nat) (Option.none : Option Jvm.ClassFile.FieldType)) ∈ wA := wA_of 796 rfl rfl
set_option maxRecDepth 100000 in
theorem wd_797 : (Jvm.Cond.methodLink "LateFalls$Reader" (196 : Nat) ({ cls := "LateFalls$Reader", name := "atom", desc := "(I)V" } : Jvm.MethodName)) ∈ wA := wA_of 797 rfl rfl
set_option maxRecDepth 100000 in
theorem wd_799 : (Jvm.Cond.instanceMethod ({ cls := "LateFalls$Reader", name := "atom", desc := "(I)V" } : Jvm.MethodName)) ∈ wA := wA_of 799 rfl rfl
set_option maxRecDepth 100000 in
theorem wd_800 : (Jvm.Cond.code ({ cls := "LateFalls$Reader", name := "atom", desc := "(I)V" } : Jvm.MethodName) prog_7_method_21_code (3 : Nat) (Option.none : Option Jvm.ClassFile.FieldType)) ∈ wA := wA_of 800 rfl rfl
set_option maxRecDepth 100000 in
theorem wd_801 : (Jvm.Cond.methodLink "LateFalls$Reader" (189 : Nat) ({ cls := "LateFalls$Reader", name := "isTooDeep", desc := "(I)Z" } : Jvm.MethodName)) ∈ wA := wA_of 801 rfl rfl
set_option maxRecDepth 100000 in
theorem wd_803 : (Jvm.Cond.instanceMethod ({ cls := "LateFalls$Reader", name := "isTooDeep", desc := "(I)Z" } : Jvm.MethodName)) ∈ wA := wA_of 803 rfl rfl
set_option maxRecDepth 100000 in
theorem wd_804 : (Jvm.Cond.code ({ cls := "LateFalls$Reader", name := "isTooDeep", desc := "(I)Z" } : Jvm.MethodName) prog_7_method_16_code (2 : Nat) (Option.some Jvm.ClassFile.FieldType.boolean)) ∈ wA := wA_of 804 rfl rfl
set_option maxRecDepth 100000 in
theorem wd_805 : (Jvm.Cond.methodLink "LateFalls$Reader" (199 : Nat) ({ cls := "LateFalls$Reader", name := "given", desc := "(I)I" } : Jvm.MethodName)) ∈ wA := wA_of 805 rfl rfl
set_option maxRecDepth 100000 in
theorem wd_807 : (Jvm.Cond.instanceMethod ({ cls := "LateFalls$Reader", name := "given", desc := "(I)I" } : Jvm.MethodName)) ∈ wA := wA_of 807 rfl rfl
set_option maxRecDepth 100000 in
theorem wd_808 : (Jvm.Cond.code ({ cls := "LateFalls$Reader", name := "given", desc := "(I)I" } : Jvm.MethodName) prog_7_method_22_code (2 : Nat) (Option.some Jvm.ClassFile.FieldType.int)) ∈ wA := wA_of 808 rfl rfl
set_option maxRecDepth 100000 in
theorem wd_809 : (Jvm.Cond.methodLink "LateFalls$Reader" (186 : Nat) ({ cls := "LateFalls$Reader", name := "emit", desc := "(I)V" } : Jvm.MethodName)) ∈ wA := wA_of 809 rfl rfl
set_option maxRecDepth 100000 in
theorem wd_811 : (Jvm.Cond.instanceMethod ({ cls := "LateFalls$Reader", name := "emit", desc := "(I)V" } : Jvm.MethodName)) ∈ wA := wA_of 811 rfl rfl
set_option maxRecDepth 100000 in
theorem wd_812 : (Jvm.Cond.code ({ cls := "LateFalls$Reader", name := "emit", desc := "(I)V" } : Jvm.MethodName) prog_7_method_15_code (2 : Nat) (Option.none : Option Jvm.ClassFile.FieldType)) ∈ wA := wA_of 812 rfl rfl
set_option maxRecDepth 100000 in
theorem wd_813 : (Jvm.Cond.classLink "LateFalls$Reader" (168 : Nat) "LateFalls$Law") ∈ wA := wA_of 813 rfl rfl
set_option maxRecDepth 100000 in
theorem wd_814 : (Jvm.Cond.instantiable "LateFalls$Law" (3 : Nat)) ∈ wA := wA_of 814 rfl rfl
set_option maxRecDepth 100000 in
theorem wd_815 : (Jvm.Cond.methodLink "LateFalls$Reader" (170 : Nat) ({ cls := "LateFalls$Law", name := "<init>", desc := "([II)V" } : Jvm.MethodName)) ∈ wA := wA_of 815 rfl rfl
set_option maxRecDepth 100000 in
theorem wd_816 : (Jvm.Cond.instanceMethod ({ cls := "LateFalls$Law", name := "<init>", desc := "([II)V" } : Jvm.MethodName)) ∈ wA := wA_of 816 rfl rfl
set_option maxRecDepth 100000 in
theorem wd_817 : (Jvm.Cond.code ({ cls := "LateFalls$Law", name := "<init>", desc := "([II)V" } : Jvm.MethodName) prog_6_method_1_code (3 : Nat) (Option.none : Option Jvm.ClassFile.FieldType)) ∈ wA := wA_of 817 rfl rfl
set_option maxRecDepth 100000 in
theorem wd_818 : (Jvm.Cond.methodLink "LateFalls$Law" (1 : Nat) ({ cls := "java/lang/Object", name := "<init>", desc := "()V" } : Jvm.MethodName)) ∈ wA := wA_of 818 rfl rfl
set_option maxRecDepth 100000 in
theorem wd_819 : (Jvm.Cond.methodLink "LateFalls$Law" (22 : Nat) ({ cls := "java/lang/Math", name := "max", desc := "(II)I" } : Jvm.MethodName)) ∈ wA := wA_of 819 rfl rfl
set_option maxRecDepth 100000 in
theorem wd_820 : (Jvm.Cond.methodLink "LateFalls$Law" (28 : Nat) ({ cls := "java/lang/System", name := "arraycopy", desc := "(Ljava/lang/Object;ILjava/lang/Object;II)V" } : Jvm.MethodName)) ∈ wA := wA_of 820 rfl rfl
set_option maxRecDepth 100000 in
theorem wd_821 : (Jvm.Cond.fieldLink "LateFalls$Law" (25 : Nat) "LateFalls$Law" "steps" "[I") ∈ wA := wA_of 821 rfl rfl
set_option maxRecDepth 100000 in
theorem wd_822 : (Jvm.Cond.fieldLink "LateFalls$Law" (9 : Nat) "LateFalls$Law" "given" "[I") ∈ wA := wA_of 822 rfl rfl
set_option maxRecDepth 100000 in
theorem wd_823 : (Jvm.Cond.fieldLink "LateFalls$District" (44 : Nat) "LateFalls$Law" "given" "[I") ∈ wA := wA_of 823 rfl rfl
set_option maxRecDepth 100000 in
theorem wd_824 : (Jvm.Cond.fieldLink "LateFalls$Scene" (118 : Nat) "LateFalls$Law" "given" "[I") ∈ wA := wA_of 824 rfl rfl
set_option maxRecDepth 100000 in
theorem wd_825 : (Jvm.Cond.fieldLink "LateFalls$Law" (13 : Nat) "LateFalls$Law" "stack" "[I") ∈ wA := wA_of 825 rfl rfl
set_option maxRecDepth 100000 in
theorem wd_826 : (Jvm.Cond.laysFinal "LateFalls$Law" "LateFalls$Law" "steps" "[I") ∈ wA := wA_of 826 rfl rfl
set_option maxRecDepth 100000 in
theorem wd_828 : (Jvm.Cond.laysFinal "LateFalls$Law" "LateFalls$Law" "given" "[I") ∈ wA := wA_of 828 rfl rfl
set_option maxRecDepth 100000 in
theorem wd_830 : (Jvm.Cond.laysFinal "LateFalls$Law" "LateFalls$Law" "stack" "[I") ∈ wA := wA_of 830 rfl rfl
set_option maxRecDepth 100000 in
theorem wd_833 : (Jvm.Cond.methodLink "LateFalls$Reader" (67 : Nat) ({ cls := "LateFalls$Reader", name := "freesLine", desc := "()V" } : Jvm.MethodName)) ∈ wA := wA_of 833 rfl rfl
set_option maxRecDepth 100000 in
theorem wd_835 : (Jvm.Cond.instanceMethod ({ cls := "LateFalls$Reader", name := "freesLine", desc := "()V" } : Jvm.MethodName)) ∈ wA := wA_of 835 rfl rfl
set_option maxRecDepth 100000 in
theorem wd_836 : (Jvm.Cond.code ({ cls := "LateFalls$Reader", name := "freesLine", desc := "()V" } : Jvm.MethodName) prog_7_method_14_code (1 : Nat) (Option.none : Option Jvm.ClassFile.FieldType)) ∈ wA := wA_of 836 rfl rfl
set_option maxRecDepth 100000 in
theorem wd_837 : (Jvm.Cond.methodLink "LateFalls$Reader" (177 : Nat) ({ cls := "LateFalls$Reader", name := "truth", desc := "(I)V" } : Jvm.MethodName)) ∈ wA := wA_of 837 rfl rfl
set_option maxRecDepth 100000 in
theorem wd_839 : (Jvm.Cond.instanceMethod ({ cls := "LateFalls$Reader", name := "truth", desc := "(I)V" } : Jvm.MethodName)) ∈ wA := wA_of 839 rfl rfl
set_option maxRecDepth 100000 in
theorem wd_840 : (Jvm.Cond.code ({ cls := "LateFalls$Reader", name := "truth", desc := "(I)V" } : Jvm.MethodName) prog_7_method_17_code (5 : Nat) (Option.none : Option Jvm.ClassFile.FieldType)) ∈ wA := wA_of 840 rfl rfl
set_option maxRecDepth 100000 in
theorem wd_841 : (Jvm.Cond.methodLink "LateFalls$Reader" (183 : Nat) ({ cls := "LateFalls$Reader", name := "unit", desc := "(I)V" } : Jvm.MethodName)) ∈ wA := wA_of 841 rfl rfl
set_option maxRecDepth 100000 in
theorem wd_843 : (Jvm.Cond.instanceMethod ({ cls := "LateFalls$Reader", name := "unit", desc := "(I)V" } : Jvm.MethodName)) ∈ wA := wA_of 843 rfl rfl
set_option maxRecDepth 100000 in
theorem wd_844 : (Jvm.Cond.code ({ cls := "LateFalls$Reader", name := "unit", desc := "(I)V" } : Jvm.MethodName) prog_7_method_18_code (3 : Nat) (Option.none : Option Jvm.ClassFile.FieldType)) ∈ wA := wA_of 844 rfl rfl
set_option maxRecDepth 100000 in
theorem wd_845 : (Jvm.Cond.methodLink "LateFalls$Reader" (193 : Nat) ({ cls := "LateFalls$Reader", name := "comparison", desc := "(I)I" } : Jvm.MethodName)) ∈ wA := wA_of 845 rfl rfl
set_option maxRecDepth 100000 in
theorem wd_846 : (Jvm.Cond.static ({ cls := "LateFalls$Reader", name := "comparison", desc := "(I)I" } : Jvm.MethodName)) ∈ wA := wA_of 846 rfl rfl
set_option maxRecDepth 100000 in
theorem wd_847 : (Jvm.Cond.code ({ cls := "LateFalls$Reader", name := "comparison", desc := "(I)I" } : Jvm.MethodName) prog_7_method_19_code (1 : Nat) (Option.some Jvm.ClassFile.FieldType.int)) ∈ wA := wA_of 847 rfl rfl
set_option maxRecDepth 100000 in
theorem wd_848 : (Jvm.Cond.methodLink "LateFalls$Reader" (87 : Nat) ({ cls := "LateFalls$Reader", name := "countFromHour", desc := "()V" } : Jvm.MethodName)) ∈ wA := wA_of 848 rfl rfl
set_option maxRecDepth 100000 in
theorem wd_850 : (Jvm.Cond.instanceMethod ({ cls := "LateFalls$Reader", name := "countFromHour", desc := "()V" } : Jvm.MethodName)) ∈ wA := wA_of 850 rfl rfl
set_option maxRecDepth 100000 in
theorem wd_851 : (Jvm.Cond.code ({ cls := "LateFalls$Reader", name := "countFromHour", desc := "()V" } : Jvm.MethodName) prog_7_method_23_code (2 : Nat) (Option.none : Option Jvm.ClassFile.FieldType)) ∈ wA := wA_of 851 rfl rfl
set_option maxRecDepth 100000 in
theorem wd_852 : (Jvm.Cond.methodLink "LateFalls" (106 : Nat) ({ cls := "LateFalls$Scene", name := "copyFrom", desc := "(LLateFalls$Scene;)V" } : Jvm.MethodName)) ∈ wA := wA_of 852 rfl rfl
set_option maxRecDepth 100000 in
theorem wd_853 : (Jvm.Cond.methodLink "LateFalls" (110 : Nat) ({ cls := "LateFalls$History", name := "forget", desc := "()V" } : Jvm.MethodName)) ∈ wA := wA_of 853 rfl rfl
set_option maxRecDepth 100000 in
theorem wd_854 : (Jvm.Cond.instanceMethod ({ cls := "LateFalls$History", name := "forget", desc := "()V" } : Jvm.MethodName)) ∈ wA := wA_of 854 rfl rfl
set_option maxRecDepth 100000 in
theorem wd_855 : (Jvm.Cond.selects "LateFalls$History" ({ cls := "LateFalls$History", name := "forget", desc := "()V" } : Jvm.MethodName) ({ cls := "LateFalls$History", name := "forget", desc := "()V" } : Jvm.MethodName)) ∈ wA := wA_of 855 rfl rfl
set_option maxRecDepth 100000 in
theorem wd_856 : (Jvm.Cond.code ({ cls := "LateFalls$History", name := "forget", desc := "()V" } : Jvm.MethodName) prog_4_method_2_code (1 : Nat) (Option.none : Option Jvm.ClassFile.FieldType)) ∈ wA := wA_of 856 rfl rfl
set_option maxRecDepth 100000 in
theorem wd_857 : (Jvm.Cond.methodLink "LateFallsLaw" (160 : Nat) ({ cls := "LateFallsLaw", name := "thing", desc := "(LLateFalls;II[J)I" } : Jvm.MethodName)) ∈ wA := wA_of 857 rfl rfl
set_option maxRecDepth 100000 in
theorem wd_858 : (Jvm.Cond.static ({ cls := "LateFallsLaw", name := "thing", desc := "(LLateFalls;II[J)I" } : Jvm.MethodName)) ∈ wA := wA_of 858 rfl rfl
set_option maxRecDepth 100000 in
theorem wd_859 : (Jvm.Cond.codeWith ({ cls := "LateFallsLaw", name := "thing", desc := "(LLateFalls;II[J)I" } : Jvm.MethodName) method_4_code (5 : Nat) (Option.some Jvm.ClassFile.FieldType.int) [((0 : Nat), (10 : Nat), (13 : Nat), (19 : Nat)), ((0 : Nat), (10 : Nat), (17 : Nat), (13 : Nat))]) ∈ wA := wA_of 859 rfl rfl
set_option maxRecDepth 100000 in
theorem wd_860 : (Jvm.Cond.classLink "LateFallsLaw" (19 : Nat) "java/util/NoSuchElementException") ∈ wA := wA_of 860 rfl rfl
set_option maxRecDepth 100000 in
theorem wd_861 : (Jvm.Cond.methodLink "LateFallsLaw" (15 : Nat) ({ cls := "LateFalls", name := "thing", desc := "(II)I" } : Jvm.MethodName)) ∈ wA := wA_of 861 rfl rfl
set_option maxRecDepth 100000 in
theorem wd_862 : (Jvm.Cond.instanceMethod ({ cls := "LateFalls", name := "thing", desc := "(II)I" } : Jvm.MethodName)) ∈ wA := wA_of 862 rfl rfl
set_option maxRecDepth 100000 in
theorem wd_863 : (Jvm.Cond.selects "LateFalls" ({ cls := "LateFalls", name := "thing", desc := "(II)I" } : Jvm.MethodName) ({ cls := "LateFalls", name := "thing", desc := "(II)I" } : Jvm.MethodName)) ∈ wA := wA_of 863 rfl rfl
set_option maxRecDepth 100000 in
theorem wd_864 : (Jvm.Cond.code ({ cls := "LateFalls", name := "thing", desc := "(II)I" } : Jvm.MethodName) prog_1_method_6_code (4 : Nat) (Option.some Jvm.ClassFile.FieldType.int)) ∈ wA := wA_of 864 rfl rfl
set_option maxRecDepth 100000 in
theorem wd_865 : (Jvm.Cond.methodLink "LateFalls" (120 : Nat) ({ cls := "LateFalls", name := "needThing", desc := "(I)V" } : Jvm.MethodName)) ∈ wA := wA_of 865 rfl rfl
set_option maxRecDepth 100000 in
theorem wd_867 : (Jvm.Cond.instanceMethod ({ cls := "LateFalls", name := "needThing", desc := "(I)V" } : Jvm.MethodName)) ∈ wA := wA_of 867 rfl rfl
set_option maxRecDepth 100000 in
theorem wd_868 : (Jvm.Cond.code ({ cls := "LateFalls", name := "needThing", desc := "(I)V" } : Jvm.MethodName) prog_1_method_11_code (2 : Nat) (Option.none : Option Jvm.ClassFile.FieldType)) ∈ wA := wA_of 868 rfl rfl
set_option maxRecDepth 100000 in
theorem wd_869 : (Jvm.Cond.classLink "LateFalls" (181 : Nat) "java/util/NoSuchElementException") ∈ wA := wA_of 869 rfl rfl
set_option maxRecDepth 100000 in
theorem wd_870 : (Jvm.Cond.instantiable "java/util/NoSuchElementException" (6 : Nat)) ∈ wA := wA_of 870 rfl rfl
set_option maxRecDepth 100000 in
theorem wd_872 : (Jvm.Cond.selects "java/util/NoSuchElementException" ({ cls := "java/lang/Throwable", name := "fillInStackTrace", desc := "(I)Ljava/lang/Throwable;" } : Jvm.MethodName) ({ cls := "java/lang/Throwable", name := "fillInStackTrace", desc := "(I)Ljava/lang/Throwable;" } : Jvm.MethodName)) ∈ wA := wA_of 872 rfl rfl
set_option maxRecDepth 100000 in
theorem wd_873 : (Jvm.Cond.lays "java/util/NoSuchElementException" "java/lang/Throwable" "cause" "Ljava/lang/Throwable;") ∈ wA := wA_of 873 rfl rfl
set_option maxRecDepth 100000 in
theorem wd_874 : (Jvm.Cond.lays "java/util/NoSuchElementException" "java/lang/Throwable" "stackTrace" "[Ljava/lang/StackTraceElement;") ∈ wA := wA_of 874 rfl rfl
set_option maxRecDepth 100000 in
theorem wd_875 : (Jvm.Cond.lays "java/util/NoSuchElementException" "java/lang/Throwable" "suppressedExceptions" "Ljava/util/List;") ∈ wA := wA_of 875 rfl rfl
set_option maxRecDepth 100000 in
theorem wd_876 : (Jvm.Cond.lays "java/util/NoSuchElementException" "java/lang/Throwable" "detailMessage" "Ljava/lang/String;") ∈ wA := wA_of 876 rfl rfl
set_option maxRecDepth 100000 in
theorem wd_877 : (Jvm.Cond.lays "java/util/NoSuchElementException" "java/lang/Throwable" "backtrace" "Ljava/lang/Object;") ∈ wA := wA_of 877 rfl rfl
set_option maxRecDepth 100000 in
theorem wd_879 : (Jvm.Cond.methodLink "LateFalls" (185 : Nat) ({ cls := "java/util/NoSuchElementException", name := "<init>", desc := "(Ljava/lang/String;)V" } : Jvm.MethodName)) ∈ wA := wA_of 879 rfl rfl
set_option maxRecDepth 100000 in
theorem wd_880 : (Jvm.Cond.instanceMethod ({ cls := "java/util/NoSuchElementException", name := "<init>", desc := "(Ljava/lang/String;)V" } : Jvm.MethodName)) ∈ wA := wA_of 880 rfl rfl
set_option maxRecDepth 100000 in
theorem wd_881 : (Jvm.Cond.code ({ cls := "java/util/NoSuchElementException", name := "<init>", desc := "(Ljava/lang/String;)V" } : Jvm.MethodName) prog_32_method_4_code (2 : Nat) (Option.none : Option Jvm.ClassFile.FieldType)) ∈ wA := wA_of 881 rfl rfl
set_option maxRecDepth 100000 in
theorem wd_882 : (Jvm.Cond.methodLink "java/util/NoSuchElementException" (13 : Nat) ({ cls := "java/lang/RuntimeException", name := "<init>", desc := "(Ljava/lang/String;)V" } : Jvm.MethodName)) ∈ wA := wA_of 882 rfl rfl
set_option maxRecDepth 100000 in
theorem wd_883 : (Jvm.Cond.lays "java/util/NoSuchElementException" "java/lang/Throwable" "depth" "I") ∈ wA := wA_of 883 rfl rfl
set_option maxRecDepth 100000 in
theorem wd_886 : (Jvm.Cond.methodLink "LateFallsLaw" (164 : Nat) ({ cls := "LateFallsLaw", name := "walker", desc := "(LLateFalls;II[J)I" } : Jvm.MethodName)) ∈ wA := wA_of 886 rfl rfl
set_option maxRecDepth 100000 in
theorem wd_887 : (Jvm.Cond.static ({ cls := "LateFallsLaw", name := "walker", desc := "(LLateFalls;II[J)I" } : Jvm.MethodName)) ∈ wA := wA_of 887 rfl rfl
set_option maxRecDepth 100000 in
theorem wd_888 : (Jvm.Cond.codeWith ({ cls := "LateFallsLaw", name := "walker", desc := "(LLateFalls;II[J)I" } : Jvm.MethodName) method_5_code (5 : Nat) (Option.some Jvm.ClassFile.FieldType.int) [((0 : Nat), (10 : Nat), (13 : Nat), (19 : Nat)), ((0 : Nat), (10 : Nat), (17 : Nat), (13 : Nat))]) ∈ wA := wA_of 888 rfl rfl
set_option maxRecDepth 100000 in
theorem wd_889 : (Jvm.Cond.methodLink "LateFallsLaw" (21 : Nat) ({ cls := "LateFalls", name := "walker", desc := "(II)I" } : Jvm.MethodName)) ∈ wA := wA_of 889 rfl rfl
set_option maxRecDepth 100000 in
theorem wd_890 : (Jvm.Cond.instanceMethod ({ cls := "LateFalls", name := "walker", desc := "(II)I" } : Jvm.MethodName)) ∈ wA := wA_of 890 rfl rfl
set_option maxRecDepth 100000 in
theorem wd_891 : (Jvm.Cond.selects "LateFalls" ({ cls := "LateFalls", name := "walker", desc := "(II)I" } : Jvm.MethodName) ({ cls := "LateFalls", name := "walker", desc := "(II)I" } : Jvm.MethodName)) ∈ wA := wA_of 891 rfl rfl
set_option maxRecDepth 100000 in
theorem wd_892 : (Jvm.Cond.code ({ cls := "LateFalls", name := "walker", desc := "(II)I" } : Jvm.MethodName) prog_1_method_7_code (3 : Nat) (Option.some Jvm.ClassFile.FieldType.int)) ∈ wA := wA_of 892 rfl rfl
set_option maxRecDepth 100000 in
theorem wd_893 : (Jvm.Cond.methodLink "LateFalls" (143 : Nat) ({ cls := "LateFalls", name := "needWalker", desc := "(I)V" } : Jvm.MethodName)) ∈ wA := wA_of 893 rfl rfl
set_option maxRecDepth 100000 in
theorem wd_895 : (Jvm.Cond.instanceMethod ({ cls := "LateFalls", name := "needWalker", desc := "(I)V" } : Jvm.MethodName)) ∈ wA := wA_of 895 rfl rfl
set_option maxRecDepth 100000 in
theorem wd_896 : (Jvm.Cond.code ({ cls := "LateFalls", name := "needWalker", desc := "(I)V" } : Jvm.MethodName) prog_1_method_12_code (2 : Nat) (Option.none : Option Jvm.ClassFile.FieldType)) ∈ wA := wA_of 896 rfl rfl
set_option maxRecDepth 100000 in
theorem wd_898 : (Jvm.Cond.methodLink "LateFalls" (146 : Nat) ({ cls := "LateFalls$District", name := "walkerColumn", desc := "(II)I" } : Jvm.MethodName)) ∈ wA := wA_of 898 rfl rfl
set_option maxRecDepth 100000 in
theorem wd_899 : (Jvm.Cond.methodLink "LateFallsLaw" (167 : Nat) ({ cls := "LateFallsLaw", name := "height", desc := "(LLateFalls;I[J)I" } : Jvm.MethodName)) ∈ wA := wA_of 899 rfl rfl
set_option maxRecDepth 100000 in
theorem wd_900 : (Jvm.Cond.static ({ cls := "LateFallsLaw", name := "height", desc := "(LLateFalls;I[J)I" } : Jvm.MethodName)) ∈ wA := wA_of 900 rfl rfl
set_option maxRecDepth 100000 in
theorem wd_901 : (Jvm.Cond.codeWith ({ cls := "LateFallsLaw", name := "height", desc := "(LLateFalls;I[J)I" } : Jvm.MethodName) method_6_code (4 : Nat) (Option.some Jvm.ClassFile.FieldType.int) [((0 : Nat), (9 : Nat), (12 : Nat), (19 : Nat))]) ∈ wA := wA_of 901 rfl rfl
set_option maxRecDepth 100000 in
theorem wd_902 : (Jvm.Cond.methodLink "LateFallsLaw" (24 : Nat) ({ cls := "LateFalls", name := "height", desc := "(I)I" } : Jvm.MethodName)) ∈ wA := wA_of 902 rfl rfl
set_option maxRecDepth 100000 in
theorem wd_903 : (Jvm.Cond.instanceMethod ({ cls := "LateFalls", name := "height", desc := "(I)I" } : Jvm.MethodName)) ∈ wA := wA_of 903 rfl rfl
set_option maxRecDepth 100000 in
theorem wd_904 : (Jvm.Cond.selects "LateFalls" ({ cls := "LateFalls", name := "height", desc := "(I)I" } : Jvm.MethodName) ({ cls := "LateFalls", name := "height", desc := "(I)I" } : Jvm.MethodName)) ∈ wA := wA_of 904 rfl rfl
set_option maxRecDepth 100000 in
theorem wd_905 : (Jvm.Cond.code ({ cls := "LateFalls", name := "height", desc := "(I)I" } : Jvm.MethodName) prog_1_method_8_code (2 : Nat) (Option.some Jvm.ClassFile.FieldType.int)) ∈ wA := wA_of 905 rfl rfl
set_option maxRecDepth 100000 in
theorem wd_906 : (Jvm.Cond.methodLink "LateFalls" (156 : Nat) ({ cls := "LateFalls", name := "needColumn", desc := "(I)V" } : Jvm.MethodName)) ∈ wA := wA_of 906 rfl rfl
set_option maxRecDepth 100000 in
theorem wd_908 : (Jvm.Cond.instanceMethod ({ cls := "LateFalls", name := "needColumn", desc := "(I)V" } : Jvm.MethodName)) ∈ wA := wA_of 908 rfl rfl
set_option maxRecDepth 100000 in
theorem wd_909 : (Jvm.Cond.code ({ cls := "LateFalls", name := "needColumn", desc := "(I)V" } : Jvm.MethodName) prog_1_method_13_code (2 : Nat) (Option.none : Option Jvm.ClassFile.FieldType)) ∈ wA := wA_of 909 rfl rfl
set_option maxRecDepth 100000 in
theorem wd_911 : (Jvm.Cond.methodLink "LateFalls" (159 : Nat) ({ cls := "LateFalls$Scene", name := "lying", desc := "(I)I" } : Jvm.MethodName)) ∈ wA := wA_of 911 rfl rfl
set_option maxRecDepth 100000 in
theorem wd_912 : (Jvm.Cond.methodLink "LateFallsLaw" (170 : Nat) ({ cls := "LateFallsLaw", name := "at", desc := "(LLateFalls;II[J)I" } : Jvm.MethodName)) ∈ wA := wA_of 912 rfl rfl
set_option maxRecDepth 100000 in
theorem wd_913 : (Jvm.Cond.static ({ cls := "LateFallsLaw", name := "at", desc := "(LLateFalls;II[J)I" } : Jvm.MethodName)) ∈ wA := wA_of 913 rfl rfl
set_option maxRecDepth 100000 in
theorem wd_914 : (Jvm.Cond.codeWith ({ cls := "LateFallsLaw", name := "at", desc := "(LLateFalls;II[J)I" } : Jvm.MethodName) method_7_code (5 : Nat) (Option.some Jvm.ClassFile.FieldType.int) [((0 : Nat), (10 : Nat), (13 : Nat), (19 : Nat))]) ∈ wA := wA_of 914 rfl rfl
set_option maxRecDepth 100000 in
theorem wd_915 : (Jvm.Cond.methodLink "LateFallsLaw" (27 : Nat) ({ cls := "LateFalls", name := "at", desc := "(II)I" } : Jvm.MethodName)) ∈ wA := wA_of 915 rfl rfl
set_option maxRecDepth 100000 in
theorem wd_916 : (Jvm.Cond.instanceMethod ({ cls := "LateFalls", name := "at", desc := "(II)I" } : Jvm.MethodName)) ∈ wA := wA_of 916 rfl rfl
set_option maxRecDepth 100000 in
theorem wd_917 : (Jvm.Cond.selects "LateFalls" ({ cls := "LateFalls", name := "at", desc := "(II)I" } : Jvm.MethodName) ({ cls := "LateFalls", name := "at", desc := "(II)I" } : Jvm.MethodName)) ∈ wA := wA_of 917 rfl rfl
set_option maxRecDepth 100000 in
theorem wd_918 : (Jvm.Cond.code ({ cls := "LateFalls", name := "at", desc := "(II)I" } : Jvm.MethodName) prog_1_method_9_code (3 : Nat) (Option.some Jvm.ClassFile.FieldType.int)) ∈ wA := wA_of 918 rfl rfl
set_option maxRecDepth 100000 in
theorem wd_919 : (Jvm.Cond.methodLink "LateFalls" (163 : Nat) ({ cls := "LateFalls", name := "needPlace", desc := "(II)V" } : Jvm.MethodName)) ∈ wA := wA_of 919 rfl rfl
set_option maxRecDepth 100000 in
theorem wd_921 : (Jvm.Cond.instanceMethod ({ cls := "LateFalls", name := "needPlace", desc := "(II)V" } : Jvm.MethodName)) ∈ wA := wA_of 921 rfl rfl
set_option maxRecDepth 100000 in
theorem wd_922 : (Jvm.Cond.code ({ cls := "LateFalls", name := "needPlace", desc := "(II)V" } : Jvm.MethodName) prog_1_method_14_code (3 : Nat) (Option.none : Option Jvm.ClassFile.FieldType)) ∈ wA := wA_of 922 rfl rfl
set_option maxRecDepth 100000 in
theorem wd_923 : (Jvm.Cond.methodLink "LateFalls" (196 : Nat) ({ cls := "LateFalls$District", name := "hasPlace", desc := "(II)Z" } : Jvm.MethodName)) ∈ wA := wA_of 923 rfl rfl
set_option maxRecDepth 100000 in
theorem wd_925 : (Jvm.Cond.methodLink "LateFalls" (167 : Nat) ({ cls := "LateFalls$Scene", name := "thingAt", desc := "(II)I" } : Jvm.MethodName)) ∈ wA := wA_of 925 rfl rfl
set_option maxRecDepth 100000 in
theorem wd_926 : (Jvm.Cond.methodLink "LateFallsLaw" (173 : Nat) ({ cls := "LateFallsLaw", name := "hanging", desc := "(LLateFalls;IIII[J)I" } : Jvm.MethodName)) ∈ wA := wA_of 926 rfl rfl
set_option maxRecDepth 100000 in
theorem wd_927 : (Jvm.Cond.static ({ cls := "LateFallsLaw", name := "hanging", desc := "(LLateFalls;IIII[J)I" } : Jvm.MethodName)) ∈ wA := wA_of 927 rfl rfl
set_option maxRecDepth 100000 in
theorem wd_928 : (Jvm.Cond.codeWith ({ cls := "LateFallsLaw", name := "hanging", desc := "(LLateFalls;IIII[J)I" } : Jvm.MethodName) method_8_code (7 : Nat) (Option.some Jvm.ClassFile.FieldType.int) [((0 : Nat), (14 : Nat), (17 : Nat), (19 : Nat)), ((0 : Nat), (14 : Nat), (21 : Nat), (13 : Nat))]) ∈ wA := wA_of 928 rfl rfl
set_option maxRecDepth 100000 in
theorem wd_929 : (Jvm.Cond.methodLink "LateFallsLaw" (30 : Nat) ({ cls := "LateFalls", name := "hanging", desc := "(IIII)I" } : Jvm.MethodName)) ∈ wA := wA_of 929 rfl rfl
set_option maxRecDepth 100000 in
theorem wd_930 : (Jvm.Cond.instanceMethod ({ cls := "LateFalls", name := "hanging", desc := "(IIII)I" } : Jvm.MethodName)) ∈ wA := wA_of 930 rfl rfl
set_option maxRecDepth 100000 in
theorem wd_931 : (Jvm.Cond.selects "LateFalls" ({ cls := "LateFalls", name := "hanging", desc := "(IIII)I" } : Jvm.MethodName) ({ cls := "LateFalls", name := "hanging", desc := "(IIII)I" } : Jvm.MethodName)) ∈ wA := wA_of 931 rfl rfl
set_option maxRecDepth 100000 in
theorem wd_932 : (Jvm.Cond.code ({ cls := "LateFalls", name := "hanging", desc := "(IIII)I" } : Jvm.MethodName) prog_1_method_10_code (6 : Nat) (Option.some Jvm.ClassFile.FieldType.int)) ∈ wA := wA_of 932 rfl rfl
set_option maxRecDepth 100000 in
theorem wd_933 : (Jvm.Cond.methodLink "LateFalls" (170 : Nat) ({ cls := "LateFalls", name := "needWithin", desc := "(III)V" } : Jvm.MethodName)) ∈ wA := wA_of 933 rfl rfl
set_option maxRecDepth 100000 in
theorem wd_934 : (Jvm.Cond.static ({ cls := "LateFalls", name := "needWithin", desc := "(III)V" } : Jvm.MethodName)) ∈ wA := wA_of 934 rfl rfl
set_option maxRecDepth 100000 in
theorem wd_935 : (Jvm.Cond.code ({ cls := "LateFalls", name := "needWithin", desc := "(III)V" } : Jvm.MethodName) prog_1_method_15_code (3 : Nat) (Option.none : Option Jvm.ClassFile.FieldType)) ∈ wA := wA_of 935 rfl rfl
set_option maxRecDepth 100000 in
theorem wd_937 : (Jvm.Cond.methodLink "LateFalls" (174 : Nat) ({ cls := "LateFalls$District", name := "hangTime", desc := "(IIIIII)I" } : Jvm.MethodName)) ∈ wA := wA_of 937 rfl rfl
set_option maxRecDepth 100000 in
theorem wd_938 : (Jvm.Cond.methodLink "LateFallsLaw" (190 : Nat) ({ cls := "LateFallsLaw", name := "hours", desc := "(LLateFalls;I[J)I" } : Jvm.MethodName)) ∈ wA := wA_of 938 rfl rfl
set_option maxRecDepth 100000 in
theorem wd_939 : (Jvm.Cond.static ({ cls := "LateFallsLaw", name := "hours", desc := "(LLateFalls;I[J)I" } : Jvm.MethodName)) ∈ wA := wA_of 939 rfl rfl
set_option maxRecDepth 100000 in
theorem wd_940 : (Jvm.Cond.codeWith ({ cls := "LateFallsLaw", name := "hours", desc := "(LLateFalls;I[J)I" } : Jvm.MethodName) method_9_code (4 : Nat) (Option.some Jvm.ClassFile.FieldType.int) [((0 : Nat), (9 : Nat), (12 : Nat), (13 : Nat))]) ∈ wA := wA_of 940 rfl rfl
set_option maxRecDepth 100000 in
theorem wd_941 : (Jvm.Cond.methodLink "LateFallsLaw" (34 : Nat) ({ cls := "LateFalls", name := "hours", desc := "(I)I" } : Jvm.MethodName)) ∈ wA := wA_of 941 rfl rfl
set_option maxRecDepth 100000 in
theorem wd_942 : (Jvm.Cond.instanceMethod ({ cls := "LateFalls", name := "hours", desc := "(I)I" } : Jvm.MethodName)) ∈ wA := wA_of 942 rfl rfl
set_option maxRecDepth 100000 in
theorem wd_943 : (Jvm.Cond.selects "LateFalls" ({ cls := "LateFalls", name := "hours", desc := "(I)I" } : Jvm.MethodName) ({ cls := "LateFalls", name := "hours", desc := "(I)I" } : Jvm.MethodName)) ∈ wA := wA_of 943 rfl rfl
set_option maxRecDepth 100000 in
theorem wd_944 : (Jvm.Cond.code ({ cls := "LateFalls", name := "hours", desc := "(I)I" } : Jvm.MethodName) prog_1_method_19_code (2 : Nat) (Option.some Jvm.ClassFile.FieldType.int)) ∈ wA := wA_of 944 rfl rfl
set_option maxRecDepth 100000 in
theorem wd_945 : (Jvm.Cond.methodLink "LateFalls" (224 : Nat) ({ cls := "LateFalls$Scene", name := "passTo", desc := "(I)I" } : Jvm.MethodName)) ∈ wA := wA_of 945 rfl rfl
set_option maxRecDepth 100000 in
theorem wd_946 : (Jvm.Cond.instanceMethod ({ cls := "LateFalls$Scene", name := "passTo", desc := "(I)I" } : Jvm.MethodName)) ∈ wA := wA_of 946 rfl rfl
set_option maxRecDepth 100000 in
theorem wd_947 : (Jvm.Cond.selects "LateFalls$Scene" ({ cls := "LateFalls$Scene", name := "passTo", desc := "(I)I" } : Jvm.MethodName) ({ cls := "LateFalls$Scene", name := "passTo", desc := "(I)I" } : Jvm.MethodName)) ∈ wA := wA_of 947 rfl rfl
set_option maxRecDepth 100000 in
theorem wd_948 : (Jvm.Cond.code ({ cls := "LateFalls$Scene", name := "passTo", desc := "(I)I" } : Jvm.MethodName) prog_8_method_15_code (4 : Nat) (Option.some Jvm.ClassFile.FieldType.int)) ∈ wA := wA_of 948 rfl rfl
set_option maxRecDepth 100000 in
theorem wd_949 : (Jvm.Cond.methodLink "LateFalls$Scene" (90 : Nat) ({ cls := "LateFalls$Scene", name := "nextFall", desc := "(I)Z" } : Jvm.MethodName)) ∈ wA := wA_of 949 rfl rfl
set_option maxRecDepth 100000 in
theorem wd_950 : (Jvm.Cond.methodLink "LateFallsLaw" (193 : Nat) ({ cls := "LateFallsLaw", name := "undo", desc := "(LLateFalls;I[J)I" } : Jvm.MethodName)) ∈ wA := wA_of 950 rfl rfl
set_option maxRecDepth 100000 in
theorem wd_951 : (Jvm.Cond.static ({ cls := "LateFallsLaw", name := "undo", desc := "(LLateFalls;I[J)I" } : Jvm.MethodName)) ∈ wA := wA_of 951 rfl rfl
set_option maxRecDepth 100000 in
theorem wd_952 : (Jvm.Cond.codeWith ({ cls := "LateFallsLaw", name := "undo", desc := "(LLateFalls;I[J)I" } : Jvm.MethodName) method_10_code (4 : Nat) (Option.some Jvm.ClassFile.FieldType.int) [((0 : Nat), (9 : Nat), (12 : Nat), (13 : Nat))]) ∈ wA := wA_of 952 rfl rfl
set_option maxRecDepth 100000 in
theorem wd_953 : (Jvm.Cond.methodLink "LateFallsLaw" (37 : Nat) ({ cls := "LateFalls", name := "undo", desc := "(I)I" } : Jvm.MethodName)) ∈ wA := wA_of 953 rfl rfl
set_option maxRecDepth 100000 in
theorem wd_954 : (Jvm.Cond.instanceMethod ({ cls := "LateFalls", name := "undo", desc := "(I)I" } : Jvm.MethodName)) ∈ wA := wA_of 954 rfl rfl
set_option maxRecDepth 100000 in
theorem wd_955 : (Jvm.Cond.selects "LateFalls" ({ cls := "LateFalls", name := "undo", desc := "(I)I" } : Jvm.MethodName) ({ cls := "LateFalls", name := "undo", desc := "(I)I" } : Jvm.MethodName)) ∈ wA := wA_of 955 rfl rfl
set_option maxRecDepth 100000 in
theorem wd_956 : (Jvm.Cond.code ({ cls := "LateFalls", name := "undo", desc := "(I)I" } : Jvm.MethodName) prog_1_method_20_code (2 : Nat) (Option.some Jvm.ClassFile.FieldType.int)) ∈ wA := wA_of 956 rfl rfl
set_option maxRecDepth 100000 in
theorem wd_958 : (Jvm.Cond.methodLink "LateFalls" (232 : Nat) ({ cls := "LateFalls$History", name := "goBack", desc := "(ILLateFalls$Scene;)V" } : Jvm.MethodName)) ∈ wA := wA_of 958 rfl rfl
set_option maxRecDepth 100000 in
theorem wd_959 : (Jvm.Cond.instanceMethod ({ cls := "LateFalls$History", name := "goBack", desc := "(ILLateFalls$Scene;)V" } : Jvm.MethodName)) ∈ wA := wA_of 959 rfl rfl
set_option maxRecDepth 100000 in
theorem wd_960 : (Jvm.Cond.selects "LateFalls$History" ({ cls := "LateFalls$History", name := "goBack", desc := "(ILLateFalls$Scene;)V" } : Jvm.MethodName) ({ cls := "LateFalls$History", name := "goBack", desc := "(ILLateFalls$Scene;)V" } : Jvm.MethodName)) ∈ wA := wA_of 960 rfl rfl
set_option maxRecDepth 100000 in
theorem wd_961 : (Jvm.Cond.code ({ cls := "LateFalls$History", name := "goBack", desc := "(ILLateFalls$Scene;)V" } : Jvm.MethodName) prog_4_method_4_code (3 : Nat) (Option.none : Option Jvm.ClassFile.FieldType)) ∈ wA := wA_of 961 rfl rfl
set_option maxRecDepth 100000 in
theorem wd_962 : (Jvm.Cond.methodLink "LateFallsLaw" (196 : Nat) ({ cls := "LateFallsLaw", name := "judge", desc := "(LLateFalls;II[J)I" } : Jvm.MethodName)) ∈ wA := wA_of 962 rfl rfl
set_option maxRecDepth 100000 in
theorem wd_963 : (Jvm.Cond.static ({ cls := "LateFallsLaw", name := "judge", desc := "(LLateFalls;II[J)I" } : Jvm.MethodName)) ∈ wA := wA_of 963 rfl rfl
set_option maxRecDepth 100000 in
theorem wd_964 : (Jvm.Cond.codeWith ({ cls := "LateFallsLaw", name := "judge", desc := "(LLateFalls;II[J)I" } : Jvm.MethodName) method_11_code (5 : Nat) (Option.some Jvm.ClassFile.FieldType.int) [((0 : Nat), (10 : Nat), (13 : Nat), (19 : Nat)), ((0 : Nat), (10 : Nat), (17 : Nat), (43 : Nat)), ((0 : Nat), (10 : Nat), (21 : Nat), (13 : Nat))]) ∈ wA := wA_of 964 rfl rfl
set_option maxRecDepth 100000 in
theorem wd_965 : (Jvm.Cond.classLink "LateFallsLaw" (43 : Nat) "java/lang/IllegalStateException") ∈ wA := wA_of 965 rfl rfl
set_option maxRecDepth 100000 in
theorem wd_966 : (Jvm.Cond.methodLink "LateFallsLaw" (40 : Nat) ({ cls := "LateFalls", name := "judge", desc := "(II)I" } : Jvm.MethodName)) ∈ wA := wA_of 966 rfl rfl
set_option maxRecDepth 100000 in
theorem wd_967 : (Jvm.Cond.instanceMethod ({ cls := "LateFalls", name := "judge", desc := "(II)I" } : Jvm.MethodName)) ∈ wA := wA_of 967 rfl rfl
set_option maxRecDepth 100000 in
theorem wd_968 : (Jvm.Cond.selects "LateFalls" ({ cls := "LateFalls", name := "judge", desc := "(II)I" } : Jvm.MethodName) ({ cls := "LateFalls", name := "judge", desc := "(II)I" } : Jvm.MethodName)) ∈ wA := wA_of 968 rfl rfl
set_option maxRecDepth 100000 in
theorem wd_969 : (Jvm.Cond.code ({ cls := "LateFalls", name := "judge", desc := "(II)I" } : Jvm.MethodName) prog_1_method_21_code (8 : Nat) (Option.some Jvm.ClassFile.FieldType.int)) ∈ wA := wA_of 969 rfl rfl
set_option maxRecDepth 100000 in
theorem wd_970 : (Jvm.Cond.methodLink "LateFalls" (236 : Nat) ({ cls := "LateFalls", name := "filledTray", desc := "(I)LLateFalls$Tray;" } : Jvm.MethodName)) ∈ wA := wA_of 970 rfl rfl
set_option maxRecDepth 100000 in
theorem wd_972 : (Jvm.Cond.instanceMethod ({ cls := "LateFalls", name := "filledTray", desc := "(I)LLateFalls$Tray;" } : Jvm.MethodName)) ∈ wA := wA_of 972 rfl rfl
set_option maxRecDepth 100000 in
theorem wd_973 : (Jvm.Cond.code ({ cls := "LateFalls", name := "filledTray", desc := "(I)LLateFalls$Tray;" } : Jvm.MethodName) prog_1_method_64_code (3 : Nat) (Option.some (Jvm.ClassFile.FieldType.object "LateFalls$Tray"))) ∈ wA := wA_of 973 rfl rfl
set_option maxRecDepth 100000 in
theorem wd_974 : (Jvm.Cond.methodLink "LateFalls" (373 : Nat) ({ cls := "LateFalls", name := "anyTray", desc := "(I)LLateFalls$Tray;" } : Jvm.MethodName)) ∈ wA := wA_of 974 rfl rfl
set_option maxRecDepth 100000 in
theorem wd_976 : (Jvm.Cond.instanceMethod ({ cls := "LateFalls", name := "anyTray", desc := "(I)LLateFalls$Tray;" } : Jvm.MethodName)) ∈ wA := wA_of 976 rfl rfl
set_option maxRecDepth 100000 in
theorem wd_977 : (Jvm.Cond.code ({ cls := "LateFalls", name := "anyTray", desc := "(I)LLateFalls$Tray;" } : Jvm.MethodName) prog_1_method_63_code (2 : Nat) (Option.some (Jvm.ClassFile.FieldType.object "LateFalls$Tray"))) ∈ wA := wA_of 977 rfl rfl
set_option maxRecDepth 100000 in
theorem wd_979 : (Jvm.Cond.classLink "LateFalls" (307 : Nat) "java/lang/IllegalStateException") ∈ wA := wA_of 979 rfl rfl
set_option maxRecDepth 100000 in
theorem wd_980 : (Jvm.Cond.instantiable "java/lang/IllegalStateException" (6 : Nat)) ∈ wA := wA_of 980 rfl rfl
set_option maxRecDepth 100000 in
theorem wd_982 : (Jvm.Cond.selects "java/lang/IllegalStateException" ({ cls := "java/lang/Throwable", name := "fillInStackTrace", desc := "(I)Ljava/lang/Throwable;" } : Jvm.MethodName) ({ cls := "java/lang/Throwable", name := "fillInStackTrace", desc := "(I)Ljava/lang/Throwable;" } : Jvm.MethodName)) ∈ wA := wA_of 982 rfl rfl
set_option maxRecDepth 100000 in
theorem wd_983 : (Jvm.Cond.lays "java/lang/IllegalStateException" "java/lang/Throwable" "cause" "Ljava/lang/Throwable;") ∈ wA := wA_of 983 rfl rfl
set_option maxRecDepth 100000 in
theorem wd_984 : (Jvm.Cond.lays "java/lang/IllegalStateException" "java/lang/Throwable" "stackTrace" "[Ljava/lang/StackTraceElement;") ∈ wA := wA_of 984 rfl rfl
set_option maxRecDepth 100000 in
theorem wd_985 : (Jvm.Cond.lays "java/lang/IllegalStateException" "java/lang/Throwable" "suppressedExceptions" "Ljava/util/List;") ∈ wA := wA_of 985 rfl rfl
set_option maxRecDepth 100000 in
theorem wd_986 : (Jvm.Cond.lays "java/lang/IllegalStateException" "java/lang/Throwable" "detailMessage" "Ljava/lang/String;") ∈ wA := wA_of 986 rfl rfl
set_option maxRecDepth 100000 in
theorem wd_987 : (Jvm.Cond.lays "java/lang/IllegalStateException" "java/lang/Throwable" "backtrace" "Ljava/lang/Object;") ∈ wA := wA_of 987 rfl rfl
set_option maxRecDepth 100000 in
theorem wd_989 : (Jvm.Cond.methodLink "LateFalls" (311 : Nat) ({ cls := "java/lang/IllegalStateException", name := "<init>", desc := "(Ljava/lang/String;)V" } : Jvm.MethodName)) ∈ wA := wA_of 989 rfl rfl
set_option maxRecDepth 100000 in
theorem wd_990 : (Jvm.Cond.instanceMethod ({ cls := "java/lang/IllegalStateException", name := "<init>", desc := "(Ljava/lang/String;)V" } : Jvm.MethodName)) ∈ wA := wA_of 990 rfl rfl
set_option maxRecDepth 100000 in
theorem wd_991 : (Jvm.Cond.code ({ cls := "java/lang/IllegalStateException", name := "<init>", desc := "(Ljava/lang/String;)V" } : Jvm.MethodName) prog_20_method_2_code (2 : Nat) (Option.none : Option Jvm.ClassFile.FieldType)) ∈ wA := wA_of 991 rfl rfl
set_option maxRecDepth 100000 in
theorem wd_992 : (Jvm.Cond.methodLink "java/lang/IllegalStateException" (7 : Nat) ({ cls := "java/lang/RuntimeException", name := "<init>", desc := "(Ljava/lang/String;)V" } : Jvm.MethodName)) ∈ wA := wA_of 992 rfl rfl
set_option maxRecDepth 100000 in
theorem wd_993 : (Jvm.Cond.lays "java/lang/IllegalStateException" "java/lang/Throwable" "depth" "I") ∈ wA := wA_of 993 rfl rfl
set_option maxRecDepth 100000 in
theorem wd_995 : (Jvm.Cond.methodLink "LateFalls" (248 : Nat) ({ cls := "LateFalls", name := "whyNot", desc := "(LLateFalls$Scene;J)I" } : Jvm.MethodName)) ∈ wA := wA_of 995 rfl rfl
set_option maxRecDepth 100000 in
theorem wd_996 : (Jvm.Cond.static ({ cls := "LateFalls", name := "whyNot", desc := "(LLateFalls$Scene;J)I" } : Jvm.MethodName)) ∈ wA := wA_of 996 rfl rfl
set_option maxRecDepth 100000 in
theorem wd_997 : (Jvm.Cond.code ({ cls := "LateFalls", name := "whyNot", desc := "(LLateFalls$Scene;J)I" } : Jvm.MethodName) prog_1_method_26_code (4 : Nat) (Option.some Jvm.ClassFile.FieldType.int)) ∈ wA := wA_of 997 rfl rfl
set_option maxRecDepth 100000 in
theorem wd_998 : (Jvm.Cond.constantLong "LateFalls" (275 : Nat) (-1 : Int64)) ∈ wA := wA_of 998 rfl rfl
set_option maxRecDepth 100000 in
theorem wd_999 : (Jvm.Cond.constantLong "LateFalls" (277 : Nat) (2000 : Int64)) ∈ wA := wA_of 999 rfl rfl
set_option maxRecDepth 100000 in
theorem wd_1000 : (Jvm.Cond.constantLong "LateFalls" (279 : Nat) (800 : Int64)) ∈ wA := wA_of 1000 rfl rfl
set_option maxRecDepth 100000 in
theorem wd_1001 : (Jvm.Cond.constantLong "LateFalls" (281 : Nat) (1000 : Int64)) ∈ wA := wA_of 1001 rfl rfl
set_option maxRecDepth 100000 in
theorem wd_1002 : (Jvm.Cond.constantLong "LateFalls" (283 : Nat) (1008 : Int64)) ∈ wA := wA_of 1002 rfl rfl
set_option maxRecDepth 100000 in
theorem wd_1003 : (Jvm.Cond.methodLink "LateFalls" (252 : Nat) ({ cls := "LateFalls", name := "act", desc := "(LLateFalls$Scene;J)V" } : Jvm.MethodName)) ∈ wA := wA_of 1003 rfl rfl
set_option maxRecDepth 100000 in
theorem wd_1004 : (Jvm.Cond.static ({ cls := "LateFalls", name := "act", desc := "(LLateFalls$Scene;J)V" } : Jvm.MethodName)) ∈ wA := wA_of 1004 rfl rfl
set_option maxRecDepth 100000 in
theorem wd_1005 : (Jvm.Cond.code ({ cls := "LateFalls", name := "act", desc := "(LLateFalls$Scene;J)V" } : Jvm.MethodName) prog_1_method_27_code (5 : Nat) (Option.none : Option Jvm.ClassFile.FieldType)) ∈ wA := wA_of 1005 rfl rfl
set_option maxRecDepth 100000 in
theorem wd_1006 : (Jvm.Cond.methodLink "LateFalls" (285 : Nat) ({ cls := "LateFalls$Scene", name := "nextFall", desc := "(I)Z" } : Jvm.MethodName)) ∈ wA := wA_of 1006 rfl rfl
set_option maxRecDepth 100000 in
theorem wd_1007 : (Jvm.Cond.methodLink "LateFallsLaw" (199 : Nat) ({ cls := "LateFallsLaw", name := "perform", desc := "(LLateFalls;I[J)I" } : Jvm.MethodName)) ∈ wA := wA_of 1007 rfl rfl
set_option maxRecDepth 100000 in
theorem wd_1008 : (Jvm.Cond.static ({ cls := "LateFallsLaw", name := "perform", desc := "(LLateFalls;I[J)I" } : Jvm.MethodName)) ∈ wA := wA_of 1008 rfl rfl
set_option maxRecDepth 100000 in
theorem wd_1009 : (Jvm.Cond.codeWith ({ cls := "LateFallsLaw", name := "perform", desc := "(LLateFalls;I[J)I" } : Jvm.MethodName) method_12_code (4 : Nat) (Option.some Jvm.ClassFile.FieldType.int) [((0 : Nat), (9 : Nat), (12 : Nat), (19 : Nat)), ((0 : Nat), (9 : Nat), (15 : Nat), (43 : Nat))]) ∈ wA := wA_of 1009 rfl rfl
set_option maxRecDepth 100000 in
theorem wd_1010 : (Jvm.Cond.methodLink "LateFallsLaw" (45 : Nat) ({ cls := "LateFalls", name := "perform", desc := "(I)I" } : Jvm.MethodName)) ∈ wA := wA_of 1010 rfl rfl
set_option maxRecDepth 100000 in
theorem wd_1011 : (Jvm.Cond.instanceMethod ({ cls := "LateFalls", name := "perform", desc := "(I)I" } : Jvm.MethodName)) ∈ wA := wA_of 1011 rfl rfl
set_option maxRecDepth 100000 in
theorem wd_1012 : (Jvm.Cond.selects "LateFalls" ({ cls := "LateFalls", name := "perform", desc := "(I)I" } : Jvm.MethodName) ({ cls := "LateFalls", name := "perform", desc := "(I)I" } : Jvm.MethodName)) ∈ wA := wA_of 1012 rfl rfl
set_option maxRecDepth 100000 in
theorem wd_1013 : (Jvm.Cond.code ({ cls := "LateFalls", name := "perform", desc := "(I)I" } : Jvm.MethodName) prog_1_method_22_code (5 : Nat) (Option.some Jvm.ClassFile.FieldType.int)) ∈ wA := wA_of 1013 rfl rfl
set_option maxRecDepth 100000 in
theorem wd_1014 : (Jvm.Cond.methodLink "LateFallsLaw" (202 : Nat) ({ cls := "LateFallsLaw", name := "season", desc := "(LLateFalls;II[J)I" } : Jvm.MethodName)) ∈ wA := wA_of 1014 rfl rfl
set_option maxRecDepth 100000 in
theorem wd_1015 : (Jvm.Cond.static ({ cls := "LateFallsLaw", name := "season", desc := "(LLateFalls;II[J)I" } : Jvm.MethodName)) ∈ wA := wA_of 1015 rfl rfl
set_option maxRecDepth 100000 in
theorem wd_1016 : (Jvm.Cond.codeWith ({ cls := "LateFallsLaw", name := "season", desc := "(LLateFalls;II[J)I" } : Jvm.MethodName) method_13_code (5 : Nat) (Option.some Jvm.ClassFile.FieldType.int) [((0 : Nat), (10 : Nat), (13 : Nat), (13 : Nat))]) ∈ wA := wA_of 1016 rfl rfl
set_option maxRecDepth 100000 in
theorem wd_1017 : (Jvm.Cond.methodLink "LateFallsLaw" (48 : Nat) ({ cls := "LateFalls", name := "season", desc := "(II)I" } : Jvm.MethodName)) ∈ wA := wA_of 1017 rfl rfl
set_option maxRecDepth 100000 in
theorem wd_1018 : (Jvm.Cond.instanceMethod ({ cls := "LateFalls", name := "season", desc := "(II)I" } : Jvm.MethodName)) ∈ wA := wA_of 1018 rfl rfl
set_option maxRecDepth 100000 in
theorem wd_1019 : (Jvm.Cond.selects "LateFalls" ({ cls := "LateFalls", name := "season", desc := "(II)I" } : Jvm.MethodName) ({ cls := "LateFalls", name := "season", desc := "(II)I" } : Jvm.MethodName)) ∈ wA := wA_of 1019 rfl rfl
set_option maxRecDepth 100000 in
theorem wd_1020 : (Jvm.Cond.code ({ cls := "LateFalls", name := "season", desc := "(II)I" } : Jvm.MethodName) prog_1_method_23_code (6 : Nat) (Option.some Jvm.ClassFile.FieldType.int)) ∈ wA := wA_of 1020 rfl rfl
set_option maxRecDepth 100000 in
theorem wd_1021 : (Jvm.Cond.methodLink "LateFalls" (265 : Nat) ({ cls := "LateFalls", name := "drawDeed", desc := "()I" } : Jvm.MethodName)) ∈ wA := wA_of 1021 rfl rfl
set_option maxRecDepth 100000 in
theorem wd_1023 : (Jvm.Cond.instanceMethod ({ cls := "LateFalls", name := "drawDeed", desc := "()I" } : Jvm.MethodName)) ∈ wA := wA_of 1023 rfl rfl
set_option maxRecDepth 100000 in
theorem wd_1024 : (Jvm.Cond.code ({ cls := "LateFalls", name := "drawDeed", desc := "()I" } : Jvm.MethodName) prog_1_method_24_code (5 : Nat) (Option.some Jvm.ClassFile.FieldType.int)) ∈ wA := wA_of 1024 rfl rfl
set_option maxRecDepth 100000 in
theorem wd_1025 : (Jvm.Cond.methodLink "LateFalls" (268 : Nat) ({ cls := "LateFalls", name := "draw", desc := "(I)I" } : Jvm.MethodName)) ∈ wA := wA_of 1025 rfl rfl
set_option maxRecDepth 100000 in
theorem wd_1027 : (Jvm.Cond.instanceMethod ({ cls := "LateFalls", name := "draw", desc := "(I)I" } : Jvm.MethodName)) ∈ wA := wA_of 1027 rfl rfl
set_option maxRecDepth 100000 in
theorem wd_1028 : (Jvm.Cond.code ({ cls := "LateFalls", name := "draw", desc := "(I)I" } : Jvm.MethodName) prog_1_method_25_code (2 : Nat) (Option.some Jvm.ClassFile.FieldType.int)) ∈ wA := wA_of 1028 rfl rfl
set_option maxRecDepth 100000 in
theorem wd_1029 : (Jvm.Cond.constant "LateFalls" (274 : Nat) (1103515245 : Int32)) ∈ wA := wA_of 1029 rfl rfl
set_option maxRecDepth 100000 in
theorem wd_1030 : (Jvm.Cond.methodLink "LateFallsLaw" (205 : Nat) ({ cls := "LateFallsLaw", name := "falls", desc := "(LLateFalls;I[J)I" } : Jvm.MethodName)) ∈ wA := wA_of 1030 rfl rfl
set_option maxRecDepth 100000 in
theorem wd_1031 : (Jvm.Cond.static ({ cls := "LateFallsLaw", name := "falls", desc := "(LLateFalls;I[J)I" } : Jvm.MethodName)) ∈ wA := wA_of 1031 rfl rfl
set_option maxRecDepth 100000 in
theorem wd_1032 : (Jvm.Cond.codeWith ({ cls := "LateFallsLaw", name := "falls", desc := "(LLateFalls;I[J)I" } : Jvm.MethodName) method_14_code (4 : Nat) (Option.some Jvm.ClassFile.FieldType.int) [((0 : Nat), (9 : Nat), (12 : Nat), (19 : Nat))]) ∈ wA := wA_of 1032 rfl rfl
set_option maxRecDepth 100000 in
theorem wd_1033 : (Jvm.Cond.methodLink "LateFallsLaw" (51 : Nat) ({ cls := "LateFalls", name := "falls", desc := "(I)I" } : Jvm.MethodName)) ∈ wA := wA_of 1033 rfl rfl
set_option maxRecDepth 100000 in
theorem wd_1034 : (Jvm.Cond.instanceMethod ({ cls := "LateFalls", name := "falls", desc := "(I)I" } : Jvm.MethodName)) ∈ wA := wA_of 1034 rfl rfl
set_option maxRecDepth 100000 in
theorem wd_1035 : (Jvm.Cond.selects "LateFalls" ({ cls := "LateFalls", name := "falls", desc := "(I)I" } : Jvm.MethodName) ({ cls := "LateFalls", name := "falls", desc := "(I)I" } : Jvm.MethodName)) ∈ wA := wA_of 1035 rfl rfl
set_option maxRecDepth 100000 in
theorem wd_1036 : (Jvm.Cond.code ({ cls := "LateFalls", name := "falls", desc := "(I)I" } : Jvm.MethodName) prog_1_method_28_code (2 : Nat) (Option.some Jvm.ClassFile.FieldType.int)) ∈ wA := wA_of 1036 rfl rfl
set_option maxRecDepth 100000 in
theorem wd_1037 : (Jvm.Cond.methodLink "LateFalls" (292 : Nat) ({ cls := "LateFalls$Forecast", name := "fallOf", desc := "(I)I" } : Jvm.MethodName)) ∈ wA := wA_of 1037 rfl rfl
set_option maxRecDepth 100000 in
theorem wd_1038 : (Jvm.Cond.instanceMethod ({ cls := "LateFalls$Forecast", name := "fallOf", desc := "(I)I" } : Jvm.MethodName)) ∈ wA := wA_of 1038 rfl rfl
set_option maxRecDepth 100000 in
theorem wd_1039 : (Jvm.Cond.selects "LateFalls$Forecast" ({ cls := "LateFalls$Forecast", name := "fallOf", desc := "(I)I" } : Jvm.MethodName) ({ cls := "LateFalls$Forecast", name := "fallOf", desc := "(I)I" } : Jvm.MethodName)) ∈ wA := wA_of 1039 rfl rfl
set_option maxRecDepth 100000 in
theorem wd_1040 : (Jvm.Cond.code ({ cls := "LateFalls$Forecast", name := "fallOf", desc := "(I)I" } : Jvm.MethodName) prog_3_method_3_code (3 : Nat) (Option.some Jvm.ClassFile.FieldType.int)) ∈ wA := wA_of 1040 rfl rfl
set_option maxRecDepth 100000 in
theorem wd_1041 : (Jvm.Cond.methodLink "LateFallsLaw" (208 : Nat) ({ cls := "LateFallsLaw", name := "lands", desc := "(LLateFalls;I[J)I" } : Jvm.MethodName)) ∈ wA := wA_of 1041 rfl rfl
set_option maxRecDepth 100000 in
theorem wd_1042 : (Jvm.Cond.static ({ cls := "LateFallsLaw", name := "lands", desc := "(LLateFalls;I[J)I" } : Jvm.MethodName)) ∈ wA := wA_of 1042 rfl rfl
set_option maxRecDepth 100000 in
theorem wd_1043 : (Jvm.Cond.codeWith ({ cls := "LateFallsLaw", name := "lands", desc := "(LLateFalls;I[J)I" } : Jvm.MethodName) method_15_code (4 : Nat) (Option.some Jvm.ClassFile.FieldType.int) [((0 : Nat), (9 : Nat), (12 : Nat), (19 : Nat))]) ∈ wA := wA_of 1043 rfl rfl
set_option maxRecDepth 100000 in
theorem wd_1044 : (Jvm.Cond.methodLink "LateFallsLaw" (54 : Nat) ({ cls := "LateFalls", name := "lands", desc := "(I)I" } : Jvm.MethodName)) ∈ wA := wA_of 1044 rfl rfl
set_option maxRecDepth 100000 in
theorem wd_1045 : (Jvm.Cond.instanceMethod ({ cls := "LateFalls", name := "lands", desc := "(I)I" } : Jvm.MethodName)) ∈ wA := wA_of 1045 rfl rfl
set_option maxRecDepth 100000 in
theorem wd_1046 : (Jvm.Cond.selects "LateFalls" ({ cls := "LateFalls", name := "lands", desc := "(I)I" } : Jvm.MethodName) ({ cls := "LateFalls", name := "lands", desc := "(I)I" } : Jvm.MethodName)) ∈ wA := wA_of 1046 rfl rfl
set_option maxRecDepth 100000 in
theorem wd_1047 : (Jvm.Cond.code ({ cls := "LateFalls", name := "lands", desc := "(I)I" } : Jvm.MethodName) prog_1_method_29_code (2 : Nat) (Option.some Jvm.ClassFile.FieldType.int)) ∈ wA := wA_of 1047 rfl rfl
set_option maxRecDepth 100000 in
theorem wd_1048 : (Jvm.Cond.methodLink "LateFallsLaw" (211 : Nat) ({ cls := "LateFallsLaw", name := "fallIn", desc := "(LLateFalls;I[J)I" } : Jvm.MethodName)) ∈ wA := wA_of 1048 rfl rfl
set_option maxRecDepth 100000 in
theorem wd_1049 : (Jvm.Cond.static ({ cls := "LateFallsLaw", name := "fallIn", desc := "(LLateFalls;I[J)I" } : Jvm.MethodName)) ∈ wA := wA_of 1049 rfl rfl
set_option maxRecDepth 100000 in
theorem wd_1050 : (Jvm.Cond.codeWith ({ cls := "LateFallsLaw", name := "fallIn", desc := "(LLateFalls;I[J)I" } : Jvm.MethodName) method_16_code (4 : Nat) (Option.some Jvm.ClassFile.FieldType.int) [((0 : Nat), (9 : Nat), (12 : Nat), (13 : Nat))]) ∈ wA := wA_of 1050 rfl rfl
set_option maxRecDepth 100000 in
theorem wd_1051 : (Jvm.Cond.methodLink "LateFallsLaw" (57 : Nat) ({ cls := "LateFalls", name := "fallIn", desc := "(I)I" } : Jvm.MethodName)) ∈ wA := wA_of 1051 rfl rfl
set_option maxRecDepth 100000 in
theorem wd_1052 : (Jvm.Cond.instanceMethod ({ cls := "LateFalls", name := "fallIn", desc := "(I)I" } : Jvm.MethodName)) ∈ wA := wA_of 1052 rfl rfl
set_option maxRecDepth 100000 in
theorem wd_1053 : (Jvm.Cond.selects "LateFalls" ({ cls := "LateFalls", name := "fallIn", desc := "(I)I" } : Jvm.MethodName) ({ cls := "LateFalls", name := "fallIn", desc := "(I)I" } : Jvm.MethodName)) ∈ wA := wA_of 1053 rfl rfl
set_option maxRecDepth 100000 in
theorem wd_1054 : (Jvm.Cond.code ({ cls := "LateFalls", name := "fallIn", desc := "(I)I" } : Jvm.MethodName) prog_1_method_30_code (4 : Nat) (Option.some Jvm.ClassFile.FieldType.int)) ∈ wA := wA_of 1054 rfl rfl
set_option maxRecDepth 100000 in
theorem wd_1055 : (Jvm.Cond.methodLink "LateFallsLaw" (222 : Nat) ({ cls := "LateFallsLaw", name := "frees", desc := "(LLateFalls;I[J)I" } : Jvm.MethodName)) ∈ wA := wA_of 1055 rfl rfl
set_option maxRecDepth 100000 in
theorem wd_1056 : (Jvm.Cond.static ({ cls := "LateFallsLaw", name := "frees", desc := "(LLateFalls;I[J)I" } : Jvm.MethodName)) ∈ wA := wA_of 1056 rfl rfl
set_option maxRecDepth 100000 in
theorem wd_1057 : (Jvm.Cond.codeWith ({ cls := "LateFallsLaw", name := "frees", desc := "(LLateFalls;I[J)I" } : Jvm.MethodName) method_17_code (4 : Nat) (Option.some Jvm.ClassFile.FieldType.int) [((0 : Nat), (9 : Nat), (12 : Nat), (19 : Nat)), ((0 : Nat), (9 : Nat), (15 : Nat), (43 : Nat))]) ∈ wA := wA_of 1057 rfl rfl
set_option maxRecDepth 100000 in
theorem wd_1058 : (Jvm.Cond.methodLink "LateFallsLaw" (60 : Nat) ({ cls := "LateFalls", name := "frees", desc := "(I)I" } : Jvm.MethodName)) ∈ wA := wA_of 1058 rfl rfl
set_option maxRecDepth 100000 in
theorem wd_1059 : (Jvm.Cond.instanceMethod ({ cls := "LateFalls", name := "frees", desc := "(I)I" } : Jvm.MethodName)) ∈ wA := wA_of 1059 rfl rfl
set_option maxRecDepth 100000 in
theorem wd_1060 : (Jvm.Cond.selects "LateFalls" ({ cls := "LateFalls", name := "frees", desc := "(I)I" } : Jvm.MethodName) ({ cls := "LateFalls", name := "frees", desc := "(I)I" } : Jvm.MethodName)) ∈ wA := wA_of 1060 rfl rfl
set_option maxRecDepth 100000 in
theorem wd_1061 : (Jvm.Cond.code ({ cls := "LateFalls", name := "frees", desc := "(I)I" } : Jvm.MethodName) prog_1_method_33_code (2 : Nat) (Option.some Jvm.ClassFile.FieldType.int)) ∈ wA := wA_of 1061 rfl rfl
set_option maxRecDepth 100000 in
theorem wd_1063 : (Jvm.Cond.methodLink "LateFalls" (312 : Nat) ({ cls := "LateFalls$Scene", name := "falling", desc := "(II)I" } : Jvm.MethodName)) ∈ wA := wA_of 1063 rfl rfl
set_option maxRecDepth 100000 in
theorem wd_1064 : (Jvm.Cond.methodLink "LateFallsLaw" (225 : Nat) ({ cls := "LateFallsLaw", name := "heightIn", desc := "(LLateFalls;II[J)I" } : Jvm.MethodName)) ∈ wA := wA_of 1064 rfl rfl
set_option maxRecDepth 100000 in
theorem wd_1065 : (Jvm.Cond.static ({ cls := "LateFallsLaw", name := "heightIn", desc := "(LLateFalls;II[J)I" } : Jvm.MethodName)) ∈ wA := wA_of 1065 rfl rfl
set_option maxRecDepth 100000 in
theorem wd_1066 : (Jvm.Cond.codeWith ({ cls := "LateFallsLaw", name := "heightIn", desc := "(LLateFalls;II[J)I" } : Jvm.MethodName) method_18_code (5 : Nat) (Option.some Jvm.ClassFile.FieldType.int) [((0 : Nat), (10 : Nat), (13 : Nat), (19 : Nat)), ((0 : Nat), (10 : Nat), (17 : Nat), (13 : Nat))]) ∈ wA := wA_of 1066 rfl rfl
set_option maxRecDepth 100000 in
theorem wd_1067 : (Jvm.Cond.methodLink "LateFallsLaw" (63 : Nat) ({ cls := "LateFalls", name := "heightIn", desc := "(II)I" } : Jvm.MethodName)) ∈ wA := wA_of 1067 rfl rfl
set_option maxRecDepth 100000 in
theorem wd_1068 : (Jvm.Cond.instanceMethod ({ cls := "LateFalls", name := "heightIn", desc := "(II)I" } : Jvm.MethodName)) ∈ wA := wA_of 1068 rfl rfl
set_option maxRecDepth 100000 in
theorem wd_1069 : (Jvm.Cond.selects "LateFalls" ({ cls := "LateFalls", name := "heightIn", desc := "(II)I" } : Jvm.MethodName) ({ cls := "LateFalls", name := "heightIn", desc := "(II)I" } : Jvm.MethodName)) ∈ wA := wA_of 1069 rfl rfl
set_option maxRecDepth 100000 in
theorem wd_1070 : (Jvm.Cond.code ({ cls := "LateFalls", name := "heightIn", desc := "(II)I" } : Jvm.MethodName) prog_1_method_34_code (4 : Nat) (Option.some Jvm.ClassFile.FieldType.int)) ∈ wA := wA_of 1070 rfl rfl
set_option maxRecDepth 100000 in
theorem wd_1071 : (Jvm.Cond.methodLink "LateFallsLaw" (228 : Nat) ({ cls := "LateFallsLaw", name := "hurtIn", desc := "(LLateFalls;I[J)I" } : Jvm.MethodName)) ∈ wA := wA_of 1071 rfl rfl
set_option maxRecDepth 100000 in
theorem wd_1072 : (Jvm.Cond.static ({ cls := "LateFallsLaw", name := "hurtIn", desc := "(LLateFalls;I[J)I" } : Jvm.MethodName)) ∈ wA := wA_of 1072 rfl rfl
set_option maxRecDepth 100000 in
theorem wd_1073 : (Jvm.Cond.codeWith ({ cls := "LateFallsLaw", name := "hurtIn", desc := "(LLateFalls;I[J)I" } : Jvm.MethodName) method_19_code (4 : Nat) (Option.some Jvm.ClassFile.FieldType.int) [((0 : Nat), (9 : Nat), (12 : Nat), (19 : Nat))]) ∈ wA := wA_of 1073 rfl rfl
set_option maxRecDepth 100000 in
theorem wd_1074 : (Jvm.Cond.methodLink "LateFallsLaw" (66 : Nat) ({ cls := "LateFalls", name := "hurtIn", desc := "(I)I" } : Jvm.MethodName)) ∈ wA := wA_of 1074 rfl rfl
set_option maxRecDepth 100000 in
theorem wd_1075 : (Jvm.Cond.instanceMethod ({ cls := "LateFalls", name := "hurtIn", desc := "(I)I" } : Jvm.MethodName)) ∈ wA := wA_of 1075 rfl rfl
set_option maxRecDepth 100000 in
theorem wd_1076 : (Jvm.Cond.selects "LateFalls" ({ cls := "LateFalls", name := "hurtIn", desc := "(I)I" } : Jvm.MethodName) ({ cls := "LateFalls", name := "hurtIn", desc := "(I)I" } : Jvm.MethodName)) ∈ wA := wA_of 1076 rfl rfl
set_option maxRecDepth 100000 in
theorem wd_1077 : (Jvm.Cond.code ({ cls := "LateFalls", name := "hurtIn", desc := "(I)I" } : Jvm.MethodName) prog_1_method_35_code (4 : Nat) (Option.some Jvm.ClassFile.FieldType.int)) ∈ wA := wA_of 1077 rfl rfl
set_option maxRecDepth 100000 in
theorem wd_1078 : (Jvm.Cond.methodLink "LateFallsLaw" (231 : Nat) ({ cls := "LateFallsLaw", name := "hurts", desc := "(LLateFalls;I[J)I" } : Jvm.MethodName)) ∈ wA := wA_of 1078 rfl rfl
set_option maxRecDepth 100000 in
theorem wd_1079 : (Jvm.Cond.static ({ cls := "LateFallsLaw", name := "hurts", desc := "(LLateFalls;I[J)I" } : Jvm.MethodName)) ∈ wA := wA_of 1079 rfl rfl
set_option maxRecDepth 100000 in
theorem wd_1080 : (Jvm.Cond.codeWith ({ cls := "LateFallsLaw", name := "hurts", desc := "(LLateFalls;I[J)I" } : Jvm.MethodName) method_20_code (4 : Nat) (Option.some Jvm.ClassFile.FieldType.int) [((0 : Nat), (9 : Nat), (12 : Nat), (19 : Nat))]) ∈ wA := wA_of 1080 rfl rfl
set_option maxRecDepth 100000 in
theorem wd_1081 : (Jvm.Cond.methodLink "LateFallsLaw" (69 : Nat) ({ cls := "LateFalls", name := "hurts", desc := "(I)I" } : Jvm.MethodName)) ∈ wA := wA_of 1081 rfl rfl
set_option maxRecDepth 100000 in
theorem wd_1082 : (Jvm.Cond.instanceMethod ({ cls := "LateFalls", name := "hurts", desc := "(I)I" } : Jvm.MethodName)) ∈ wA := wA_of 1082 rfl rfl
set_option maxRecDepth 100000 in
theorem wd_1083 : (Jvm.Cond.selects "LateFalls" ({ cls := "LateFalls", name := "hurts", desc := "(I)I" } : Jvm.MethodName) ({ cls := "LateFalls", name := "hurts", desc := "(I)I" } : Jvm.MethodName)) ∈ wA := wA_of 1083 rfl rfl
set_option maxRecDepth 100000 in
theorem wd_1084 : (Jvm.Cond.code ({ cls := "LateFalls", name := "hurts", desc := "(I)I" } : Jvm.MethodName) prog_1_method_36_code (2 : Nat) (Option.some Jvm.ClassFile.FieldType.int)) ∈ wA := wA_of 1084 rfl rfl
set_option maxRecDepth 100000 in
theorem wd_1085 : (Jvm.Cond.methodLink "LateFalls" (318 : Nat) ({ cls := "LateFalls$Forecast", name := "hurtOf", desc := "(III)I" } : Jvm.MethodName)) ∈ wA := wA_of 1085 rfl rfl
set_option maxRecDepth 100000 in
theorem wd_1086 : (Jvm.Cond.instanceMethod ({ cls := "LateFalls$Forecast", name := "hurtOf", desc := "(III)I" } : Jvm.MethodName)) ∈ wA := wA_of 1086 rfl rfl
set_option maxRecDepth 100000 in
theorem wd_1087 : (Jvm.Cond.selects "LateFalls$Forecast" ({ cls := "LateFalls$Forecast", name := "hurtOf", desc := "(III)I" } : Jvm.MethodName) ({ cls := "LateFalls$Forecast", name := "hurtOf", desc := "(III)I" } : Jvm.MethodName)) ∈ wA := wA_of 1087 rfl rfl
set_option maxRecDepth 100000 in
theorem wd_1088 : (Jvm.Cond.code ({ cls := "LateFalls$Forecast", name := "hurtOf", desc := "(III)I" } : Jvm.MethodName) prog_3_method_5_code (7 : Nat) (Option.some Jvm.ClassFile.FieldType.int)) ∈ wA := wA_of 1088 rfl rfl
set_option maxRecDepth 100000 in
theorem wd_1089 : (Jvm.Cond.methodLink "LateFalls$Forecast" (56 : Nat) ({ cls := "LateFalls$District", name := "walkerColumn", desc := "(II)I" } : Jvm.MethodName)) ∈ wA := wA_of 1089 rfl rfl
set_option maxRecDepth 100000 in
theorem wd_1090 : (Jvm.Cond.methodLink "LateFalls$Forecast" (61 : Nat) ({ cls := "LateFalls$Forecast", name := "weightIn", desc := "(II)I" } : Jvm.MethodName)) ∈ wA := wA_of 1090 rfl rfl
set_option maxRecDepth 100000 in
theorem wd_1091 : (Jvm.Cond.methodLink "LateFallsLaw" (234 : Nat) ({ cls := "LateFallsLaw", name := "spares", desc := "(LLateFalls;II[J)I" } : Jvm.MethodName)) ∈ wA := wA_of 1091 rfl rfl
set_option maxRecDepth 100000 in
theorem wd_1092 : (Jvm.Cond.static ({ cls := "LateFallsLaw", name := "spares", desc := "(LLateFalls;II[J)I" } : Jvm.MethodName)) ∈ wA := wA_of 1092 rfl rfl
set_option maxRecDepth 100000 in
theorem wd_1093 : (Jvm.Cond.codeWith ({ cls := "LateFallsLaw", name := "spares", desc := "(LLateFalls;II[J)I" } : Jvm.MethodName) method_21_code (5 : Nat) (Option.some Jvm.ClassFile.FieldType.int) [((0 : Nat), (10 : Nat), (13 : Nat), (19 : Nat))]) ∈ wA := wA_of 1093 rfl rfl
set_option maxRecDepth 100000 in
theorem wd_1094 : (Jvm.Cond.methodLink "LateFallsLaw" (72 : Nat) ({ cls := "LateFalls", name := "spares", desc := "(II)I" } : Jvm.MethodName)) ∈ wA := wA_of 1094 rfl rfl
set_option maxRecDepth 100000 in
theorem wd_1095 : (Jvm.Cond.instanceMethod ({ cls := "LateFalls", name := "spares", desc := "(II)I" } : Jvm.MethodName)) ∈ wA := wA_of 1095 rfl rfl
set_option maxRecDepth 100000 in
theorem wd_1096 : (Jvm.Cond.selects "LateFalls" ({ cls := "LateFalls", name := "spares", desc := "(II)I" } : Jvm.MethodName) ({ cls := "LateFalls", name := "spares", desc := "(II)I" } : Jvm.MethodName)) ∈ wA := wA_of 1096 rfl rfl
set_option maxRecDepth 100000 in
theorem wd_1097 : (Jvm.Cond.code ({ cls := "LateFalls", name := "spares", desc := "(II)I" } : Jvm.MethodName) prog_1_method_37_code (3 : Nat) (Option.some Jvm.ClassFile.FieldType.int)) ∈ wA := wA_of 1097 rfl rfl
set_option maxRecDepth 100000 in
theorem wd_1098 : (Jvm.Cond.methodLink "LateFallsLaw" (237 : Nat) ({ cls := "LateFallsLaw", name := "fallsBy", desc := "(LLateFalls;IIII[J)I" } : Jvm.MethodName)) ∈ wA := wA_of 1098 rfl rfl
set_option maxRecDepth 100000 in
theorem wd_1099 : (Jvm.Cond.static ({ cls := "LateFallsLaw", name := "fallsBy", desc := "(LLateFalls;IIII[J)I" } : Jvm.MethodName)) ∈ wA := wA_of 1099 rfl rfl
set_option maxRecDepth 100000 in
theorem wd_1100 : (Jvm.Cond.codeWith ({ cls := "LateFallsLaw", name := "fallsBy", desc := "(LLateFalls;IIII[J)I" } : Jvm.MethodName) method_22_code (7 : Nat) (Option.some Jvm.ClassFile.FieldType.int) [((0 : Nat), (14 : Nat), (17 : Nat), (19 : Nat)), ((0 : Nat), (14 : Nat), (21 : Nat), (43 : Nat)), ((0 : Nat), (14 : Nat), (25 : Nat), (13 : Nat))]) ∈ wA := wA_of 1100 rfl rfl
set_option maxRecDepth 100000 in
theorem wd_1101 : (Jvm.Cond.methodLink "LateFallsLaw" (75 : Nat) ({ cls := "LateFalls", name := "fallsBy", desc := "(IIII)I" } : Jvm.MethodName)) ∈ wA := wA_of 1101 rfl rfl
set_option maxRecDepth 100000 in
theorem wd_1102 : (Jvm.Cond.instanceMethod ({ cls := "LateFalls", name := "fallsBy", desc := "(IIII)I" } : Jvm.MethodName)) ∈ wA := wA_of 1102 rfl rfl
set_option maxRecDepth 100000 in
theorem wd_1103 : (Jvm.Cond.selects "LateFalls" ({ cls := "LateFalls", name := "fallsBy", desc := "(IIII)I" } : Jvm.MethodName) ({ cls := "LateFalls", name := "fallsBy", desc := "(IIII)I" } : Jvm.MethodName)) ∈ wA := wA_of 1103 rfl rfl
set_option maxRecDepth 100000 in
theorem wd_1104 : (Jvm.Cond.code ({ cls := "LateFalls", name := "fallsBy", desc := "(IIII)I" } : Jvm.MethodName) prog_1_method_38_code (5 : Nat) (Option.some Jvm.ClassFile.FieldType.int)) ∈ wA := wA_of 1104 rfl rfl
set_option maxRecDepth 100000 in
theorem wd_1105 : (Jvm.Cond.methodLink "LateFalls" (321 : Nat) ({ cls := "LateFalls", name := "needHeldAndPlace", desc := "(III)V" } : Jvm.MethodName)) ∈ wA := wA_of 1105 rfl rfl
set_option maxRecDepth 100000 in
theorem wd_1107 : (Jvm.Cond.instanceMethod ({ cls := "LateFalls", name := "needHeldAndPlace", desc := "(III)V" } : Jvm.MethodName)) ∈ wA := wA_of 1107 rfl rfl
set_option maxRecDepth 100000 in
theorem wd_1108 : (Jvm.Cond.code ({ cls := "LateFalls", name := "needHeldAndPlace", desc := "(III)V" } : Jvm.MethodName) prog_1_method_47_code (4 : Nat) (Option.none : Option Jvm.ClassFile.FieldType)) ∈ wA := wA_of 1108 rfl rfl
set_option maxRecDepth 100000 in
theorem wd_1109 : (Jvm.Cond.methodLink "LateFalls" (331 : Nat) ({ cls := "LateFalls", name := "needHeld", desc := "(I)V" } : Jvm.MethodName)) ∈ wA := wA_of 1109 rfl rfl
set_option maxRecDepth 100000 in
theorem wd_1111 : (Jvm.Cond.instanceMethod ({ cls := "LateFalls", name := "needHeld", desc := "(I)V" } : Jvm.MethodName)) ∈ wA := wA_of 1111 rfl rfl
set_option maxRecDepth 100000 in
theorem wd_1112 : (Jvm.Cond.code ({ cls := "LateFalls", name := "needHeld", desc := "(I)V" } : Jvm.MethodName) prog_1_method_46_code (2 : Nat) (Option.none : Option Jvm.ClassFile.FieldType)) ∈ wA := wA_of 1112 rfl rfl
set_option maxRecDepth 100000 in
theorem wd_1114 : (Jvm.Cond.methodLink "LateFalls" (324 : Nat) ({ cls := "LateFalls$Forecast", name := "fallAfter", desc := "(LLateFalls$Scene;IIII)I" } : Jvm.MethodName)) ∈ wA := wA_of 1114 rfl rfl
set_option maxRecDepth 100000 in
theorem wd_1115 : (Jvm.Cond.instanceMethod ({ cls := "LateFalls$Forecast", name := "fallAfter", desc := "(LLateFalls$Scene;IIII)I" } : Jvm.MethodName)) ∈ wA := wA_of 1115 rfl rfl
set_option maxRecDepth 100000 in
theorem wd_1116 : (Jvm.Cond.selects "LateFalls$Forecast" ({ cls := "LateFalls$Forecast", name := "fallAfter", desc := "(LLateFalls$Scene;IIII)I" } : Jvm.MethodName) ({ cls := "LateFalls$Forecast", name := "fallAfter", desc := "(LLateFalls$Scene;IIII)I" } : Jvm.MethodName)) ∈ wA := wA_of 1116 rfl rfl
set_option maxRecDepth 100000 in
theorem wd_1117 : (Jvm.Cond.code ({ cls := "LateFalls$Forecast", name := "fallAfter", desc := "(LLateFalls$Scene;IIII)I" } : Jvm.MethodName) prog_3_method_6_code (8 : Nat) (Option.some Jvm.ClassFile.FieldType.int)) ∈ wA := wA_of 1117 rfl rfl
set_option maxRecDepth 100000 in
theorem wd_1118 : (Jvm.Cond.methodLink "LateFalls$Forecast" (64 : Nat) ({ cls := "LateFalls$Scene", name := "whyNotLetGo", desc := "(III)I" } : Jvm.MethodName)) ∈ wA := wA_of 1118 rfl rfl
set_option maxRecDepth 100000 in
theorem wd_1119 : (Jvm.Cond.methodLink "LateFalls$Forecast" (68 : Nat) ({ cls := "LateFalls$Scene", name := "release", desc := "(III)I" } : Jvm.MethodName)) ∈ wA := wA_of 1119 rfl rfl
set_option maxRecDepth 100000 in
theorem wd_1120 : (Jvm.Cond.methodLink "LateFallsLaw" (240 : Nat) ({ cls := "LateFallsLaw", name := "waitFor", desc := "(LLateFalls;IIII[J)I" } : Jvm.MethodName)) ∈ wA := wA_of 1120 rfl rfl
set_option maxRecDepth 100000 in
theorem wd_1121 : (Jvm.Cond.static ({ cls := "LateFallsLaw", name := "waitFor", desc := "(LLateFalls;IIII[J)I" } : Jvm.MethodName)) ∈ wA := wA_of 1121 rfl rfl
set_option maxRecDepth 100000 in
theorem wd_1122 : (Jvm.Cond.codeWith ({ cls := "LateFallsLaw", name := "waitFor", desc := "(LLateFalls;IIII[J)I" } : Jvm.MethodName) method_23_code (7 : Nat) (Option.some Jvm.ClassFile.FieldType.int) [((0 : Nat), (14 : Nat), (17 : Nat), (19 : Nat)), ((0 : Nat), (14 : Nat), (21 : Nat), (43 : Nat)), ((0 : Nat), (14 : Nat), (25 : Nat), (13 : Nat))]) ∈ wA := wA_of 1122 rfl rfl
set_option maxRecDepth 100000 in
theorem wd_1123 : (Jvm.Cond.methodLink "LateFallsLaw" (78 : Nat) ({ cls := "LateFalls", name := "waitFor", desc := "(IIII)I" } : Jvm.MethodName)) ∈ wA := wA_of 1123 rfl rfl
set_option maxRecDepth 100000 in
theorem wd_1124 : (Jvm.Cond.instanceMethod ({ cls := "LateFalls", name := "waitFor", desc := "(IIII)I" } : Jvm.MethodName)) ∈ wA := wA_of 1124 rfl rfl
set_option maxRecDepth 100000 in
theorem wd_1125 : (Jvm.Cond.selects "LateFalls" ({ cls := "LateFalls", name := "waitFor", desc := "(IIII)I" } : Jvm.MethodName) ({ cls := "LateFalls", name := "waitFor", desc := "(IIII)I" } : Jvm.MethodName)) ∈ wA := wA_of 1125 rfl rfl
set_option maxRecDepth 100000 in
theorem wd_1126 : (Jvm.Cond.code ({ cls := "LateFalls", name := "waitFor", desc := "(IIII)I" } : Jvm.MethodName) prog_1_method_39_code (6 : Nat) (Option.some Jvm.ClassFile.FieldType.int)) ∈ wA := wA_of 1126 rfl rfl
set_option maxRecDepth 100000 in
theorem wd_1127 : (Jvm.Cond.methodLink "LateFallsLaw" (243 : Nat) ({ cls := "LateFallsLaw", name := "waitSafe", desc := "(LLateFalls;III[J)I" } : Jvm.MethodName)) ∈ wA := wA_of 1127 rfl rfl
set_option maxRecDepth 100000 in
theorem wd_1128 : (Jvm.Cond.static ({ cls := "LateFallsLaw", name := "waitSafe", desc := "(LLateFalls;III[J)I" } : Jvm.MethodName)) ∈ wA := wA_of 1128 rfl rfl
set_option maxRecDepth 100000 in
theorem wd_1129 : (Jvm.Cond.codeWith ({ cls := "LateFallsLaw", name := "waitSafe", desc := "(LLateFalls;III[J)I" } : Jvm.MethodName) method_24_code (6 : Nat) (Option.some Jvm.ClassFile.FieldType.int) [((0 : Nat), (12 : Nat), (15 : Nat), (19 : Nat)), ((0 : Nat), (12 : Nat), (19 : Nat), (43 : Nat))]) ∈ wA := wA_of 1129 rfl rfl
set_option maxRecDepth 100000 in
theorem wd_1130 : (Jvm.Cond.methodLink "LateFallsLaw" (81 : Nat) ({ cls := "LateFalls", name := "waitSafe", desc := "(III)I" } : Jvm.MethodName)) ∈ wA := wA_of 1130 rfl rfl
set_option maxRecDepth 100000 in
theorem wd_1131 : (Jvm.Cond.instanceMethod ({ cls := "LateFalls", name := "waitSafe", desc := "(III)I" } : Jvm.MethodName)) ∈ wA := wA_of 1131 rfl rfl
set_option maxRecDepth 100000 in
theorem wd_1132 : (Jvm.Cond.selects "LateFalls" ({ cls := "LateFalls", name := "waitSafe", desc := "(III)I" } : Jvm.MethodName) ({ cls := "LateFalls", name := "waitSafe", desc := "(III)I" } : Jvm.MethodName)) ∈ wA := wA_of 1132 rfl rfl
set_option maxRecDepth 100000 in
theorem wd_1133 : (Jvm.Cond.code ({ cls := "LateFalls", name := "waitSafe", desc := "(III)I" } : Jvm.MethodName) prog_1_method_40_code (6 : Nat) (Option.some Jvm.ClassFile.FieldType.int)) ∈ wA := wA_of 1133 rfl rfl
set_option maxRecDepth 100000 in
theorem wd_1134 : (Jvm.Cond.methodLink "LateFalls" (328 : Nat) ({ cls := "LateFalls$District", name := "walkersIn", desc := "(II)I" } : Jvm.MethodName)) ∈ wA := wA_of 1134 rfl rfl
set_option maxRecDepth 100000 in
theorem wd_1135 : (Jvm.Cond.instanceMethod ({ cls := "LateFalls$District", name := "walkersIn", desc := "(II)I" } : Jvm.MethodName)) ∈ wA := wA_of 1135 rfl rfl
set_option maxRecDepth 100000 in
theorem wd_1136 : (Jvm.Cond.selects "LateFalls$District" ({ cls := "LateFalls$District", name := "walkersIn", desc := "(II)I" } : Jvm.MethodName) ({ cls := "LateFalls$District", name := "walkersIn", desc := "(II)I" } : Jvm.MethodName)) ∈ wA := wA_of 1136 rfl rfl
set_option maxRecDepth 100000 in
theorem wd_1137 : (Jvm.Cond.code ({ cls := "LateFalls$District", name := "walkersIn", desc := "(II)I" } : Jvm.MethodName) prog_2_method_4_code (5 : Nat) (Option.some Jvm.ClassFile.FieldType.int)) ∈ wA := wA_of 1137 rfl rfl
set_option maxRecDepth 100000 in
theorem wd_1138 : (Jvm.Cond.methodLink "LateFalls$District" (37 : Nat) ({ cls := "LateFalls$District", name := "walkerColumn", desc := "(II)I" } : Jvm.MethodName)) ∈ wA := wA_of 1138 rfl rfl
set_option maxRecDepth 100000 in
theorem wd_1139 : (Jvm.Cond.methodLink "LateFallsLaw" (247 : Nat) ({ cls := "LateFallsLaw", name := "waitHurt", desc := "(LLateFalls;IIII[J)I" } : Jvm.MethodName)) ∈ wA := wA_of 1139 rfl rfl
set_option maxRecDepth 100000 in
theorem wd_1140 : (Jvm.Cond.static ({ cls := "LateFallsLaw", name := "waitHurt", desc := "(LLateFalls;IIII[J)I" } : Jvm.MethodName)) ∈ wA := wA_of 1140 rfl rfl
set_option maxRecDepth 100000 in
theorem wd_1141 : (Jvm.Cond.codeWith ({ cls := "LateFallsLaw", name := "waitHurt", desc := "(LLateFalls;IIII[J)I" } : Jvm.MethodName) method_25_code (7 : Nat) (Option.some Jvm.ClassFile.FieldType.int) [((0 : Nat), (14 : Nat), (17 : Nat), (19 : Nat)), ((0 : Nat), (14 : Nat), (21 : Nat), (43 : Nat))]) ∈ wA := wA_of 1141 rfl rfl
set_option maxRecDepth 100000 in
theorem wd_1142 : (Jvm.Cond.methodLink "LateFallsLaw" (85 : Nat) ({ cls := "LateFalls", name := "waitHurt", desc := "(IIII)I" } : Jvm.MethodName)) ∈ wA := wA_of 1142 rfl rfl
set_option maxRecDepth 100000 in
theorem wd_1143 : (Jvm.Cond.instanceMethod ({ cls := "LateFalls", name := "waitHurt", desc := "(IIII)I" } : Jvm.MethodName)) ∈ wA := wA_of 1143 rfl rfl
set_option maxRecDepth 100000 in
theorem wd_1144 : (Jvm.Cond.selects "LateFalls" ({ cls := "LateFalls", name := "waitHurt", desc := "(IIII)I" } : Jvm.MethodName) ({ cls := "LateFalls", name := "waitHurt", desc := "(IIII)I" } : Jvm.MethodName)) ∈ wA := wA_of 1144 rfl rfl
set_option maxRecDepth 100000 in
theorem wd_1145 : (Jvm.Cond.code ({ cls := "LateFalls", name := "waitHurt", desc := "(IIII)I" } : Jvm.MethodName) prog_1_method_41_code (7 : Nat) (Option.some Jvm.ClassFile.FieldType.int)) ∈ wA := wA_of 1145 rfl rfl
set_option maxRecDepth 100000 in
theorem wd_1146 : (Jvm.Cond.methodLink "LateFallsLaw" (250 : Nat) ({ cls := "LateFallsLaw", name := "place", desc := "(LLateFalls;IZ[J)I" } : Jvm.MethodName)) ∈ wA := wA_of 1146 rfl rfl
set_option maxRecDepth 100000 in
theorem wd_1147 : (Jvm.Cond.static ({ cls := "LateFallsLaw", name := "place", desc := "(LLateFalls;IZ[J)I" } : Jvm.MethodName)) ∈ wA := wA_of 1147 rfl rfl
set_option maxRecDepth 100000 in
theorem wd_1148 : (Jvm.Cond.codeWith ({ cls := "LateFallsLaw", name := "place", desc := "(LLateFalls;IZ[J)I" } : Jvm.MethodName) method_26_code (5 : Nat) (Option.some Jvm.ClassFile.FieldType.int) [((0 : Nat), (10 : Nat), (13 : Nat), (19 : Nat)), ((0 : Nat), (10 : Nat), (17 : Nat), (43 : Nat))]) ∈ wA := wA_of 1148 rfl rfl
set_option maxRecDepth 100000 in
theorem wd_1149 : (Jvm.Cond.methodLink "LateFallsLaw" (88 : Nat) ({ cls := "LateFalls", name := "place", desc := "(IZ)I" } : Jvm.MethodName)) ∈ wA := wA_of 1149 rfl rfl
set_option maxRecDepth 100000 in
theorem wd_1150 : (Jvm.Cond.instanceMethod ({ cls := "LateFalls", name := "place", desc := "(IZ)I" } : Jvm.MethodName)) ∈ wA := wA_of 1150 rfl rfl
set_option maxRecDepth 100000 in
theorem wd_1151 : (Jvm.Cond.selects "LateFalls" ({ cls := "LateFalls", name := "place", desc := "(IZ)I" } : Jvm.MethodName) ({ cls := "LateFalls", name := "place", desc := "(IZ)I" } : Jvm.MethodName)) ∈ wA := wA_of 1151 rfl rfl
set_option maxRecDepth 100000 in
theorem wd_1152 : (Jvm.Cond.code ({ cls := "LateFalls", name := "place", desc := "(IZ)I" } : Jvm.MethodName) prog_1_method_42_code (9 : Nat) (Option.some Jvm.ClassFile.FieldType.int)) ∈ wA := wA_of 1152 rfl rfl
set_option maxRecDepth 100000 in
theorem wd_1153 : (Jvm.Cond.methodLink "LateFallsLaw" (254 : Nat) ({ cls := "LateFallsLaw", name := "worst", desc := "(LLateFalls;II[J)I" } : Jvm.MethodName)) ∈ wA := wA_of 1153 rfl rfl
set_option maxRecDepth 100000 in
theorem wd_1154 : (Jvm.Cond.static ({ cls := "LateFallsLaw", name := "worst", desc := "(LLateFalls;II[J)I" } : Jvm.MethodName)) ∈ wA := wA_of 1154 rfl rfl
set_option maxRecDepth 100000 in
theorem wd_1155 : (Jvm.Cond.codeWith ({ cls := "LateFallsLaw", name := "worst", desc := "(LLateFalls;II[J)I" } : Jvm.MethodName) method_27_code (5 : Nat) (Option.some Jvm.ClassFile.FieldType.int) [((0 : Nat), (10 : Nat), (13 : Nat), (19 : Nat)), ((0 : Nat), (10 : Nat), (17 : Nat), (43 : Nat)), ((0 : Nat), (10 : Nat), (21 : Nat), (13 : Nat))]) ∈ wA := wA_of 1155 rfl rfl
set_option maxRecDepth 100000 in
theorem wd_1156 : (Jvm.Cond.methodLink "LateFallsLaw" (92 : Nat) ({ cls := "LateFalls", name := "worst", desc := "(II)I" } : Jvm.MethodName)) ∈ wA := wA_of 1156 rfl rfl
set_option maxRecDepth 100000 in
theorem wd_1157 : (Jvm.Cond.instanceMethod ({ cls := "LateFalls", name := "worst", desc := "(II)I" } : Jvm.MethodName)) ∈ wA := wA_of 1157 rfl rfl
set_option maxRecDepth 100000 in
theorem wd_1158 : (Jvm.Cond.selects "LateFalls" ({ cls := "LateFalls", name := "worst", desc := "(II)I" } : Jvm.MethodName) ({ cls := "LateFalls", name := "worst", desc := "(II)I" } : Jvm.MethodName)) ∈ wA := wA_of 1158 rfl rfl
set_option maxRecDepth 100000 in
theorem wd_1159 : (Jvm.Cond.code ({ cls := "LateFalls", name := "worst", desc := "(II)I" } : Jvm.MethodName) prog_1_method_43_code (10 : Nat) (Option.some Jvm.ClassFile.FieldType.int)) ∈ wA := wA_of 1159 rfl rfl
set_option maxRecDepth 100000 in
theorem wd_1160 : (Jvm.Cond.methodLink "LateFalls" (336 : Nat) ({ cls := "LateFalls$Scene", name := "weightOf", desc := "(II)I" } : Jvm.MethodName)) ∈ wA := wA_of 1160 rfl rfl
set_option maxRecDepth 100000 in
theorem wd_1161 : (Jvm.Cond.methodLink "LateFallsLaw" (257 : Nat) ({ cls := "LateFallsLaw", name := "both", desc := "(LLateFalls;IIIIII[J)I" } : Jvm.MethodName)) ∈ wA := wA_of 1161 rfl rfl
set_option maxRecDepth 100000 in
theorem wd_1162 : (Jvm.Cond.static ({ cls := "LateFallsLaw", name := "both", desc := "(LLateFalls;IIIIII[J)I" } : Jvm.MethodName)) ∈ wA := wA_of 1162 rfl rfl
set_option maxRecDepth 100000 in
theorem wd_1163 : (Jvm.Cond.codeWith ({ cls := "LateFallsLaw", name := "both", desc := "(LLateFalls;IIIIII[J)I" } : Jvm.MethodName) method_28_code (9 : Nat) (Option.some Jvm.ClassFile.FieldType.int) [((0 : Nat), (18 : Nat), (21 : Nat), (19 : Nat)), ((0 : Nat), (18 : Nat), (25 : Nat), (43 : Nat)), ((0 : Nat), (18 : Nat), (29 : Nat), (13 : Nat))]) ∈ wA := wA_of 1163 rfl rfl
set_option maxRecDepth 100000 in
theorem wd_1164 : (Jvm.Cond.methodLink "LateFallsLaw" (95 : Nat) ({ cls := "LateFalls", name := "both", desc := "(IIIIII)I" } : Jvm.MethodName)) ∈ wA := wA_of 1164 rfl rfl
set_option maxRecDepth 100000 in
theorem wd_1165 : (Jvm.Cond.instanceMethod ({ cls := "LateFalls", name := "both", desc := "(IIIIII)I" } : Jvm.MethodName)) ∈ wA := wA_of 1165 rfl rfl
set_option maxRecDepth 100000 in
theorem wd_1166 : (Jvm.Cond.selects "LateFalls" ({ cls := "LateFalls", name := "both", desc := "(IIIIII)I" } : Jvm.MethodName) ({ cls := "LateFalls", name := "both", desc := "(IIIIII)I" } : Jvm.MethodName)) ∈ wA := wA_of 1166 rfl rfl
set_option maxRecDepth 100000 in
theorem wd_1167 : (Jvm.Cond.code ({ cls := "LateFalls", name := "both", desc := "(IIIIII)I" } : Jvm.MethodName) prog_1_method_44_code (13 : Nat) (Option.some Jvm.ClassFile.FieldType.int)) ∈ wA := wA_of 1167 rfl rfl
set_option maxRecDepth 100000 in
theorem wd_1169 : (Jvm.Cond.methodLink "LateFalls" (341 : Nat) ({ cls := "LateFalls", name := "firstWaitFor", desc := "(I)I" } : Jvm.MethodName)) ∈ wA := wA_of 1169 rfl rfl
set_option maxRecDepth 100000 in
theorem wd_1171 : (Jvm.Cond.instanceMethod ({ cls := "LateFalls", name := "firstWaitFor", desc := "(I)I" } : Jvm.MethodName)) ∈ wA := wA_of 1171 rfl rfl
set_option maxRecDepth 100000 in
theorem wd_1172 : (Jvm.Cond.code ({ cls := "LateFalls", name := "firstWaitFor", desc := "(I)I" } : Jvm.MethodName) prog_1_method_45_code (3 : Nat) (Option.some Jvm.ClassFile.FieldType.int)) ∈ wA := wA_of 1172 rfl rfl
set_option maxRecDepth 100000 in
theorem wd_1173 : (Jvm.Cond.methodLink "LateFallsLaw" (261 : Nat) ({ cls := "LateFallsLaw", name := "safeWay", desc := "(LLateFalls;III[J)I" } : Jvm.MethodName)) ∈ wA := wA_of 1173 rfl rfl
set_option maxRecDepth 100000 in
theorem wd_1174 : (Jvm.Cond.static ({ cls := "LateFallsLaw", name := "safeWay", desc := "(LLateFalls;III[J)I" } : Jvm.MethodName)) ∈ wA := wA_of 1174 rfl rfl
set_option maxRecDepth 100000 in
theorem wd_1175 : (Jvm.Cond.codeWith ({ cls := "LateFallsLaw", name := "safeWay", desc := "(LLateFalls;III[J)I" } : Jvm.MethodName) method_29_code (6 : Nat) (Option.some Jvm.ClassFile.FieldType.int) [((0 : Nat), (12 : Nat), (15 : Nat), (19 : Nat)), ((0 : Nat), (12 : Nat), (19 : Nat), (13 : Nat))]) ∈ wA := wA_of 1175 rfl rfl
set_option maxRecDepth 100000 in
theorem wd_1176 : (Jvm.Cond.methodLink "LateFallsLaw" (99 : Nat) ({ cls := "LateFalls", name := "safeWay", desc := "(III)I" } : Jvm.MethodName)) ∈ wA := wA_of 1176 rfl rfl
set_option maxRecDepth 100000 in
theorem wd_1177 : (Jvm.Cond.instanceMethod ({ cls := "LateFalls", name := "safeWay", desc := "(III)I" } : Jvm.MethodName)) ∈ wA := wA_of 1177 rfl rfl
set_option maxRecDepth 100000 in
theorem wd_1178 : (Jvm.Cond.selects "LateFalls" ({ cls := "LateFalls", name := "safeWay", desc := "(III)I" } : Jvm.MethodName) ({ cls := "LateFalls", name := "safeWay", desc := "(III)I" } : Jvm.MethodName)) ∈ wA := wA_of 1178 rfl rfl
set_option maxRecDepth 100000 in
theorem wd_1179 : (Jvm.Cond.code ({ cls := "LateFalls", name := "safeWay", desc := "(III)I" } : Jvm.MethodName) prog_1_method_48_code (5 : Nat) (Option.some Jvm.ClassFile.FieldType.int)) ∈ wA := wA_of 1179 rfl rfl
set_option maxRecDepth 100000 in
theorem wd_1180 : (Jvm.Cond.methodLink "LateFalls" (346 : Nat) ({ cls := "LateFalls$Ways", name := "look", desc := "(LLateFalls$Forecast;I)V" } : Jvm.MethodName)) ∈ wA := wA_of 1180 rfl rfl
set_option maxRecDepth 100000 in
theorem wd_1181 : (Jvm.Cond.instanceMethod ({ cls := "LateFalls$Ways", name := "look", desc := "(LLateFalls$Forecast;I)V" } : Jvm.MethodName)) ∈ wA := wA_of 1181 rfl rfl
set_option maxRecDepth 100000 in
theorem wd_1182 : (Jvm.Cond.selects "LateFalls$Ways" ({ cls := "LateFalls$Ways", name := "look", desc := "(LLateFalls$Forecast;I)V" } : Jvm.MethodName) ({ cls := "LateFalls$Ways", name := "look", desc := "(LLateFalls$Forecast;I)V" } : Jvm.MethodName)) ∈ wA := wA_of 1182 rfl rfl
set_option maxRecDepth 100000 in
theorem wd_1183 : (Jvm.Cond.code ({ cls := "LateFalls$Ways", name := "look", desc := "(LLateFalls$Forecast;I)V" } : Jvm.MethodName) prog_11_method_2_code (7 : Nat) (Option.none : Option Jvm.ClassFile.FieldType)) ∈ wA := wA_of 1183 rfl rfl
set_option maxRecDepth 100000 in
theorem wd_1184 : (Jvm.Cond.methodLink "LateFalls$Ways" (55 : Nat) ({ cls := "LateFalls$Forecast", name := "weightIn", desc := "(II)I" } : Jvm.MethodName)) ∈ wA := wA_of 1184 rfl rfl
set_option maxRecDepth 100000 in
theorem wd_1185 : (Jvm.Cond.methodLink "LateFalls$Ways" (59 : Nat) ({ cls := "LateFalls$Ways", name := "near", desc := "(I)I" } : Jvm.MethodName)) ∈ wA := wA_of 1185 rfl rfl
set_option maxRecDepth 100000 in
theorem wd_1187 : (Jvm.Cond.instanceMethod ({ cls := "LateFalls$Ways", name := "near", desc := "(I)I" } : Jvm.MethodName)) ∈ wA := wA_of 1187 rfl rfl
set_option maxRecDepth 100000 in
theorem wd_1188 : (Jvm.Cond.code ({ cls := "LateFalls$Ways", name := "near", desc := "(I)I" } : Jvm.MethodName) prog_11_method_3_code (2 : Nat) (Option.some Jvm.ClassFile.FieldType.int)) ∈ wA := wA_of 1188 rfl rfl
set_option maxRecDepth 100000 in
theorem wd_1189 : (Jvm.Cond.methodLink "LateFalls" (349 : Nat) ({ cls := "LateFalls$Ways", name := "soonest", desc := "(I)I" } : Jvm.MethodName)) ∈ wA := wA_of 1189 rfl rfl
set_option maxRecDepth 100000 in
theorem wd_1190 : (Jvm.Cond.instanceMethod ({ cls := "LateFalls$Ways", name := "soonest", desc := "(I)I" } : Jvm.MethodName)) ∈ wA := wA_of 1190 rfl rfl
set_option maxRecDepth 100000 in
theorem wd_1191 : (Jvm.Cond.selects "LateFalls$Ways" ({ cls := "LateFalls$Ways", name := "soonest", desc := "(I)I" } : Jvm.MethodName) ({ cls := "LateFalls$Ways", name := "soonest", desc := "(I)I" } : Jvm.MethodName)) ∈ wA := wA_of 1191 rfl rfl
set_option maxRecDepth 100000 in
theorem wd_1192 : (Jvm.Cond.code ({ cls := "LateFalls$Ways", name := "soonest", desc := "(I)I" } : Jvm.MethodName) prog_11_method_4_code (3 : Nat) (Option.some Jvm.ClassFile.FieldType.int)) ∈ wA := wA_of 1192 rfl rfl
set_option maxRecDepth 100000 in
theorem wd_1193 : (Jvm.Cond.methodLink "LateFalls" (352 : Nat) ({ cls := "LateFalls$Ways", name := "columnOnWay", desc := "(IIII)I" } : Jvm.MethodName)) ∈ wA := wA_of 1193 rfl rfl
set_option maxRecDepth 100000 in
theorem wd_1194 : (Jvm.Cond.instanceMethod ({ cls := "LateFalls$Ways", name := "columnOnWay", desc := "(IIII)I" } : Jvm.MethodName)) ∈ wA := wA_of 1194 rfl rfl
set_option maxRecDepth 100000 in
theorem wd_1195 : (Jvm.Cond.selects "LateFalls$Ways" ({ cls := "LateFalls$Ways", name := "columnOnWay", desc := "(IIII)I" } : Jvm.MethodName) ({ cls := "LateFalls$Ways", name := "columnOnWay", desc := "(IIII)I" } : Jvm.MethodName)) ∈ wA := wA_of 1195 rfl rfl
set_option maxRecDepth 100000 in
theorem wd_1196 : (Jvm.Cond.code ({ cls := "LateFalls$Ways", name := "columnOnWay", desc := "(IIII)I" } : Jvm.MethodName) prog_11_method_5_code (7 : Nat) (Option.some Jvm.ClassFile.FieldType.int)) ∈ wA := wA_of 1196 rfl rfl
set_option maxRecDepth 100000 in
theorem wd_1197 : (Jvm.Cond.methodLink "LateFalls$Ways" (63 : Nat) ({ cls := "java/lang/Integer", name := "numberOfTrailingZeros", desc := "(I)I" } : Jvm.MethodName)) ∈ wA := wA_of 1197 rfl rfl
set_option maxRecDepth 100000 in
theorem wd_1198 : (Jvm.Cond.static ({ cls := "java/lang/Integer", name := "numberOfTrailingZeros", desc := "(I)I" } : Jvm.MethodName)) ∈ wA := wA_of 1198 rfl rfl
set_option maxRecDepth 100000 in
theorem wd_1199 : (Jvm.Cond.code ({ cls := "java/lang/Integer", name := "numberOfTrailingZeros", desc := "(I)I" } : Jvm.MethodName) prog_22_method_48_code (2 : Nat) (Option.some Jvm.ClassFile.FieldType.int)) ∈ wA := wA_of 1199 rfl rfl
set_option maxRecDepth 100000 in
theorem wd_1200 : (Jvm.Cond.constant "java/lang/Integer" (264 : Nat) (65536 : Int32)) ∈ wA := wA_of 1200 rfl rfl
set_option maxRecDepth 100000 in
theorem wd_1201 : (Jvm.Cond.methodLink "LateFallsLaw" (264 : Nat) ({ cls := "LateFallsLaw", name := "safeWays", desc := "(LLateFalls;III[J)I" } : Jvm.MethodName)) ∈ wA := wA_of 1201 rfl rfl
set_option maxRecDepth 100000 in
theorem wd_1202 : (Jvm.Cond.static ({ cls := "LateFallsLaw", name := "safeWays", desc := "(LLateFalls;III[J)I" } : Jvm.MethodName)) ∈ wA := wA_of 1202 rfl rfl
set_option maxRecDepth 100000 in
theorem wd_1203 : (Jvm.Cond.codeWith ({ cls := "LateFallsLaw", name := "safeWays", desc := "(LLateFalls;III[J)I" } : Jvm.MethodName) method_30_code (6 : Nat) (Option.some Jvm.ClassFile.FieldType.int) [((0 : Nat), (11 : Nat), (14 : Nat), (19 : Nat)), ((0 : Nat), (11 : Nat), (18 : Nat), (13 : Nat))]) ∈ wA := wA_of 1203 rfl rfl
set_option maxRecDepth 100000 in
theorem wd_1204 : (Jvm.Cond.methodLink "LateFallsLaw" (102 : Nat) ({ cls := "LateFalls", name := "safeWays", desc := "(III)J" } : Jvm.MethodName)) ∈ wA := wA_of 1204 rfl rfl
set_option maxRecDepth 100000 in
theorem wd_1205 : (Jvm.Cond.instanceMethod ({ cls := "LateFalls", name := "safeWays", desc := "(III)J" } : Jvm.MethodName)) ∈ wA := wA_of 1205 rfl rfl
set_option maxRecDepth 100000 in
theorem wd_1206 : (Jvm.Cond.selects "LateFalls" ({ cls := "LateFalls", name := "safeWays", desc := "(III)J" } : Jvm.MethodName) ({ cls := "LateFalls", name := "safeWays", desc := "(III)J" } : Jvm.MethodName)) ∈ wA := wA_of 1206 rfl rfl
set_option maxRecDepth 100000 in
theorem wd_1207 : (Jvm.Cond.code ({ cls := "LateFalls", name := "safeWays", desc := "(III)J" } : Jvm.MethodName) prog_1_method_49_code (4 : Nat) (Option.some Jvm.ClassFile.FieldType.long)) ∈ wA := wA_of 1207 rfl rfl
set_option maxRecDepth 100000 in
theorem wd_1208 : (Jvm.Cond.methodLink "LateFalls" (356 : Nat) ({ cls := "LateFalls$Ways", name := "howMany", desc := "(III)J" } : Jvm.MethodName)) ∈ wA := wA_of 1208 rfl rfl
set_option maxRecDepth 100000 in
theorem wd_1209 : (Jvm.Cond.instanceMethod ({ cls := "LateFalls$Ways", name := "howMany", desc := "(III)J" } : Jvm.MethodName)) ∈ wA := wA_of 1209 rfl rfl
set_option maxRecDepth 100000 in
theorem wd_1210 : (Jvm.Cond.selects "LateFalls$Ways" ({ cls := "LateFalls$Ways", name := "howMany", desc := "(III)J" } : Jvm.MethodName) ({ cls := "LateFalls$Ways", name := "howMany", desc := "(III)J" } : Jvm.MethodName)) ∈ wA := wA_of 1210 rfl rfl
set_option maxRecDepth 100000 in
theorem wd_1211 : (Jvm.Cond.code ({ cls := "LateFalls$Ways", name := "howMany", desc := "(III)J" } : Jvm.MethodName) prog_11_method_6_code (7 : Nat) (Option.some Jvm.ClassFile.FieldType.long)) ∈ wA := wA_of 1211 rfl rfl
set_option maxRecDepth 100000 in
theorem wd_1212 : (Jvm.Cond.methodLink "LateFalls$Ways" (68 : Nat) ({ cls := "java/lang/System", name := "arraycopy", desc := "(Ljava/lang/Object;ILjava/lang/Object;II)V" } : Jvm.MethodName)) ∈ wA := wA_of 1212 rfl rfl
set_option maxRecDepth 100000 in
theorem wd_1213 : (Jvm.Cond.methodLink "LateFalls$Ways" (74 : Nat) ({ cls := "LateFalls$Ways", name := "beside", desc := "(I)J" } : Jvm.MethodName)) ∈ wA := wA_of 1213 rfl rfl
set_option maxRecDepth 100000 in
theorem wd_1215 : (Jvm.Cond.instanceMethod ({ cls := "LateFalls$Ways", name := "beside", desc := "(I)J" } : Jvm.MethodName)) ∈ wA := wA_of 1215 rfl rfl
set_option maxRecDepth 100000 in
theorem wd_1216 : (Jvm.Cond.code ({ cls := "LateFalls$Ways", name := "beside", desc := "(I)J" } : Jvm.MethodName) prog_11_method_7_code (2 : Nat) (Option.some Jvm.ClassFile.FieldType.long)) ∈ wA := wA_of 1216 rfl rfl
set_option maxRecDepth 100000 in
theorem wd_1217 : (Jvm.Cond.methodLink "LateFallsLaw" (267 : Nat) ({ cls := "LateFallsLaw", name := "safeIn", desc := "(LLateFalls;II[J)I" } : Jvm.MethodName)) ∈ wA := wA_of 1217 rfl rfl
set_option maxRecDepth 100000 in
theorem wd_1218 : (Jvm.Cond.static ({ cls := "LateFallsLaw", name := "safeIn", desc := "(LLateFalls;II[J)I" } : Jvm.MethodName)) ∈ wA := wA_of 1218 rfl rfl
set_option maxRecDepth 100000 in
theorem wd_1219 : (Jvm.Cond.codeWith ({ cls := "LateFallsLaw", name := "safeIn", desc := "(LLateFalls;II[J)I" } : Jvm.MethodName) method_31_code (5 : Nat) (Option.some Jvm.ClassFile.FieldType.int) [((0 : Nat), (10 : Nat), (13 : Nat), (19 : Nat)), ((0 : Nat), (10 : Nat), (17 : Nat), (13 : Nat))]) ∈ wA := wA_of 1219 rfl rfl
set_option maxRecDepth 100000 in
theorem wd_1220 : (Jvm.Cond.methodLink "LateFallsLaw" (106 : Nat) ({ cls := "LateFalls", name := "safeIn", desc := "(II)I" } : Jvm.MethodName)) ∈ wA := wA_of 1220 rfl rfl
set_option maxRecDepth 100000 in
theorem wd_1221 : (Jvm.Cond.instanceMethod ({ cls := "LateFalls", name := "safeIn", desc := "(II)I" } : Jvm.MethodName)) ∈ wA := wA_of 1221 rfl rfl
set_option maxRecDepth 100000 in
theorem wd_1222 : (Jvm.Cond.selects "LateFalls" ({ cls := "LateFalls", name := "safeIn", desc := "(II)I" } : Jvm.MethodName) ({ cls := "LateFalls", name := "safeIn", desc := "(II)I" } : Jvm.MethodName)) ∈ wA := wA_of 1222 rfl rfl
set_option maxRecDepth 100000 in
theorem wd_1223 : (Jvm.Cond.code ({ cls := "LateFalls", name := "safeIn", desc := "(II)I" } : Jvm.MethodName) prog_1_method_50_code (3 : Nat) (Option.some Jvm.ClassFile.FieldType.int)) ∈ wA := wA_of 1223 rfl rfl
set_option maxRecDepth 100000 in
theorem wd_1224 : (Jvm.Cond.methodLink "LateFallsLaw" (274 : Nat) ({ cls := "LateFallsLaw", name := "later", desc := "(LLateFalls;II[J)I" } : Jvm.MethodName)) ∈ wA := wA_of 1224 rfl rfl
set_option maxRecDepth 100000 in
theorem wd_1225 : (Jvm.Cond.static ({ cls := "LateFallsLaw", name := "later", desc := "(LLateFalls;II[J)I" } : Jvm.MethodName)) ∈ wA := wA_of 1225 rfl rfl
set_option maxRecDepth 100000 in
theorem wd_1226 : (Jvm.Cond.codeWith ({ cls := "LateFallsLaw", name := "later", desc := "(LLateFalls;II[J)I" } : Jvm.MethodName) method_32_code (5 : Nat) (Option.some Jvm.ClassFile.FieldType.int) [((0 : Nat), (10 : Nat), (13 : Nat), (19 : Nat)), ((0 : Nat), (10 : Nat), (17 : Nat), (13 : Nat))]) ∈ wA := wA_of 1226 rfl rfl
set_option maxRecDepth 100000 in
theorem wd_1227 : (Jvm.Cond.methodLink "LateFallsLaw" (109 : Nat) ({ cls := "LateFalls", name := "later", desc := "(II)I" } : Jvm.MethodName)) ∈ wA := wA_of 1227 rfl rfl
set_option maxRecDepth 100000 in
theorem wd_1228 : (Jvm.Cond.instanceMethod ({ cls := "LateFalls", name := "later", desc := "(II)I" } : Jvm.MethodName)) ∈ wA := wA_of 1228 rfl rfl
set_option maxRecDepth 100000 in
theorem wd_1229 : (Jvm.Cond.selects "LateFalls" ({ cls := "LateFalls", name := "later", desc := "(II)I" } : Jvm.MethodName) ({ cls := "LateFalls", name := "later", desc := "(II)I" } : Jvm.MethodName)) ∈ wA := wA_of 1229 rfl rfl
set_option maxRecDepth 100000 in
theorem wd_1230 : (Jvm.Cond.code ({ cls := "LateFalls", name := "later", desc := "(II)I" } : Jvm.MethodName) prog_1_method_52_code (3 : Nat) (Option.some Jvm.ClassFile.FieldType.int)) ∈ wA := wA_of 1230 rfl rfl
set_option maxRecDepth 100000 in
theorem wd_1231 : (Jvm.Cond.methodLink "LateFallsLaw" (277 : Nat) ({ cls := "LateFallsLaw", name := "letGoBy", desc := "(LLateFalls;III[J)I" } : Jvm.MethodName)) ∈ wA := wA_of 1231 rfl rfl
set_option maxRecDepth 100000 in
theorem wd_1232 : (Jvm.Cond.static ({ cls := "LateFallsLaw", name := "letGoBy", desc := "(LLateFalls;III[J)I" } : Jvm.MethodName)) ∈ wA := wA_of 1232 rfl rfl
set_option maxRecDepth 100000 in
theorem wd_1233 : (Jvm.Cond.codeWith ({ cls := "LateFallsLaw", name := "letGoBy", desc := "(LLateFalls;III[J)I" } : Jvm.MethodName) method_33_code (6 : Nat) (Option.some Jvm.ClassFile.FieldType.int) [((0 : Nat), (12 : Nat), (15 : Nat), (19 : Nat)), ((0 : Nat), (12 : Nat), (19 : Nat), (13 : Nat))]) ∈ wA := wA_of 1233 rfl rfl
set_option maxRecDepth 100000 in
theorem wd_1234 : (Jvm.Cond.methodLink "LateFallsLaw" (112 : Nat) ({ cls := "LateFalls", name := "letGoBy", desc := "(III)I" } : Jvm.MethodName)) ∈ wA := wA_of 1234 rfl rfl
set_option maxRecDepth 100000 in
theorem wd_1235 : (Jvm.Cond.instanceMethod ({ cls := "LateFalls", name := "letGoBy", desc := "(III)I" } : Jvm.MethodName)) ∈ wA := wA_of 1235 rfl rfl
set_option maxRecDepth 100000 in
theorem wd_1236 : (Jvm.Cond.selects "LateFalls" ({ cls := "LateFalls", name := "letGoBy", desc := "(III)I" } : Jvm.MethodName) ({ cls := "LateFalls", name := "letGoBy", desc := "(III)I" } : Jvm.MethodName)) ∈ wA := wA_of 1236 rfl rfl
set_option maxRecDepth 100000 in
theorem wd_1237 : (Jvm.Cond.code ({ cls := "LateFalls", name := "letGoBy", desc := "(III)I" } : Jvm.MethodName) prog_1_method_53_code (7 : Nat) (Option.some Jvm.ClassFile.FieldType.int)) ∈ wA := wA_of 1237 rfl rfl
set_option maxRecDepth 100000 in
theorem wd_1238 : (Jvm.Cond.methodLink "LateFalls" (368 : Nat) ({ cls := "LateFalls", name := "isLetGoBy", desc := "(IIIII)Z" } : Jvm.MethodName)) ∈ wA := wA_of 1238 rfl rfl
set_option maxRecDepth 100000 in
theorem wd_1240 : (Jvm.Cond.instanceMethod ({ cls := "LateFalls", name := "isLetGoBy", desc := "(IIIII)Z" } : Jvm.MethodName)) ∈ wA := wA_of 1240 rfl rfl
set_option maxRecDepth 100000 in
theorem wd_1241 : (Jvm.Cond.code ({ cls := "LateFalls", name := "isLetGoBy", desc := "(IIIII)Z" } : Jvm.MethodName) prog_1_method_56_code (6 : Nat) (Option.some Jvm.ClassFile.FieldType.boolean)) ∈ wA := wA_of 1241 rfl rfl
set_option maxRecDepth 100000 in
theorem wd_1242 : (Jvm.Cond.methodLink "LateFallsLaw" (280 : Nat) ({ cls := "LateFallsLaw", name := "letGoAt", desc := "(LLateFalls;IIII[J)I" } : Jvm.MethodName)) ∈ wA := wA_of 1242 rfl rfl
set_option maxRecDepth 100000 in
theorem wd_1243 : (Jvm.Cond.static ({ cls := "LateFallsLaw", name := "letGoAt", desc := "(LLateFalls;IIII[J)I" } : Jvm.MethodName)) ∈ wA := wA_of 1243 rfl rfl
set_option maxRecDepth 100000 in
theorem wd_1244 : (Jvm.Cond.codeWith ({ cls := "LateFallsLaw", name := "letGoAt", desc := "(LLateFalls;IIII[J)I" } : Jvm.MethodName) method_34_code (7 : Nat) (Option.some Jvm.ClassFile.FieldType.int) [((0 : Nat), (14 : Nat), (17 : Nat), (19 : Nat)), ((0 : Nat), (14 : Nat), (21 : Nat), (13 : Nat))]) ∈ wA := wA_of 1244 rfl rfl
set_option maxRecDepth 100000 in
theorem wd_1245 : (Jvm.Cond.methodLink "LateFallsLaw" (115 : Nat) ({ cls := "LateFalls", name := "letGoAt", desc := "(IIII)I" } : Jvm.MethodName)) ∈ wA := wA_of 1245 rfl rfl
set_option maxRecDepth 100000 in
theorem wd_1246 : (Jvm.Cond.instanceMethod ({ cls := "LateFalls", name := "letGoAt", desc := "(IIII)I" } : Jvm.MethodName)) ∈ wA := wA_of 1246 rfl rfl
set_option maxRecDepth 100000 in
theorem wd_1247 : (Jvm.Cond.selects "LateFalls" ({ cls := "LateFalls", name := "letGoAt", desc := "(IIII)I" } : Jvm.MethodName) ({ cls := "LateFalls", name := "letGoAt", desc := "(IIII)I" } : Jvm.MethodName)) ∈ wA := wA_of 1247 rfl rfl
set_option maxRecDepth 100000 in
theorem wd_1248 : (Jvm.Cond.code ({ cls := "LateFalls", name := "letGoAt", desc := "(IIII)I" } : Jvm.MethodName) prog_1_method_54_code (8 : Nat) (Option.some Jvm.ClassFile.FieldType.int)) ∈ wA := wA_of 1248 rfl rfl
set_option maxRecDepth 100000 in
theorem wd_1249 : (Jvm.Cond.constant "LateFalls" (372 : Nat) (2147483647 : Int32)) ∈ wA := wA_of 1249 rfl rfl
set_option maxRecDepth 100000 in
theorem wd_1250 : (Jvm.Cond.methodLink "LateFallsLaw" (283 : Nat) ({ cls := "LateFallsLaw", name := "levels", desc := "(LLateFalls;IIII[J)I" } : Jvm.MethodName)) ∈ wA := wA_of 1250 rfl rfl
set_option maxRecDepth 100000 in
theorem wd_1251 : (Jvm.Cond.static ({ cls := "LateFallsLaw", name := "levels", desc := "(LLateFalls;IIII[J)I" } : Jvm.MethodName)) ∈ wA := wA_of 1251 rfl rfl
set_option maxRecDepth 100000 in
theorem wd_1252 : (Jvm.Cond.codeWith ({ cls := "LateFallsLaw", name := "levels", desc := "(LLateFalls;IIII[J)I" } : Jvm.MethodName) method_35_code (7 : Nat) (Option.some Jvm.ClassFile.FieldType.int) [((0 : Nat), (14 : Nat), (17 : Nat), (19 : Nat)), ((0 : Nat), (14 : Nat), (21 : Nat), (13 : Nat))]) ∈ wA := wA_of 1252 rfl rfl
set_option maxRecDepth 100000 in
theorem wd_1253 : (Jvm.Cond.methodLink "LateFallsLaw" (118 : Nat) ({ cls := "LateFalls", name := "levels", desc := "(IIII)I" } : Jvm.MethodName)) ∈ wA := wA_of 1253 rfl rfl
set_option maxRecDepth 100000 in
theorem wd_1254 : (Jvm.Cond.instanceMethod ({ cls := "LateFalls", name := "levels", desc := "(IIII)I" } : Jvm.MethodName)) ∈ wA := wA_of 1254 rfl rfl
set_option maxRecDepth 100000 in
theorem wd_1255 : (Jvm.Cond.selects "LateFalls" ({ cls := "LateFalls", name := "levels", desc := "(IIII)I" } : Jvm.MethodName) ({ cls := "LateFalls", name := "levels", desc := "(IIII)I" } : Jvm.MethodName)) ∈ wA := wA_of 1255 rfl rfl
set_option maxRecDepth 100000 in
theorem wd_1256 : (Jvm.Cond.code ({ cls := "LateFalls", name := "levels", desc := "(IIII)I" } : Jvm.MethodName) prog_1_method_55_code (7 : Nat) (Option.some Jvm.ClassFile.FieldType.int)) ∈ wA := wA_of 1256 rfl rfl
set_option maxRecDepth 100000 in
theorem wd_1257 : (Jvm.Cond.methodLink "LateFallsLaw" (286 : Nat) ({ cls := "LateFallsLaw", name := "tray", desc := "(LLateFalls;III)I" } : Jvm.MethodName)) ∈ wA := wA_of 1257 rfl rfl
set_option maxRecDepth 100000 in
theorem wd_1258 : (Jvm.Cond.static ({ cls := "LateFallsLaw", name := "tray", desc := "(LLateFalls;III)I" } : Jvm.MethodName)) ∈ wA := wA_of 1258 rfl rfl
set_option maxRecDepth 100000 in
theorem wd_1259 : (Jvm.Cond.codeWith ({ cls := "LateFallsLaw", name := "tray", desc := "(LLateFalls;III)I" } : Jvm.MethodName) method_36_code (5 : Nat) (Option.some Jvm.ClassFile.FieldType.int) [((0 : Nat), (7 : Nat), (10 : Nat), (19 : Nat)), ((0 : Nat), (7 : Nat), (14 : Nat), (13 : Nat))]) ∈ wA := wA_of 1259 rfl rfl
set_option maxRecDepth 100000 in
theorem wd_1260 : (Jvm.Cond.methodLink "LateFallsLaw" (121 : Nat) ({ cls := "LateFalls", name := "tray", desc := "(III)V" } : Jvm.MethodName)) ∈ wA := wA_of 1260 rfl rfl
set_option maxRecDepth 100000 in
theorem wd_1261 : (Jvm.Cond.instanceMethod ({ cls := "LateFalls", name := "tray", desc := "(III)V" } : Jvm.MethodName)) ∈ wA := wA_of 1261 rfl rfl
set_option maxRecDepth 100000 in
theorem wd_1262 : (Jvm.Cond.selects "LateFalls" ({ cls := "LateFalls", name := "tray", desc := "(III)V" } : Jvm.MethodName) ({ cls := "LateFalls", name := "tray", desc := "(III)V" } : Jvm.MethodName)) ∈ wA := wA_of 1262 rfl rfl
set_option maxRecDepth 100000 in
theorem wd_1263 : (Jvm.Cond.code ({ cls := "LateFalls", name := "tray", desc := "(III)V" } : Jvm.MethodName) prog_1_method_57_code (5 : Nat) (Option.none : Option Jvm.ClassFile.FieldType)) ∈ wA := wA_of 1263 rfl rfl
set_option maxRecDepth 100000 in
theorem wd_1265 : (Jvm.Cond.methodLink "LateFalls" (378 : Nat) ({ cls := "LateFalls$Tray", name := "lay", desc := "(II)V" } : Jvm.MethodName)) ∈ wA := wA_of 1265 rfl rfl
set_option maxRecDepth 100000 in
theorem wd_1266 : (Jvm.Cond.instanceMethod ({ cls := "LateFalls$Tray", name := "lay", desc := "(II)V" } : Jvm.MethodName)) ∈ wA := wA_of 1266 rfl rfl
set_option maxRecDepth 100000 in
theorem wd_1267 : (Jvm.Cond.selects "LateFalls$Tray" ({ cls := "LateFalls$Tray", name := "lay", desc := "(II)V" } : Jvm.MethodName) ({ cls := "LateFalls$Tray", name := "lay", desc := "(II)V" } : Jvm.MethodName)) ∈ wA := wA_of 1267 rfl rfl
set_option maxRecDepth 100000 in
theorem wd_1268 : (Jvm.Cond.code ({ cls := "LateFalls$Tray", name := "lay", desc := "(II)V" } : Jvm.MethodName) prog_10_method_2_code (4 : Nat) (Option.none : Option Jvm.ClassFile.FieldType)) ∈ wA := wA_of 1268 rfl rfl
set_option maxRecDepth 100000 in
theorem wd_1269 : (Jvm.Cond.methodLink "LateFallsLaw" (295 : Nat) ({ cls := "LateFallsLaw", name := "write", desc := "(LLateFalls;IIJ[J)I" } : Jvm.MethodName)) ∈ wA := wA_of 1269 rfl rfl
set_option maxRecDepth 100000 in
theorem wd_1270 : (Jvm.Cond.static ({ cls := "LateFallsLaw", name := "write", desc := "(LLateFalls;IIJ[J)I" } : Jvm.MethodName)) ∈ wA := wA_of 1270 rfl rfl
set_option maxRecDepth 100000 in
theorem wd_1271 : (Jvm.Cond.codeWith ({ cls := "LateFallsLaw", name := "write", desc := "(LLateFalls;IIJ[J)I" } : Jvm.MethodName) method_37_code (7 : Nat) (Option.some Jvm.ClassFile.FieldType.int) [((0 : Nat), (11 : Nat), (14 : Nat), (19 : Nat)), ((0 : Nat), (11 : Nat), (18 : Nat), (43 : Nat)), ((0 : Nat), (11 : Nat), (22 : Nat), (129 : Nat))]) ∈ wA := wA_of 1271 rfl rfl
set_option maxRecDepth 100000 in
theorem wd_1272 : (Jvm.Cond.classLink "LateFallsLaw" (129 : Nat) "java/lang/IndexOutOfBoundsException") ∈ wA := wA_of 1272 rfl rfl
set_option maxRecDepth 100000 in
theorem wd_1273 : (Jvm.Cond.methodLink "LateFallsLaw" (125 : Nat) ({ cls := "LateFalls", name := "write", desc := "(IIJ)J" } : Jvm.MethodName)) ∈ wA := wA_of 1273 rfl rfl
set_option maxRecDepth 100000 in
theorem wd_1274 : (Jvm.Cond.instanceMethod ({ cls := "LateFalls", name := "write", desc := "(IIJ)J" } : Jvm.MethodName)) ∈ wA := wA_of 1274 rfl rfl
set_option maxRecDepth 100000 in
theorem wd_1275 : (Jvm.Cond.selects "LateFalls" ({ cls := "LateFalls", name := "write", desc := "(IIJ)J" } : Jvm.MethodName) ({ cls := "LateFalls", name := "write", desc := "(IIJ)J" } : Jvm.MethodName)) ∈ wA := wA_of 1275 rfl rfl
set_option maxRecDepth 100000 in
theorem wd_1276 : (Jvm.Cond.code ({ cls := "LateFalls", name := "write", desc := "(IIJ)J" } : Jvm.MethodName) prog_1_method_58_code (6 : Nat) (Option.some Jvm.ClassFile.FieldType.long)) ∈ wA := wA_of 1276 rfl rfl
set_option maxRecDepth 100000 in
theorem wd_1277 : (Jvm.Cond.classLink "LateFalls" (381 : Nat) "java/lang/IndexOutOfBoundsException") ∈ wA := wA_of 1277 rfl rfl
set_option maxRecDepth 100000 in
theorem wd_1278 : (Jvm.Cond.instantiable "java/lang/IndexOutOfBoundsException" (6 : Nat)) ∈ wA := wA_of 1278 rfl rfl
set_option maxRecDepth 100000 in
theorem wd_1280 : (Jvm.Cond.selects "java/lang/IndexOutOfBoundsException" ({ cls := "java/lang/Throwable", name := "fillInStackTrace", desc := "(I)Ljava/lang/Throwable;" } : Jvm.MethodName) ({ cls := "java/lang/Throwable", name := "fillInStackTrace", desc := "(I)Ljava/lang/Throwable;" } : Jvm.MethodName)) ∈ wA := wA_of 1280 rfl rfl
set_option maxRecDepth 100000 in
theorem wd_1281 : (Jvm.Cond.lays "java/lang/IndexOutOfBoundsException" "java/lang/Throwable" "cause" "Ljava/lang/Throwable;") ∈ wA := wA_of 1281 rfl rfl
set_option maxRecDepth 100000 in
theorem wd_1282 : (Jvm.Cond.lays "java/lang/IndexOutOfBoundsException" "java/lang/Throwable" "stackTrace" "[Ljava/lang/StackTraceElement;") ∈ wA := wA_of 1282 rfl rfl
set_option maxRecDepth 100000 in
theorem wd_1283 : (Jvm.Cond.lays "java/lang/IndexOutOfBoundsException" "java/lang/Throwable" "suppressedExceptions" "Ljava/util/List;") ∈ wA := wA_of 1283 rfl rfl
set_option maxRecDepth 100000 in
theorem wd_1284 : (Jvm.Cond.lays "java/lang/IndexOutOfBoundsException" "java/lang/Throwable" "detailMessage" "Ljava/lang/String;") ∈ wA := wA_of 1284 rfl rfl
set_option maxRecDepth 100000 in
theorem wd_1285 : (Jvm.Cond.lays "java/lang/IndexOutOfBoundsException" "java/lang/Throwable" "backtrace" "Ljava/lang/Object;") ∈ wA := wA_of 1285 rfl rfl
set_option maxRecDepth 100000 in
theorem wd_1286 : (Jvm.Cond.methodLink "LateFalls" (383 : Nat) ({ cls := "java/lang/IndexOutOfBoundsException", name := "<init>", desc := "(Ljava/lang/String;)V" } : Jvm.MethodName)) ∈ wA := wA_of 1286 rfl rfl
set_option maxRecDepth 100000 in
theorem wd_1287 : (Jvm.Cond.instanceMethod ({ cls := "java/lang/IndexOutOfBoundsException", name := "<init>", desc := "(Ljava/lang/String;)V" } : Jvm.MethodName)) ∈ wA := wA_of 1287 rfl rfl
set_option maxRecDepth 100000 in
theorem wd_1288 : (Jvm.Cond.code ({ cls := "java/lang/IndexOutOfBoundsException", name := "<init>", desc := "(Ljava/lang/String;)V" } : Jvm.MethodName) prog_21_method_2_code (2 : Nat) (Option.none : Option Jvm.ClassFile.FieldType)) ∈ wA := wA_of 1288 rfl rfl
set_option maxRecDepth 100000 in
theorem wd_1289 : (Jvm.Cond.methodLink "java/lang/IndexOutOfBoundsException" (7 : Nat) ({ cls := "java/lang/RuntimeException", name := "<init>", desc := "(Ljava/lang/String;)V" } : Jvm.MethodName)) ∈ wA := wA_of 1289 rfl rfl
set_option maxRecDepth 100000 in
theorem wd_1290 : (Jvm.Cond.lays "java/lang/IndexOutOfBoundsException" "java/lang/Throwable" "depth" "I") ∈ wA := wA_of 1290 rfl rfl
set_option maxRecDepth 100000 in
theorem wd_1292 : (Jvm.Cond.methodLink "LateFalls" (384 : Nat) ({ cls := "LateFalls$Tray", name := "put", desc := "(IJ)J" } : Jvm.MethodName)) ∈ wA := wA_of 1292 rfl rfl
set_option maxRecDepth 100000 in
theorem wd_1293 : (Jvm.Cond.instanceMethod ({ cls := "LateFalls$Tray", name := "put", desc := "(IJ)J" } : Jvm.MethodName)) ∈ wA := wA_of 1293 rfl rfl
set_option maxRecDepth 100000 in
theorem wd_1294 : (Jvm.Cond.selects "LateFalls$Tray" ({ cls := "LateFalls$Tray", name := "put", desc := "(IJ)J" } : Jvm.MethodName) ({ cls := "LateFalls$Tray", name := "put", desc := "(IJ)J" } : Jvm.MethodName)) ∈ wA := wA_of 1294 rfl rfl
set_option maxRecDepth 100000 in
theorem wd_1295 : (Jvm.Cond.code ({ cls := "LateFalls$Tray", name := "put", desc := "(IJ)J" } : Jvm.MethodName) prog_10_method_3_code (4 : Nat) (Option.some Jvm.ClassFile.FieldType.long)) ∈ wA := wA_of 1295 rfl rfl
set_option maxRecDepth 100000 in
theorem wd_1296 : (Jvm.Cond.methodLink "LateFalls$Tray" (22 : Nat) ({ cls := "LateFalls$Tray", name := "cut", desc := "(J)J" } : Jvm.MethodName)) ∈ wA := wA_of 1296 rfl rfl
set_option maxRecDepth 100000 in
theorem wd_1298 : (Jvm.Cond.instanceMethod ({ cls := "LateFalls$Tray", name := "cut", desc := "(J)J" } : Jvm.MethodName)) ∈ wA := wA_of 1298 rfl rfl
set_option maxRecDepth 100000 in
theorem wd_1299 : (Jvm.Cond.code ({ cls := "LateFalls$Tray", name := "cut", desc := "(J)J" } : Jvm.MethodName) prog_10_method_4_code (3 : Nat) (Option.some Jvm.ClassFile.FieldType.long)) ∈ wA := wA_of 1299 rfl rfl
set_option maxRecDepth 100000 in
theorem wd_1300 : (Jvm.Cond.methodLink "LateFallsLaw" (299 : Nat) ({ cls := "LateFallsLaw", name := "copy", desc := "(LLateFalls;I[J)I" } : Jvm.MethodName)) ∈ wA := wA_of 1300 rfl rfl
set_option maxRecDepth 100000 in
theorem wd_1301 : (Jvm.Cond.static ({ cls := "LateFallsLaw", name := "copy", desc := "(LLateFalls;I[J)I" } : Jvm.MethodName)) ∈ wA := wA_of 1301 rfl rfl
set_option maxRecDepth 100000 in
theorem wd_1302 : (Jvm.Cond.codeWith ({ cls := "LateFallsLaw", name := "copy", desc := "(LLateFalls;I[J)I" } : Jvm.MethodName) method_38_code (4 : Nat) (Option.some Jvm.ClassFile.FieldType.int) [((0 : Nat), (9 : Nat), (12 : Nat), (19 : Nat)), ((0 : Nat), (9 : Nat), (15 : Nat), (43 : Nat))]) ∈ wA := wA_of 1302 rfl rfl
set_option maxRecDepth 100000 in
theorem wd_1303 : (Jvm.Cond.methodLink "LateFallsLaw" (131 : Nat) ({ cls := "LateFalls", name := "copy", desc := "(I)I" } : Jvm.MethodName)) ∈ wA := wA_of 1303 rfl rfl
set_option maxRecDepth 100000 in
theorem wd_1304 : (Jvm.Cond.instanceMethod ({ cls := "LateFalls", name := "copy", desc := "(I)I" } : Jvm.MethodName)) ∈ wA := wA_of 1304 rfl rfl
set_option maxRecDepth 100000 in
theorem wd_1305 : (Jvm.Cond.selects "LateFalls" ({ cls := "LateFalls", name := "copy", desc := "(I)I" } : Jvm.MethodName) ({ cls := "LateFalls", name := "copy", desc := "(I)I" } : Jvm.MethodName)) ∈ wA := wA_of 1305 rfl rfl
set_option maxRecDepth 100000 in
theorem wd_1306 : (Jvm.Cond.code ({ cls := "LateFalls", name := "copy", desc := "(I)I" } : Jvm.MethodName) prog_1_method_59_code (5 : Nat) (Option.some Jvm.ClassFile.FieldType.int)) ∈ wA := wA_of 1306 rfl rfl
set_option maxRecDepth 100000 in
theorem wd_1307 : (Jvm.Cond.methodLink "LateFallsLaw" (302 : Nat) ({ cls := "LateFallsLaw", name := "image", desc := "(LLateFalls;I)I" } : Jvm.MethodName)) ∈ wA := wA_of 1307 rfl rfl
set_option maxRecDepth 100000 in
theorem wd_1308 : (Jvm.Cond.static ({ cls := "LateFallsLaw", name := "image", desc := "(LLateFalls;I)I" } : Jvm.MethodName)) ∈ wA := wA_of 1308 rfl rfl
set_option maxRecDepth 100000 in
theorem wd_1309 : (Jvm.Cond.codeWith ({ cls := "LateFallsLaw", name := "image", desc := "(LLateFalls;I)I" } : Jvm.MethodName) method_39_code (3 : Nat) (Option.some Jvm.ClassFile.FieldType.int) [((0 : Nat), (5 : Nat), (8 : Nat), (19 : Nat))]) ∈ wA := wA_of 1309 rfl rfl
set_option maxRecDepth 100000 in
theorem wd_1310 : (Jvm.Cond.methodLink "LateFallsLaw" (134 : Nat) ({ cls := "LateFalls", name := "image", desc := "(I)V" } : Jvm.MethodName)) ∈ wA := wA_of 1310 rfl rfl
set_option maxRecDepth 100000 in
theorem wd_1311 : (Jvm.Cond.instanceMethod ({ cls := "LateFalls", name := "image", desc := "(I)V" } : Jvm.MethodName)) ∈ wA := wA_of 1311 rfl rfl
set_option maxRecDepth 100000 in
theorem wd_1312 : (Jvm.Cond.selects "LateFalls" ({ cls := "LateFalls", name := "image", desc := "(I)V" } : Jvm.MethodName) ({ cls := "LateFalls", name := "image", desc := "(I)V" } : Jvm.MethodName)) ∈ wA := wA_of 1312 rfl rfl
set_option maxRecDepth 100000 in
theorem wd_1313 : (Jvm.Cond.code ({ cls := "LateFalls", name := "image", desc := "(I)V" } : Jvm.MethodName) prog_1_method_60_code (2 : Nat) (Option.none : Option Jvm.ClassFile.FieldType)) ∈ wA := wA_of 1313 rfl rfl
set_option maxRecDepth 100000 in
theorem wd_1314 : (Jvm.Cond.methodLink "LateFalls" (388 : Nat) ({ cls := "LateFalls", name := "needImage", desc := "(I)V" } : Jvm.MethodName)) ∈ wA := wA_of 1314 rfl rfl
set_option maxRecDepth 100000 in
theorem wd_1315 : (Jvm.Cond.static ({ cls := "LateFalls", name := "needImage", desc := "(I)V" } : Jvm.MethodName)) ∈ wA := wA_of 1315 rfl rfl
set_option maxRecDepth 100000 in
theorem wd_1316 : (Jvm.Cond.code ({ cls := "LateFalls", name := "needImage", desc := "(I)V" } : Jvm.MethodName) prog_1_method_65_code (1 : Nat) (Option.none : Option Jvm.ClassFile.FieldType)) ∈ wA := wA_of 1316 rfl rfl
set_option maxRecDepth 100000 in
theorem wd_1318 : (Jvm.Cond.instantiable "LateFalls$Image" (2 : Nat)) ∈ wA := wA_of 1318 rfl rfl
set_option maxRecDepth 100000 in
theorem wd_1319 : (Jvm.Cond.methodLink "LateFalls" (391 : Nat) ({ cls := "LateFalls$Image", name := "<init>", desc := "(LLateFalls$District;)V" } : Jvm.MethodName)) ∈ wA := wA_of 1319 rfl rfl
set_option maxRecDepth 100000 in
theorem wd_1320 : (Jvm.Cond.instanceMethod ({ cls := "LateFalls$Image", name := "<init>", desc := "(LLateFalls$District;)V" } : Jvm.MethodName)) ∈ wA := wA_of 1320 rfl rfl
set_option maxRecDepth 100000 in
theorem wd_1321 : (Jvm.Cond.code ({ cls := "LateFalls$Image", name := "<init>", desc := "(LLateFalls$District;)V" } : Jvm.MethodName) prog_5_method_1_code (2 : Nat) (Option.none : Option Jvm.ClassFile.FieldType)) ∈ wA := wA_of 1321 rfl rfl
set_option maxRecDepth 100000 in
theorem wd_1322 : (Jvm.Cond.methodLink "LateFalls$Image" (1 : Nat) ({ cls := "java/lang/Object", name := "<init>", desc := "()V" } : Jvm.MethodName)) ∈ wA := wA_of 1322 rfl rfl
set_option maxRecDepth 100000 in
theorem wd_1323 : (Jvm.Cond.classLink "LateFalls$Image" (7 : Nat) "LateFalls$Scene") ∈ wA := wA_of 1323 rfl rfl
set_option maxRecDepth 100000 in
theorem wd_1324 : (Jvm.Cond.methodLink "LateFalls$Image" (9 : Nat) ({ cls := "LateFalls$Scene", name := "<init>", desc := "(LLateFalls$District;)V" } : Jvm.MethodName)) ∈ wA := wA_of 1324 rfl rfl
set_option maxRecDepth 100000 in
theorem wd_1325 : (Jvm.Cond.classLink "LateFalls$Image" (18 : Nat) "LateFalls$History") ∈ wA := wA_of 1325 rfl rfl
set_option maxRecDepth 100000 in
theorem wd_1326 : (Jvm.Cond.methodLink "LateFalls$Image" (20 : Nat) ({ cls := "LateFalls$History", name := "<init>", desc := "(LLateFalls$District;)V" } : Jvm.MethodName)) ∈ wA := wA_of 1326 rfl rfl
set_option maxRecDepth 100000 in
theorem wd_1327 : (Jvm.Cond.fieldLink "LateFalls$Image" (12 : Nat) "LateFalls$Image" "scene" "LLateFalls$Scene;") ∈ wA := wA_of 1327 rfl rfl
set_option maxRecDepth 100000 in
theorem wd_1328 : (Jvm.Cond.fieldLink "LateFalls" (392 : Nat) "LateFalls$Image" "scene" "LLateFalls$Scene;") ∈ wA := wA_of 1328 rfl rfl
set_option maxRecDepth 100000 in
theorem wd_1329 : (Jvm.Cond.fieldLink "LateFalls$Image" (21 : Nat) "LateFalls$Image" "history" "LLateFalls$History;") ∈ wA := wA_of 1329 rfl rfl
set_option maxRecDepth 100000 in
theorem wd_1330 : (Jvm.Cond.fieldLink "LateFalls" (393 : Nat) "LateFalls$Image" "history" "LLateFalls$History;") ∈ wA := wA_of 1330 rfl rfl
set_option maxRecDepth 100000 in
theorem wd_1331 : (Jvm.Cond.laysFinal "LateFalls$Image" "LateFalls$Image" "scene" "LLateFalls$Scene;") ∈ wA := wA_of 1331 rfl rfl
set_option maxRecDepth 100000 in
theorem wd_1333 : (Jvm.Cond.laysFinal "LateFalls$Image" "LateFalls$Image" "history" "LLateFalls$History;") ∈ wA := wA_of 1333 rfl rfl
set_option maxRecDepth 100000 in
theorem wd_1336 : (Jvm.Cond.methodLink "LateFalls" (394 : Nat) ({ cls := "LateFalls$History", name := "copyFrom", desc := "(LLateFalls$History;)V" } : Jvm.MethodName)) ∈ wA := wA_of 1336 rfl rfl
set_option maxRecDepth 100000 in
theorem wd_1337 : (Jvm.Cond.instanceMethod ({ cls := "LateFalls$History", name := "copyFrom", desc := "(LLateFalls$History;)V" } : Jvm.MethodName)) ∈ wA := wA_of 1337 rfl rfl
set_option maxRecDepth 100000 in
theorem wd_1338 : (Jvm.Cond.selects "LateFalls$History" ({ cls := "LateFalls$History", name := "copyFrom", desc := "(LLateFalls$History;)V" } : Jvm.MethodName) ({ cls := "LateFalls$History", name := "copyFrom", desc := "(LLateFalls$History;)V" } : Jvm.MethodName)) ∈ wA := wA_of 1338 rfl rfl
set_option maxRecDepth 100000 in
theorem wd_1339 : (Jvm.Cond.code ({ cls := "LateFalls$History", name := "copyFrom", desc := "(LLateFalls$History;)V" } : Jvm.MethodName) prog_4_method_5_code (3 : Nat) (Option.none : Option Jvm.ClassFile.FieldType)) ∈ wA := wA_of 1339 rfl rfl
set_option maxRecDepth 100000 in
theorem wd_1340 : (Jvm.Cond.methodLink "LateFallsLaw" (306 : Nat) ({ cls := "LateFallsLaw", name := "restore", desc := "(LLateFalls;I)I" } : Jvm.MethodName)) ∈ wA := wA_of 1340 rfl rfl
set_option maxRecDepth 100000 in
theorem wd_1341 : (Jvm.Cond.static ({ cls := "LateFallsLaw", name := "restore", desc := "(LLateFalls;I)I" } : Jvm.MethodName)) ∈ wA := wA_of 1341 rfl rfl
set_option maxRecDepth 100000 in
theorem wd_1342 : (Jvm.Cond.codeWith ({ cls := "LateFallsLaw", name := "restore", desc := "(LLateFalls;I)I" } : Jvm.MethodName) method_40_code (3 : Nat) (Option.some Jvm.ClassFile.FieldType.int) [((0 : Nat), (5 : Nat), (8 : Nat), (19 : Nat)), ((0 : Nat), (5 : Nat), (11 : Nat), (43 : Nat))]) ∈ wA := wA_of 1342 rfl rfl
set_option maxRecDepth 100000 in
theorem wd_1343 : (Jvm.Cond.methodLink "LateFallsLaw" (138 : Nat) ({ cls := "LateFalls", name := "restore", desc := "(I)V" } : Jvm.MethodName)) ∈ wA := wA_of 1343 rfl rfl
set_option maxRecDepth 100000 in
theorem wd_1344 : (Jvm.Cond.instanceMethod ({ cls := "LateFalls", name := "restore", desc := "(I)V" } : Jvm.MethodName)) ∈ wA := wA_of 1344 rfl rfl
set_option maxRecDepth 100000 in
theorem wd_1345 : (Jvm.Cond.selects "LateFalls" ({ cls := "LateFalls", name := "restore", desc := "(I)V" } : Jvm.MethodName) ({ cls := "LateFalls", name := "restore", desc := "(I)V" } : Jvm.MethodName)) ∈ wA := wA_of 1345 rfl rfl
set_option maxRecDepth 100000 in
theorem wd_1346 : (Jvm.Cond.code ({ cls := "LateFalls", name := "restore", desc := "(I)V" } : Jvm.MethodName) prog_1_method_61_code (3 : Nat) (Option.none : Option Jvm.ClassFile.FieldType)) ∈ wA := wA_of 1346 rfl rfl
set_option maxRecDepth 100000 in
theorem wd_1348 : (Jvm.Cond.classLink "LateFallsLaw" (142 : Nat) "LateFallsModel") ∈ wA := wA_of 1348 rfl rfl
set_option maxRecDepth 100000 in
theorem wd_1349 : (Jvm.Cond.instantiable "LateFallsModel" (39 : Nat)) ∈ wA := wA_of 1349 rfl rfl
set_option maxRecDepth 100000 in
theorem wd_1350 : (Jvm.Cond.methodLink "LateFallsLaw" (144 : Nat) ({ cls := "LateFallsModel", name := "<init>", desc := "()V" } : Jvm.MethodName)) ∈ wA := wA_of 1350 rfl rfl
set_option maxRecDepth 100000 in
theorem wd_1351 : (Jvm.Cond.instanceMethod ({ cls := "LateFallsModel", name := "<init>", desc := "()V" } : Jvm.MethodName)) ∈ wA := wA_of 1351 rfl rfl
set_option maxRecDepth 100000 in
theorem wd_1352 : (Jvm.Cond.code ({ cls := "LateFallsModel", name := "<init>", desc := "()V" } : Jvm.MethodName) prog_13_method_1_code (1 : Nat) (Option.none : Option Jvm.ClassFile.FieldType)) ∈ wA := wA_of 1352 rfl rfl
set_option maxRecDepth 100000 in
theorem wd_1353 : (Jvm.Cond.methodLink "LateFallsModel" (1 : Nat) ({ cls := "java/lang/Object", name := "<init>", desc := "()V" } : Jvm.MethodName)) ∈ wA := wA_of 1353 rfl rfl
set_option maxRecDepth 100000 in
theorem wd_1354 : (Jvm.Cond.fieldLink "LateFallsModel" (9 : Nat) "LateFallsModel" "known" "[I") ∈ wA := wA_of 1354 rfl rfl
set_option maxRecDepth 100000 in
theorem wd_1355 : (Jvm.Cond.fieldLink "LateFallsModel" (13 : Nat) "LateFallsModel" "telling" "[I") ∈ wA := wA_of 1355 rfl rfl
set_option maxRecDepth 100000 in
theorem wd_1356 : (Jvm.Cond.fieldLink "LateFallsModel" (16 : Nat) "LateFallsModel" "images" "[I") ∈ wA := wA_of 1356 rfl rfl
set_option maxRecDepth 100000 in
theorem wd_1357 : (Jvm.Cond.fieldLink "LateFallsModel" (19 : Nat) "LateFallsModel" "isImage" "[Z") ∈ wA := wA_of 1357 rfl rfl
set_option maxRecDepth 100000 in
theorem wd_1358 : (Jvm.Cond.fieldLink "LateFallsModel" (70 : Nat) "LateFallsModel" "thrown" "I") ∈ wA := wA_of 1358 rfl rfl
set_option maxRecDepth 100000 in
theorem wd_1359 : (Jvm.Cond.fieldLink "LateFallsModel" (23 : Nat) "LateFallsModel" "tape" "[I") ∈ wA := wA_of 1359 rfl rfl
set_option maxRecDepth 100000 in
theorem wd_1360 : (Jvm.Cond.fieldLink "LateFallsModel" (73 : Nat) "LateFallsModel" "taped" "I") ∈ wA := wA_of 1360 rfl rfl
set_option maxRecDepth 100000 in
theorem wd_1361 : (Jvm.Cond.fieldLink "LateFallsModel" (76 : Nat) "LateFallsModel" "length" "I") ∈ wA := wA_of 1361 rfl rfl
set_option maxRecDepth 100000 in
theorem wd_1362 : (Jvm.Cond.fieldLink "LateFallsModel" (79 : Nat) "LateFallsModel" "head" "I") ∈ wA := wA_of 1362 rfl rfl
set_option maxRecDepth 100000 in
theorem wd_1363 : (Jvm.Cond.fieldLink "LateFallsModel" (82 : Nat) "LateFallsModel" "begin" "I") ∈ wA := wA_of 1363 rfl rfl
set_option maxRecDepth 100000 in
theorem wd_1364 : (Jvm.Cond.fieldLink "LateFallsModel" (85 : Nat) "LateFallsModel" "token" "I") ∈ wA := wA_of 1364 rfl rfl
set_option maxRecDepth 100000 in
theorem wd_1365 : (Jvm.Cond.fieldLink "LateFallsModel" (99 : Nat) "LateFallsModel" "value" "I") ∈ wA := wA_of 1365 rfl rfl
set_option maxRecDepth 100000 in
theorem wd_1366 : (Jvm.Cond.fieldLink "LateFallsModel" (105 : Nat) "LateFallsModel" "bad" "I") ∈ wA := wA_of 1366 rfl rfl
set_option maxRecDepth 100000 in
theorem wd_1367 : (Jvm.Cond.fieldLink "LateFallsModel" (108 : Nat) "LateFallsModel" "badPlace" "I") ∈ wA := wA_of 1367 rfl rfl
set_option maxRecDepth 100000 in
theorem wd_1368 : (Jvm.Cond.fieldLink "LateFallsModel" (277 : Nat) "LateFallsModel" "faultKind" "I") ∈ wA := wA_of 1368 rfl rfl
set_option maxRecDepth 100000 in
theorem wd_1369 : (Jvm.Cond.fieldLink "LateFallsModel" (26 : Nat) "LateFallsModel" "faultPlace" "I") ∈ wA := wA_of 1369 rfl rfl
set_option maxRecDepth 100000 in
theorem wd_1370 : (Jvm.Cond.fieldLink "LateFallsModel" (144 : Nat) "LateFallsModel" "deep" "I") ∈ wA := wA_of 1370 rfl rfl
set_option maxRecDepth 100000 in
theorem wd_1371 : (Jvm.Cond.fieldLink "LateFallsModel" (141 : Nat) "LateFallsModel" "lawMany" "I") ∈ wA := wA_of 1371 rfl rfl
set_option maxRecDepth 100000 in
theorem wd_1372 : (Jvm.Cond.fieldLink "LateFallsModel" (138 : Nat) "LateFallsModel" "lawAt" "I") ∈ wA := wA_of 1372 rfl rfl
set_option maxRecDepth 100000 in
theorem wd_1373 : (Jvm.Cond.fieldLink "LateFallsModel" (30 : Nat) "LateFallsModel" "stack" "[I") ∈ wA := wA_of 1373 rfl rfl
set_option maxRecDepth 100000 in
theorem wd_1374 : (Jvm.Cond.fieldLink "LateFallsModel" (33 : Nat) "LateFallsModel" "asked" "[I") ∈ wA := wA_of 1374 rfl rfl
set_option maxRecDepth 100000 in
theorem wd_1375 : (Jvm.Cond.fieldLink "LateFallsModel" (339 : Nat) "LateFallsModel" "fell" "I") ∈ wA := wA_of 1375 rfl rfl
set_option maxRecDepth 100000 in
theorem wd_1376 : (Jvm.Cond.fieldLink "LateFallsModel" (342 : Nat) "LateFallsModel" "fellIn" "I") ∈ wA := wA_of 1376 rfl rfl
set_option maxRecDepth 100000 in
theorem wd_1377 : (Jvm.Cond.fieldLink "LateFallsModel" (36 : Nat) "LateFallsModel" "aside" "[I") ∈ wA := wA_of 1377 rfl rfl
set_option maxRecDepth 100000 in
theorem wd_1378 : (Jvm.Cond.fieldLink "LateFallsModel" (444 : Nat) "LateFallsModel" "state" "I") ∈ wA := wA_of 1378 rfl rfl
set_option maxRecDepth 100000 in
theorem wd_1379 : (Jvm.Cond.fieldLink "LateFallsModel" (458 : Nat) "LateFallsModel" "landed" "I") ∈ wA := wA_of 1379 rfl rfl
set_option maxRecDepth 100000 in
theorem wd_1380 : (Jvm.Cond.fieldLink "LateFallsModel" (468 : Nat) "LateFallsModel" "waitFalls" "I") ∈ wA := wA_of 1380 rfl rfl
set_option maxRecDepth 100000 in
theorem wd_1381 : (Jvm.Cond.fieldLink "LateFallsModel" (471 : Nat) "LateFallsModel" "waitWeight" "I") ∈ wA := wA_of 1381 rfl rfl
set_option maxRecDepth 100000 in
theorem wd_1382 : (Jvm.Cond.fieldLink "LateFallsModel" (39 : Nat) "LateFallsModel" "fallsAfter" "[I") ∈ wA := wA_of 1382 rfl rfl
set_option maxRecDepth 100000 in
theorem wd_1383 : (Jvm.Cond.fieldLink "LateFallsModel" (42 : Nat) "LateFallsModel" "falling" "[I") ∈ wA := wA_of 1383 rfl rfl
set_option maxRecDepth 100000 in
theorem wd_1384 : (Jvm.Cond.fieldLink "LateFallsModel" (45 : Nat) "LateFallsModel" "comes" "[I") ∈ wA := wA_of 1384 rfl rfl
set_option maxRecDepth 100000 in
theorem wd_1385 : (Jvm.Cond.fieldLink "LateFallsModel" (48 : Nat) "LateFallsModel" "goesOn" "[I") ∈ wA := wA_of 1385 rfl rfl
set_option maxRecDepth 100000 in
theorem wd_1386 : (Jvm.Cond.fieldLink "LateFallsModel" (51 : Nat) "LateFallsModel" "wayRow" "[I") ∈ wA := wA_of 1386 rfl rfl
set_option maxRecDepth 100000 in
theorem wd_1387 : (Jvm.Cond.fieldLink "LateFallsModel" (54 : Nat) "LateFallsModel" "many" "[J") ∈ wA := wA_of 1387 rfl rfl
set_option maxRecDepth 100000 in
theorem wd_1388 : (Jvm.Cond.fieldLink "LateFallsModel" (58 : Nat) "LateFallsModel" "manyThen" "[J") ∈ wA := wA_of 1388 rfl rfl
set_option maxRecDepth 100000 in
theorem wd_1389 : (Jvm.Cond.fieldLink "LateFallsModel" (514 : Nat) "LateFallsModel" "toldLet" "I") ∈ wA := wA_of 1389 rfl rfl
set_option maxRecDepth 100000 in
theorem wd_1390 : (Jvm.Cond.fieldLink "LateFallsModel" (61 : Nat) "LateFallsModel" "tSort" "[I") ∈ wA := wA_of 1390 rfl rfl
set_option maxRecDepth 100000 in
theorem wd_1391 : (Jvm.Cond.fieldLink "LateFallsModel" (64 : Nat) "LateFallsModel" "tMany" "[I") ∈ wA := wA_of 1391 rfl rfl
set_option maxRecDepth 100000 in
theorem wd_1392 : (Jvm.Cond.fieldLink "LateFallsModel" (67 : Nat) "LateFallsModel" "numbers" "[J") ∈ wA := wA_of 1392 rfl rfl
set_option maxRecDepth 100000 in
theorem wd_1393 : (Jvm.Cond.laysFinal "LateFallsModel" "LateFallsModel" "known" "[I") ∈ wA := wA_of 1393 rfl rfl
set_option maxRecDepth 100000 in
theorem wd_1395 : (Jvm.Cond.laysFinal "LateFallsModel" "LateFallsModel" "telling" "[I") ∈ wA := wA_of 1395 rfl rfl
set_option maxRecDepth 100000 in
theorem wd_1397 : (Jvm.Cond.laysFinal "LateFallsModel" "LateFallsModel" "images" "[I") ∈ wA := wA_of 1397 rfl rfl
set_option maxRecDepth 100000 in
theorem wd_1399 : (Jvm.Cond.laysFinal "LateFallsModel" "LateFallsModel" "isImage" "[Z") ∈ wA := wA_of 1399 rfl rfl
set_option maxRecDepth 100000 in
theorem wd_1401 : (Jvm.Cond.lays "LateFallsModel" "LateFallsModel" "thrown" "I") ∈ wA := wA_of 1401 rfl rfl
set_option maxRecDepth 100000 in
theorem wd_1403 : (Jvm.Cond.laysFinal "LateFallsModel" "LateFallsModel" "tape" "[I") ∈ wA := wA_of 1403 rfl rfl
set_option maxRecDepth 100000 in
theorem wd_1405 : (Jvm.Cond.lays "LateFallsModel" "LateFallsModel" "taped" "I") ∈ wA := wA_of 1405 rfl rfl
set_option maxRecDepth 100000 in
theorem wd_1407 : (Jvm.Cond.lays "LateFallsModel" "LateFallsModel" "length" "I") ∈ wA := wA_of 1407 rfl rfl
set_option maxRecDepth 100000 in
theorem wd_1409 : (Jvm.Cond.lays "LateFallsModel" "LateFallsModel" "head" "I") ∈ wA := wA_of 1409 rfl rfl
set_option maxRecDepth 100000 in
theorem wd_1411 : (Jvm.Cond.lays "LateFallsModel" "LateFallsModel" "begin" "I") ∈ wA := wA_of 1411 rfl rfl
set_option maxRecDepth 100000 in
theorem wd_1413 : (Jvm.Cond.lays "LateFallsModel" "LateFallsModel" "token" "I") ∈ wA := wA_of 1413 rfl rfl
set_option maxRecDepth 100000 in
theorem wd_1415 : (Jvm.Cond.lays "LateFallsModel" "LateFallsModel" "value" "I") ∈ wA := wA_of 1415 rfl rfl
set_option maxRecDepth 100000 in
theorem wd_1417 : (Jvm.Cond.lays "LateFallsModel" "LateFallsModel" "bad" "I") ∈ wA := wA_of 1417 rfl rfl
set_option maxRecDepth 100000 in
theorem wd_1419 : (Jvm.Cond.lays "LateFallsModel" "LateFallsModel" "badPlace" "I") ∈ wA := wA_of 1419 rfl rfl
set_option maxRecDepth 100000 in
theorem wd_1421 : (Jvm.Cond.lays "LateFallsModel" "LateFallsModel" "faultKind" "I") ∈ wA := wA_of 1421 rfl rfl
set_option maxRecDepth 100000 in
theorem wd_1423 : (Jvm.Cond.lays "LateFallsModel" "LateFallsModel" "faultPlace" "I") ∈ wA := wA_of 1423 rfl rfl
set_option maxRecDepth 100000 in
theorem wd_1425 : (Jvm.Cond.lays "LateFallsModel" "LateFallsModel" "deep" "I") ∈ wA := wA_of 1425 rfl rfl
set_option maxRecDepth 100000 in
theorem wd_1427 : (Jvm.Cond.lays "LateFallsModel" "LateFallsModel" "lawMany" "I") ∈ wA := wA_of 1427 rfl rfl
set_option maxRecDepth 100000 in
theorem wd_1429 : (Jvm.Cond.lays "LateFallsModel" "LateFallsModel" "lawAt" "I") ∈ wA := wA_of 1429 rfl rfl
set_option maxRecDepth 100000 in
theorem wd_1431 : (Jvm.Cond.laysFinal "LateFallsModel" "LateFallsModel" "stack" "[I") ∈ wA := wA_of 1431 rfl rfl
set_option maxRecDepth 100000 in
theorem wd_1433 : (Jvm.Cond.laysFinal "LateFallsModel" "LateFallsModel" "asked" "[I") ∈ wA := wA_of 1433 rfl rfl
set_option maxRecDepth 100000 in
theorem wd_1435 : (Jvm.Cond.lays "LateFallsModel" "LateFallsModel" "fell" "I") ∈ wA := wA_of 1435 rfl rfl
set_option maxRecDepth 100000 in
theorem wd_1437 : (Jvm.Cond.lays "LateFallsModel" "LateFallsModel" "fellIn" "I") ∈ wA := wA_of 1437 rfl rfl
set_option maxRecDepth 100000 in
theorem wd_1439 : (Jvm.Cond.laysFinal "LateFallsModel" "LateFallsModel" "aside" "[I") ∈ wA := wA_of 1439 rfl rfl
set_option maxRecDepth 100000 in
theorem wd_1441 : (Jvm.Cond.lays "LateFallsModel" "LateFallsModel" "state" "I") ∈ wA := wA_of 1441 rfl rfl
set_option maxRecDepth 100000 in
theorem wd_1443 : (Jvm.Cond.lays "LateFallsModel" "LateFallsModel" "landed" "I") ∈ wA := wA_of 1443 rfl rfl
set_option maxRecDepth 100000 in
theorem wd_1445 : (Jvm.Cond.lays "LateFallsModel" "LateFallsModel" "waitFalls" "I") ∈ wA := wA_of 1445 rfl rfl
set_option maxRecDepth 100000 in
theorem wd_1447 : (Jvm.Cond.lays "LateFallsModel" "LateFallsModel" "waitWeight" "I") ∈ wA := wA_of 1447 rfl rfl
set_option maxRecDepth 100000 in
theorem wd_1449 : (Jvm.Cond.laysFinal "LateFallsModel" "LateFallsModel" "fallsAfter" "[I") ∈ wA := wA_of 1449 rfl rfl
set_option maxRecDepth 100000 in
theorem wd_1451 : (Jvm.Cond.laysFinal "LateFallsModel" "LateFallsModel" "falling" "[I") ∈ wA := wA_of 1451 rfl rfl
set_option maxRecDepth 100000 in
theorem wd_1453 : (Jvm.Cond.laysFinal "LateFallsModel" "LateFallsModel" "comes" "[I") ∈ wA := wA_of 1453 rfl rfl
set_option maxRecDepth 100000 in
theorem wd_1455 : (Jvm.Cond.laysFinal "LateFallsModel" "LateFallsModel" "goesOn" "[I") ∈ wA := wA_of 1455 rfl rfl
set_option maxRecDepth 100000 in
theorem wd_1457 : (Jvm.Cond.laysFinal "LateFallsModel" "LateFallsModel" "wayRow" "[I") ∈ wA := wA_of 1457 rfl rfl
set_option maxRecDepth 100000 in
theorem wd_1459 : (Jvm.Cond.laysFinal "LateFallsModel" "LateFallsModel" "many" "[J") ∈ wA := wA_of 1459 rfl rfl
set_option maxRecDepth 100000 in
theorem wd_1461 : (Jvm.Cond.laysFinal "LateFallsModel" "LateFallsModel" "manyThen" "[J") ∈ wA := wA_of 1461 rfl rfl
set_option maxRecDepth 100000 in
theorem wd_1463 : (Jvm.Cond.lays "LateFallsModel" "LateFallsModel" "toldLet" "I") ∈ wA := wA_of 1463 rfl rfl
set_option maxRecDepth 100000 in
theorem wd_1465 : (Jvm.Cond.laysFinal "LateFallsModel" "LateFallsModel" "tSort" "[I") ∈ wA := wA_of 1465 rfl rfl
set_option maxRecDepth 100000 in
theorem wd_1467 : (Jvm.Cond.laysFinal "LateFallsModel" "LateFallsModel" "tMany" "[I") ∈ wA := wA_of 1467 rfl rfl
set_option maxRecDepth 100000 in
theorem wd_1469 : (Jvm.Cond.laysFinal "LateFallsModel" "LateFallsModel" "numbers" "[J") ∈ wA := wA_of 1469 rfl rfl
set_option maxRecDepth 100000 in
theorem wd_1472 : (Jvm.Cond.arrayClass Jvm.ClassFile.FieldType.boolean) ∈ wA := wA_of 1472 rfl rfl
set_option maxRecDepth 100000 in
theorem wd_1473 : (Jvm.Cond.methodLink "LateFallsLaw" (290 : Nat) ({ cls := "LateFallsModel", name := "thrown", desc := "()I" } : Jvm.MethodName)) ∈ wA := wA_of 1473 rfl rfl
set_option maxRecDepth 100000 in
theorem wd_1474 : (Jvm.Cond.instanceMethod ({ cls := "LateFallsModel", name := "thrown", desc := "()I" } : Jvm.MethodName)) ∈ wA := wA_of 1474 rfl rfl
set_option maxRecDepth 100000 in
theorem wd_1475 : (Jvm.Cond.selects "LateFallsModel" ({ cls := "LateFallsModel", name := "thrown", desc := "()I" } : Jvm.MethodName) ({ cls := "LateFallsModel", name := "thrown", desc := "()I" } : Jvm.MethodName)) ∈ wA := wA_of 1475 rfl rfl
set_option maxRecDepth 100000 in
theorem wd_1476 : (Jvm.Cond.code ({ cls := "LateFallsModel", name := "thrown", desc := "()I" } : Jvm.MethodName) prog_13_method_2_code (1 : Nat) (Option.some Jvm.ClassFile.FieldType.int)) ∈ wA := wA_of 1476 rfl rfl
set_option maxRecDepth 100000 in
theorem wd_1477 : (Jvm.Cond.methodLink "LateFallsLaw" (149 : Nat) ({ cls := "LateFallsModel", name := "feed", desc := "(IIIII)I" } : Jvm.MethodName)) ∈ wA := wA_of 1477 rfl rfl
set_option maxRecDepth 100000 in
theorem wd_1478 : (Jvm.Cond.instanceMethod ({ cls := "LateFallsModel", name := "feed", desc := "(IIIII)I" } : Jvm.MethodName)) ∈ wA := wA_of 1478 rfl rfl
set_option maxRecDepth 100000 in
theorem wd_1479 : (Jvm.Cond.selects "LateFallsModel" ({ cls := "LateFallsModel", name := "feed", desc := "(IIIII)I" } : Jvm.MethodName) ({ cls := "LateFallsModel", name := "feed", desc := "(IIIII)I" } : Jvm.MethodName)) ∈ wA := wA_of 1479 rfl rfl
set_option maxRecDepth 100000 in
theorem wd_1480 : (Jvm.Cond.code ({ cls := "LateFallsModel", name := "feed", desc := "(IIIII)I" } : Jvm.MethodName) prog_13_method_7_code (8 : Nat) (Option.some Jvm.ClassFile.FieldType.int)) ∈ wA := wA_of 1480 rfl rfl
set_option maxRecDepth 100000 in
theorem wd_1481 : (Jvm.Cond.methodLink "LateFallsLaw" (155 : Nat) ({ cls := "LateFallsModel", name := "district", desc := "(I)I" } : Jvm.MethodName)) ∈ wA := wA_of 1481 rfl rfl
set_option maxRecDepth 100000 in
theorem wd_1482 : (Jvm.Cond.instanceMethod ({ cls := "LateFallsModel", name := "district", desc := "(I)I" } : Jvm.MethodName)) ∈ wA := wA_of 1482 rfl rfl
set_option maxRecDepth 100000 in
theorem wd_1483 : (Jvm.Cond.selects "LateFallsModel" ({ cls := "LateFallsModel", name := "district", desc := "(I)I" } : Jvm.MethodName) ({ cls := "LateFallsModel", name := "district", desc := "(I)I" } : Jvm.MethodName)) ∈ wA := wA_of 1483 rfl rfl
set_option maxRecDepth 100000 in
theorem wd_1484 : (Jvm.Cond.code ({ cls := "LateFallsModel", name := "district", desc := "(I)I" } : Jvm.MethodName) prog_13_method_40_code (3 : Nat) (Option.some Jvm.ClassFile.FieldType.int)) ∈ wA := wA_of 1484 rfl rfl
set_option maxRecDepth 100000 in
theorem wd_1485 : (Jvm.Cond.methodLink "LateFallsModel" (131 : Nat) ({ cls := "LateFallsModel", name := "within", desc := "(JJJ)Z" } : Jvm.MethodName)) ∈ wA := wA_of 1485 rfl rfl
set_option maxRecDepth 100000 in
theorem wd_1486 : (Jvm.Cond.static ({ cls := "LateFallsModel", name := "within", desc := "(JJJ)Z" } : Jvm.MethodName)) ∈ wA := wA_of 1486 rfl rfl
set_option maxRecDepth 100000 in
theorem wd_1487 : (Jvm.Cond.code ({ cls := "LateFallsModel", name := "within", desc := "(JJJ)Z" } : Jvm.MethodName) prog_13_method_4_code (6 : Nat) (Option.some Jvm.ClassFile.FieldType.boolean)) ∈ wA := wA_of 1487 rfl rfl
set_option maxRecDepth 100000 in
theorem wd_1488 : (Jvm.Cond.methodLink "LateFallsModel" (269 : Nat) ({ cls := "LateFallsModel", name := "fails", desc := "(I)I" } : Jvm.MethodName)) ∈ wA := wA_of 1488 rfl rfl
set_option maxRecDepth 100000 in
theorem wd_1490 : (Jvm.Cond.instanceMethod ({ cls := "LateFallsModel", name := "fails", desc := "(I)I" } : Jvm.MethodName)) ∈ wA := wA_of 1490 rfl rfl
set_option maxRecDepth 100000 in
theorem wd_1491 : (Jvm.Cond.code ({ cls := "LateFallsModel", name := "fails", desc := "(I)I" } : Jvm.MethodName) prog_13_method_3_code (2 : Nat) (Option.some Jvm.ClassFile.FieldType.int)) ∈ wA := wA_of 1491 rfl rfl
set_option maxRecDepth 100000 in
theorem wd_1492 : (Jvm.Cond.methodLink "LateFallsModel" (124 : Nat) ({ cls := "LateFallsModel", name := "readsOn", desc := "()V" } : Jvm.MethodName)) ∈ wA := wA_of 1492 rfl rfl
set_option maxRecDepth 100000 in
theorem wd_1494 : (Jvm.Cond.instanceMethod ({ cls := "LateFallsModel", name := "readsOn", desc := "()V" } : Jvm.MethodName)) ∈ wA := wA_of 1494 rfl rfl
set_option maxRecDepth 100000 in
theorem wd_1495 : (Jvm.Cond.code ({ cls := "LateFallsModel", name := "readsOn", desc := "()V" } : Jvm.MethodName) prog_13_method_12_code (2 : Nat) (Option.none : Option Jvm.ClassFile.FieldType)) ∈ wA := wA_of 1495 rfl rfl
set_option maxRecDepth 100000 in
theorem wd_1496 : (Jvm.Cond.methodLink "LateFallsModel" (88 : Nat) ({ cls := "LateFallsModel", name := "isLetter", desc := "(I)Z" } : Jvm.MethodName)) ∈ wA := wA_of 1496 rfl rfl
set_option maxRecDepth 100000 in
theorem wd_1497 : (Jvm.Cond.static ({ cls := "LateFallsModel", name := "isLetter", desc := "(I)Z" } : Jvm.MethodName)) ∈ wA := wA_of 1497 rfl rfl
set_option maxRecDepth 100000 in
theorem wd_1498 : (Jvm.Cond.code ({ cls := "LateFallsModel", name := "isLetter", desc := "(I)Z" } : Jvm.MethodName) prog_13_method_9_code (1 : Nat) (Option.some Jvm.ClassFile.FieldType.boolean)) ∈ wA := wA_of 1498 rfl rfl
set_option maxRecDepth 100000 in
theorem wd_1499 : (Jvm.Cond.methodLink "LateFallsModel" (92 : Nat) ({ cls := "LateFallsModel", name := "see", desc := "(I)I" } : Jvm.MethodName)) ∈ wA := wA_of 1499 rfl rfl
set_option maxRecDepth 100000 in
theorem wd_1501 : (Jvm.Cond.instanceMethod ({ cls := "LateFallsModel", name := "see", desc := "(I)I" } : Jvm.MethodName)) ∈ wA := wA_of 1501 rfl rfl
set_option maxRecDepth 100000 in
theorem wd_1502 : (Jvm.Cond.code ({ cls := "LateFallsModel", name := "see", desc := "(I)I" } : Jvm.MethodName) prog_13_method_8_code (2 : Nat) (Option.some Jvm.ClassFile.FieldType.int)) ∈ wA := wA_of 1502 rfl rfl
set_option maxRecDepth 100000 in
theorem wd_1503 : (Jvm.Cond.methodLink "LateFallsModel" (96 : Nat) ({ cls := "LateFallsModel", name := "isDigit", desc := "(I)Z" } : Jvm.MethodName)) ∈ wA := wA_of 1503 rfl rfl
set_option maxRecDepth 100000 in
theorem wd_1504 : (Jvm.Cond.static ({ cls := "LateFallsModel", name := "isDigit", desc := "(I)Z" } : Jvm.MethodName)) ∈ wA := wA_of 1504 rfl rfl
set_option maxRecDepth 100000 in
theorem wd_1505 : (Jvm.Cond.code ({ cls := "LateFallsModel", name := "isDigit", desc := "(I)Z" } : Jvm.MethodName) prog_13_method_10_code (1 : Nat) (Option.some Jvm.ClassFile.FieldType.boolean)) ∈ wA := wA_of 1505 rfl rfl
set_option maxRecDepth 100000 in
theorem wd_1506 : (Jvm.Cond.methodLink "LateFallsModel" (102 : Nat) ({ cls := "LateFallsModel", name := "isSignByte", desc := "(I)Z" } : Jvm.MethodName)) ∈ wA := wA_of 1506 rfl rfl
set_option maxRecDepth 100000 in
theorem wd_1507 : (Jvm.Cond.static ({ cls := "LateFallsModel", name := "isSignByte", desc := "(I)Z" } : Jvm.MethodName)) ∈ wA := wA_of 1507 rfl rfl
set_option maxRecDepth 100000 in
theorem wd_1508 : (Jvm.Cond.code ({ cls := "LateFallsModel", name := "isSignByte", desc := "(I)Z" } : Jvm.MethodName) prog_13_method_11_code (2 : Nat) (Option.some Jvm.ClassFile.FieldType.boolean)) ∈ wA := wA_of 1508 rfl rfl
set_option maxRecDepth 100000 in
theorem wd_1510 : (Jvm.Cond.methodLink "LateFallsModel" (222 : Nat) ({ cls := "LateFallsModel", name := "mustWord", desc := "(Ljava/lang/String;)V" } : Jvm.MethodName)) ∈ wA := wA_of 1510 rfl rfl
set_option maxRecDepth 100000 in
theorem wd_1512 : (Jvm.Cond.instanceMethod ({ cls := "LateFallsModel", name := "mustWord", desc := "(Ljava/lang/String;)V" } : Jvm.MethodName)) ∈ wA := wA_of 1512 rfl rfl
set_option maxRecDepth 100000 in
theorem wd_1513 : (Jvm.Cond.code ({ cls := "LateFallsModel", name := "mustWord", desc := "(Ljava/lang/String;)V" } : Jvm.MethodName) prog_13_method_19_code (2 : Nat) (Option.none : Option Jvm.ClassFile.FieldType)) ∈ wA := wA_of 1513 rfl rfl
set_option maxRecDepth 100000 in
theorem wd_1514 : (Jvm.Cond.methodLink "LateFallsModel" (135 : Nat) ({ cls := "LateFallsModel", name := "took", desc := "(Ljava/lang/String;)Z" } : Jvm.MethodName)) ∈ wA := wA_of 1514 rfl rfl
set_option maxRecDepth 100000 in
theorem wd_1516 : (Jvm.Cond.instanceMethod ({ cls := "LateFallsModel", name := "took", desc := "(Ljava/lang/String;)Z" } : Jvm.MethodName)) ∈ wA := wA_of 1516 rfl rfl
set_option maxRecDepth 100000 in
theorem wd_1517 : (Jvm.Cond.code ({ cls := "LateFallsModel", name := "took", desc := "(Ljava/lang/String;)Z" } : Jvm.MethodName) prog_13_method_15_code (3 : Nat) (Option.some Jvm.ClassFile.FieldType.boolean)) ∈ wA := wA_of 1517 rfl rfl
set_option maxRecDepth 100000 in
theorem wd_1518 : (Jvm.Cond.methodLink "LateFallsModel" (120 : Nat) ({ cls := "LateFallsModel", name := "isWord", desc := "(Ljava/lang/String;)Z" } : Jvm.MethodName)) ∈ wA := wA_of 1518 rfl rfl
set_option maxRecDepth 100000 in
theorem wd_1520 : (Jvm.Cond.instanceMethod ({ cls := "LateFallsModel", name := "isWord", desc := "(Ljava/lang/String;)Z" } : Jvm.MethodName)) ∈ wA := wA_of 1520 rfl rfl
set_option maxRecDepth 100000 in
theorem wd_1521 : (Jvm.Cond.code ({ cls := "LateFallsModel", name := "isWord", desc := "(Ljava/lang/String;)Z" } : Jvm.MethodName) prog_13_method_14_code (4 : Nat) (Option.some Jvm.ClassFile.FieldType.boolean)) ∈ wA := wA_of 1521 rfl rfl
set_option maxRecDepth 100000 in
theorem wd_1522 : (Jvm.Cond.methodLink "LateFallsModel" (111 : Nat) ({ cls := "java/lang/String", name := "length", desc := "()I" } : Jvm.MethodName)) ∈ wA := wA_of 1522 rfl rfl
set_option maxRecDepth 100000 in
theorem wd_1523 : (Jvm.Cond.methodLink "LateFallsModel" (116 : Nat) ({ cls := "java/lang/String", name := "charAt", desc := "(I)C" } : Jvm.MethodName)) ∈ wA := wA_of 1523 rfl rfl
set_option maxRecDepth 100000 in
theorem wd_1524 : (Jvm.Cond.methodLink "LateFallsModel" (127 : Nat) ({ cls := "LateFallsModel", name := "blames", desc := "(I)V" } : Jvm.MethodName)) ∈ wA := wA_of 1524 rfl rfl
set_option maxRecDepth 100000 in
theorem wd_1526 : (Jvm.Cond.instanceMethod ({ cls := "LateFallsModel", name := "blames", desc := "(I)V" } : Jvm.MethodName)) ∈ wA := wA_of 1526 rfl rfl
set_option maxRecDepth 100000 in
theorem wd_1527 : (Jvm.Cond.code ({ cls := "LateFallsModel", name := "blames", desc := "(I)V" } : Jvm.MethodName) prog_13_method_13_code (2 : Nat) (Option.none : Option Jvm.ClassFile.FieldType)) ∈ wA := wA_of 1527 rfl rfl
set_option maxRecDepth 100000 in
theorem wd_1528 : (Jvm.Cond.methodLink "LateFallsModel" (212 : Nat) ({ cls := "LateFallsModel", name := "number", desc := "(II)I" } : Jvm.MethodName)) ∈ wA := wA_of 1528 rfl rfl
set_option maxRecDepth 100000 in
theorem wd_1530 : (Jvm.Cond.instanceMethod ({ cls := "LateFallsModel", name := "number", desc := "(II)I" } : Jvm.MethodName)) ∈ wA := wA_of 1530 rfl rfl
set_option maxRecDepth 100000 in
theorem wd_1531 : (Jvm.Cond.code ({ cls := "LateFallsModel", name := "number", desc := "(II)I" } : Jvm.MethodName) prog_13_method_18_code (4 : Nat) (Option.some Jvm.ClassFile.FieldType.int)) ∈ wA := wA_of 1531 rfl rfl
set_option maxRecDepth 100000 in
theorem wd_1532 : (Jvm.Cond.methodLink "LateFallsModel" (266 : Nat) ({ cls := "LateFallsModel", name := "readStop", desc := "()V" } : Jvm.MethodName)) ∈ wA := wA_of 1532 rfl rfl
set_option maxRecDepth 100000 in
theorem wd_1534 : (Jvm.Cond.instanceMethod ({ cls := "LateFallsModel", name := "readStop", desc := "()V" } : Jvm.MethodName)) ∈ wA := wA_of 1534 rfl rfl
set_option maxRecDepth 100000 in
theorem wd_1535 : (Jvm.Cond.code ({ cls := "LateFallsModel", name := "readStop", desc := "()V" } : Jvm.MethodName) prog_13_method_38_code (1 : Nat) (Option.none : Option Jvm.ClassFile.FieldType)) ∈ wA := wA_of 1535 rfl rfl
set_option maxRecDepth 100000 in
theorem wd_1536 : (Jvm.Cond.methodLink "LateFallsModel" (171 : Nat) ({ cls := "LateFallsModel", name := "mustSign", desc := "(I)V" } : Jvm.MethodName)) ∈ wA := wA_of 1536 rfl rfl
set_option maxRecDepth 100000 in
theorem wd_1538 : (Jvm.Cond.instanceMethod ({ cls := "LateFallsModel", name := "mustSign", desc := "(I)V" } : Jvm.MethodName)) ∈ wA := wA_of 1538 rfl rfl
set_option maxRecDepth 100000 in
theorem wd_1539 : (Jvm.Cond.code ({ cls := "LateFallsModel", name := "mustSign", desc := "(I)V" } : Jvm.MethodName) prog_13_method_17_code (2 : Nat) (Option.none : Option Jvm.ClassFile.FieldType)) ∈ wA := wA_of 1539 rfl rfl
set_option maxRecDepth 100000 in
theorem wd_1540 : (Jvm.Cond.methodLink "LateFallsModel" (274 : Nat) ({ cls := "LateFallsModel", name := "readLine", desc := "()V" } : Jvm.MethodName)) ∈ wA := wA_of 1540 rfl rfl
set_option maxRecDepth 100000 in
theorem wd_1542 : (Jvm.Cond.instanceMethod ({ cls := "LateFallsModel", name := "readLine", desc := "()V" } : Jvm.MethodName)) ∈ wA := wA_of 1542 rfl rfl
set_option maxRecDepth 100000 in
theorem wd_1543 : (Jvm.Cond.code ({ cls := "LateFallsModel", name := "readLine", desc := "()V" } : Jvm.MethodName) prog_13_method_39_code (1 : Nat) (Option.none : Option Jvm.ClassFile.FieldType)) ∈ wA := wA_of 1543 rfl rfl
set_option maxRecDepth 100000 in
theorem wd_1545 : (Jvm.Cond.methodLink "LateFallsModel" (250 : Nat) ({ cls := "LateFallsModel", name := "readThing", desc := "()V" } : Jvm.MethodName)) ∈ wA := wA_of 1545 rfl rfl
set_option maxRecDepth 100000 in
theorem wd_1547 : (Jvm.Cond.instanceMethod ({ cls := "LateFallsModel", name := "readThing", desc := "()V" } : Jvm.MethodName)) ∈ wA := wA_of 1547 rfl rfl
set_option maxRecDepth 100000 in
theorem wd_1548 : (Jvm.Cond.code ({ cls := "LateFallsModel", name := "readThing", desc := "()V" } : Jvm.MethodName) prog_13_method_36_code (4 : Nat) (Option.none : Option Jvm.ClassFile.FieldType)) ∈ wA := wA_of 1548 rfl rfl
set_option maxRecDepth 100000 in
theorem wd_1549 : (Jvm.Cond.methodLink "LateFallsModel" (234 : Nat) ({ cls := "LateFallsModel", name := "begins", desc := "(II)Z" } : Jvm.MethodName)) ∈ wA := wA_of 1549 rfl rfl
set_option maxRecDepth 100000 in
theorem wd_1551 : (Jvm.Cond.instanceMethod ({ cls := "LateFallsModel", name := "begins", desc := "(II)Z" } : Jvm.MethodName)) ∈ wA := wA_of 1551 rfl rfl
set_option maxRecDepth 100000 in
theorem wd_1552 : (Jvm.Cond.code ({ cls := "LateFallsModel", name := "begins", desc := "(II)Z" } : Jvm.MethodName) prog_13_method_32_code (3 : Nat) (Option.some Jvm.ClassFile.FieldType.boolean)) ∈ wA := wA_of 1552 rfl rfl
set_option maxRecDepth 100000 in
theorem wd_1554 : (Jvm.Cond.methodLink "LateFallsModel" (226 : Nat) ({ cls := "LateFallsModel", name := "lays", desc := "(IIIII)V" } : Jvm.MethodName)) ∈ wA := wA_of 1554 rfl rfl
set_option maxRecDepth 100000 in
theorem wd_1556 : (Jvm.Cond.instanceMethod ({ cls := "LateFallsModel", name := "lays", desc := "(IIIII)V" } : Jvm.MethodName)) ∈ wA := wA_of 1556 rfl rfl
set_option maxRecDepth 100000 in
theorem wd_1557 : (Jvm.Cond.code ({ cls := "LateFallsModel", name := "lays", desc := "(IIIII)V" } : Jvm.MethodName) prog_13_method_35_code (6 : Nat) (Option.none : Option Jvm.ClassFile.FieldType)) ∈ wA := wA_of 1557 rfl rfl
set_option maxRecDepth 100000 in
theorem wd_1559 : (Jvm.Cond.methodLink "LateFallsModel" (240 : Nat) ({ cls := "LateFallsModel", name := "readUp", desc := "(I)V" } : Jvm.MethodName)) ∈ wA := wA_of 1559 rfl rfl
set_option maxRecDepth 100000 in
theorem wd_1561 : (Jvm.Cond.instanceMethod ({ cls := "LateFallsModel", name := "readUp", desc := "(I)V" } : Jvm.MethodName)) ∈ wA := wA_of 1561 rfl rfl
set_option maxRecDepth 100000 in
theorem wd_1562 : (Jvm.Cond.code ({ cls := "LateFallsModel", name := "readUp", desc := "(I)V" } : Jvm.MethodName) prog_13_method_33_code (5 : Nat) (Option.none : Option Jvm.ClassFile.FieldType)) ∈ wA := wA_of 1562 rfl rfl
set_option maxRecDepth 100000 in
theorem wd_1563 : (Jvm.Cond.methodLink "LateFallsModel" (216 : Nat) ({ cls := "LateFallsModel", name := "isFreeIn", desc := "([III)Z" } : Jvm.MethodName)) ∈ wA := wA_of 1563 rfl rfl
set_option maxRecDepth 100000 in
theorem wd_1564 : (Jvm.Cond.static ({ cls := "LateFallsModel", name := "isFreeIn", desc := "([III)Z" } : Jvm.MethodName)) ∈ wA := wA_of 1564 rfl rfl
set_option maxRecDepth 100000 in
theorem wd_1565 : (Jvm.Cond.code ({ cls := "LateFallsModel", name := "isFreeIn", desc := "([III)Z" } : Jvm.MethodName) prog_13_method_49_code (4 : Nat) (Option.some Jvm.ClassFile.FieldType.boolean)) ∈ wA := wA_of 1565 rfl rfl
set_option maxRecDepth 100000 in
theorem wd_1566 : (Jvm.Cond.methodLink "LateFallsModel" (230 : Nat) ({ cls := "LateFallsModel", name := "lyingIn", desc := "([II)I" } : Jvm.MethodName)) ∈ wA := wA_of 1566 rfl rfl
set_option maxRecDepth 100000 in
theorem wd_1567 : (Jvm.Cond.static ({ cls := "LateFallsModel", name := "lyingIn", desc := "([II)I" } : Jvm.MethodName)) ∈ wA := wA_of 1567 rfl rfl
set_option maxRecDepth 100000 in
theorem wd_1568 : (Jvm.Cond.code ({ cls := "LateFallsModel", name := "lyingIn", desc := "([II)I" } : Jvm.MethodName) prog_13_method_48_code (4 : Nat) (Option.some Jvm.ClassFile.FieldType.int)) ∈ wA := wA_of 1568 rfl rfl
set_option maxRecDepth 100000 in
theorem wd_1571 : (Jvm.Cond.methodLink "LateFallsModel" (245 : Nat) ({ cls := "LateFallsModel", name := "readOn", desc := "(I)V" } : Jvm.MethodName)) ∈ wA := wA_of 1571 rfl rfl
set_option maxRecDepth 100000 in
theorem wd_1573 : (Jvm.Cond.instanceMethod ({ cls := "LateFallsModel", name := "readOn", desc := "(I)V" } : Jvm.MethodName)) ∈ wA := wA_of 1573 rfl rfl
set_option maxRecDepth 100000 in
theorem wd_1574 : (Jvm.Cond.code ({ cls := "LateFallsModel", name := "readOn", desc := "(I)V" } : Jvm.MethodName) prog_13_method_34_code (3 : Nat) (Option.none : Option Jvm.ClassFile.FieldType)) ∈ wA := wA_of 1574 rfl rfl
set_option maxRecDepth 100000 in
theorem wd_1576 : (Jvm.Cond.methodLink "LateFallsModel" (255 : Nat) ({ cls := "LateFallsModel", name := "readWalker", desc := "()V" } : Jvm.MethodName)) ∈ wA := wA_of 1576 rfl rfl
set_option maxRecDepth 100000 in
theorem wd_1578 : (Jvm.Cond.instanceMethod ({ cls := "LateFallsModel", name := "readWalker", desc := "()V" } : Jvm.MethodName)) ∈ wA := wA_of 1578 rfl rfl
set_option maxRecDepth 100000 in
theorem wd_1579 : (Jvm.Cond.code ({ cls := "LateFallsModel", name := "readWalker", desc := "()V" } : Jvm.MethodName) prog_13_method_37_code (4 : Nat) (Option.none : Option Jvm.ClassFile.FieldType)) ∈ wA := wA_of 1579 rfl rfl
set_option maxRecDepth 100000 in
theorem wd_1582 : (Jvm.Cond.methodLink "LateFallsModel" (260 : Nat) ({ cls := "LateFallsModel", name := "beginsLaw", desc := "(II)V" } : Jvm.MethodName)) ∈ wA := wA_of 1582 rfl rfl
set_option maxRecDepth 100000 in
theorem wd_1584 : (Jvm.Cond.instanceMethod ({ cls := "LateFallsModel", name := "beginsLaw", desc := "(II)V" } : Jvm.MethodName)) ∈ wA := wA_of 1584 rfl rfl
set_option maxRecDepth 100000 in
theorem wd_1585 : (Jvm.Cond.code ({ cls := "LateFallsModel", name := "beginsLaw", desc := "(II)V" } : Jvm.MethodName) prog_13_method_21_code (3 : Nat) (Option.none : Option Jvm.ClassFile.FieldType)) ∈ wA := wA_of 1585 rfl rfl
set_option maxRecDepth 100000 in
theorem wd_1586 : (Jvm.Cond.methodLink "LateFallsModel" (174 : Nat) ({ cls := "LateFallsModel", name := "readSum", desc := "()V" } : Jvm.MethodName)) ∈ wA := wA_of 1586 rfl rfl
set_option maxRecDepth 100000 in
theorem wd_1588 : (Jvm.Cond.instanceMethod ({ cls := "LateFallsModel", name := "readSum", desc := "()V" } : Jvm.MethodName)) ∈ wA := wA_of 1588 rfl rfl
set_option maxRecDepth 100000 in
theorem wd_1589 : (Jvm.Cond.code ({ cls := "LateFallsModel", name := "readSum", desc := "()V" } : Jvm.MethodName) prog_13_method_26_code (2 : Nat) (Option.none : Option Jvm.ClassFile.FieldType)) ∈ wA := wA_of 1589 rfl rfl
set_option maxRecDepth 100000 in
theorem wd_1590 : (Jvm.Cond.methodLink "LateFallsModel" (177 : Nat) ({ cls := "LateFallsModel", name := "readTerm", desc := "()V" } : Jvm.MethodName)) ∈ wA := wA_of 1590 rfl rfl
set_option maxRecDepth 100000 in
theorem wd_1592 : (Jvm.Cond.instanceMethod ({ cls := "LateFallsModel", name := "readTerm", desc := "()V" } : Jvm.MethodName)) ∈ wA := wA_of 1592 rfl rfl
set_option maxRecDepth 100000 in
theorem wd_1593 : (Jvm.Cond.code ({ cls := "LateFallsModel", name := "readTerm", desc := "()V" } : Jvm.MethodName) prog_13_method_27_code (1 : Nat) (Option.none : Option Jvm.ClassFile.FieldType)) ∈ wA := wA_of 1593 rfl rfl
set_option maxRecDepth 100000 in
theorem wd_1594 : (Jvm.Cond.methodLink "LateFallsModel" (180 : Nat) ({ cls := "LateFallsModel", name := "readAtom", desc := "()V" } : Jvm.MethodName)) ∈ wA := wA_of 1594 rfl rfl
set_option maxRecDepth 100000 in
theorem wd_1596 : (Jvm.Cond.instanceMethod ({ cls := "LateFallsModel", name := "readAtom", desc := "()V" } : Jvm.MethodName)) ∈ wA := wA_of 1596 rfl rfl
set_option maxRecDepth 100000 in
theorem wd_1597 : (Jvm.Cond.code ({ cls := "LateFallsModel", name := "readAtom", desc := "()V" } : Jvm.MethodName) prog_13_method_31_code (3 : Nat) (Option.none : Option Jvm.ClassFile.FieldType)) ∈ wA := wA_of 1597 rfl rfl
set_option maxRecDepth 100000 in
theorem wd_1598 : (Jvm.Cond.methodLink "LateFallsModel" (209 : Nat) ({ cls := "LateFallsModel", name := "lawWord", desc := "()I" } : Jvm.MethodName)) ∈ wA := wA_of 1598 rfl rfl
set_option maxRecDepth 100000 in
theorem wd_1600 : (Jvm.Cond.instanceMethod ({ cls := "LateFallsModel", name := "lawWord", desc := "()I" } : Jvm.MethodName)) ∈ wA := wA_of 1600 rfl rfl
set_option maxRecDepth 100000 in
theorem wd_1601 : (Jvm.Cond.code ({ cls := "LateFallsModel", name := "lawWord", desc := "()I" } : Jvm.MethodName) prog_13_method_30_code (1 : Nat) (Option.some Jvm.ClassFile.FieldType.int)) ∈ wA := wA_of 1601 rfl rfl
set_option maxRecDepth 100000 in
theorem wd_1602 : (Jvm.Cond.methodLink "LateFallsModel" (203 : Nat) ({ cls := "LateFallsModel", name := "hangWord", desc := "()I" } : Jvm.MethodName)) ∈ wA := wA_of 1602 rfl rfl
set_option maxRecDepth 100000 in
theorem wd_1604 : (Jvm.Cond.instanceMethod ({ cls := "LateFallsModel", name := "hangWord", desc := "()I" } : Jvm.MethodName)) ∈ wA := wA_of 1604 rfl rfl
set_option maxRecDepth 100000 in
theorem wd_1605 : (Jvm.Cond.code ({ cls := "LateFallsModel", name := "hangWord", desc := "()I" } : Jvm.MethodName) prog_13_method_28_code (1 : Nat) (Option.some Jvm.ClassFile.FieldType.int)) ∈ wA := wA_of 1605 rfl rfl
set_option maxRecDepth 100000 in
theorem wd_1610 : (Jvm.Cond.methodLink "LateFallsModel" (206 : Nat) ({ cls := "LateFallsModel", name := "freeWord", desc := "()I" } : Jvm.MethodName)) ∈ wA := wA_of 1610 rfl rfl
set_option maxRecDepth 100000 in
theorem wd_1612 : (Jvm.Cond.instanceMethod ({ cls := "LateFallsModel", name := "freeWord", desc := "()I" } : Jvm.MethodName)) ∈ wA := wA_of 1612 rfl rfl
set_option maxRecDepth 100000 in
theorem wd_1613 : (Jvm.Cond.code ({ cls := "LateFallsModel", name := "freeWord", desc := "()I" } : Jvm.MethodName) prog_13_method_29_code (1 : Nat) (Option.some Jvm.ClassFile.FieldType.int)) ∈ wA := wA_of 1613 rfl rfl
set_option maxRecDepth 100000 in
theorem wd_1618 : (Jvm.Cond.methodLink "LateFallsModel" (152 : Nat) ({ cls := "LateFallsModel", name := "laysStep", desc := "(I)V" } : Jvm.MethodName)) ∈ wA := wA_of 1618 rfl rfl
set_option maxRecDepth 100000 in
theorem wd_1620 : (Jvm.Cond.instanceMethod ({ cls := "LateFallsModel", name := "laysStep", desc := "(I)V" } : Jvm.MethodName)) ∈ wA := wA_of 1620 rfl rfl
set_option maxRecDepth 100000 in
theorem wd_1621 : (Jvm.Cond.code ({ cls := "LateFallsModel", name := "laysStep", desc := "(I)V" } : Jvm.MethodName) prog_13_method_20_code (2 : Nat) (Option.none : Option Jvm.ClassFile.FieldType)) ∈ wA := wA_of 1621 rfl rfl
set_option maxRecDepth 100000 in
theorem wd_1622 : (Jvm.Cond.methodLink "LateFallsModel" (165 : Nat) ({ cls := "LateFallsModel", name := "isSign", desc := "(I)Z" } : Jvm.MethodName)) ∈ wA := wA_of 1622 rfl rfl
set_option maxRecDepth 100000 in
theorem wd_1624 : (Jvm.Cond.instanceMethod ({ cls := "LateFallsModel", name := "isSign", desc := "(I)Z" } : Jvm.MethodName)) ∈ wA := wA_of 1624 rfl rfl
set_option maxRecDepth 100000 in
theorem wd_1625 : (Jvm.Cond.code ({ cls := "LateFallsModel", name := "isSign", desc := "(I)Z" } : Jvm.MethodName) prog_13_method_16_code (2 : Nat) (Option.some Jvm.ClassFile.FieldType.boolean)) ∈ wA := wA_of 1625 rfl rfl
set_option maxRecDepth 100000 in
theorem wd_1626 : (Jvm.Cond.methodLink "LateFallsModel" (162 : Nat) ({ cls := "LateFallsModel", name := "goesIn", desc := "()V" } : Jvm.MethodName)) ∈ wA := wA_of 1626 rfl rfl
set_option maxRecDepth 100000 in
theorem wd_1628 : (Jvm.Cond.instanceMethod ({ cls := "LateFallsModel", name := "goesIn", desc := "()V" } : Jvm.MethodName)) ∈ wA := wA_of 1628 rfl rfl
set_option maxRecDepth 100000 in
theorem wd_1629 : (Jvm.Cond.code ({ cls := "LateFallsModel", name := "goesIn", desc := "()V" } : Jvm.MethodName) prog_13_method_22_code (1 : Nat) (Option.none : Option Jvm.ClassFile.FieldType)) ∈ wA := wA_of 1629 rfl rfl
set_option maxRecDepth 100000 in
theorem wd_1631 : (Jvm.Cond.methodLink "LateFallsModel" (168 : Nat) ({ cls := "LateFallsModel", name := "readTruth", desc := "()V" } : Jvm.MethodName)) ∈ wA := wA_of 1631 rfl rfl
set_option maxRecDepth 100000 in
theorem wd_1633 : (Jvm.Cond.instanceMethod ({ cls := "LateFallsModel", name := "readTruth", desc := "()V" } : Jvm.MethodName)) ∈ wA := wA_of 1633 rfl rfl
set_option maxRecDepth 100000 in
theorem wd_1634 : (Jvm.Cond.code ({ cls := "LateFallsModel", name := "readTruth", desc := "()V" } : Jvm.MethodName) prog_13_method_23_code (1 : Nat) (Option.none : Option Jvm.ClassFile.FieldType)) ∈ wA := wA_of 1634 rfl rfl
set_option maxRecDepth 100000 in
theorem wd_1635 : (Jvm.Cond.methodLink "LateFallsModel" (147 : Nat) ({ cls := "LateFallsModel", name := "readBoth", desc := "()V" } : Jvm.MethodName)) ∈ wA := wA_of 1635 rfl rfl
set_option maxRecDepth 100000 in
theorem wd_1637 : (Jvm.Cond.instanceMethod ({ cls := "LateFallsModel", name := "readBoth", desc := "()V" } : Jvm.MethodName)) ∈ wA := wA_of 1637 rfl rfl
set_option maxRecDepth 100000 in
theorem wd_1638 : (Jvm.Cond.code ({ cls := "LateFallsModel", name := "readBoth", desc := "()V" } : Jvm.MethodName) prog_13_method_24_code (1 : Nat) (Option.none : Option Jvm.ClassFile.FieldType)) ∈ wA := wA_of 1638 rfl rfl
set_option maxRecDepth 100000 in
theorem wd_1639 : (Jvm.Cond.methodLink "LateFallsModel" (155 : Nat) ({ cls := "LateFallsModel", name := "readUnit", desc := "()V" } : Jvm.MethodName)) ∈ wA := wA_of 1639 rfl rfl
set_option maxRecDepth 100000 in
theorem wd_1641 : (Jvm.Cond.instanceMethod ({ cls := "LateFallsModel", name := "readUnit", desc := "()V" } : Jvm.MethodName)) ∈ wA := wA_of 1641 rfl rfl
set_option maxRecDepth 100000 in
theorem wd_1642 : (Jvm.Cond.code ({ cls := "LateFallsModel", name := "readUnit", desc := "()V" } : Jvm.MethodName) prog_13_method_25_code (2 : Nat) (Option.none : Option Jvm.ClassFile.FieldType)) ∈ wA := wA_of 1642 rfl rfl
set_option maxRecDepth 100000 in
theorem wd_1646 : (Jvm.Cond.methodLink "LateFallsModel" (280 : Nat) ({ cls := "LateFallsModel", name := "things", desc := "()I" } : Jvm.MethodName)) ∈ wA := wA_of 1646 rfl rfl
set_option maxRecDepth 100000 in
theorem wd_1648 : (Jvm.Cond.instanceMethod ({ cls := "LateFallsModel", name := "things", desc := "()I" } : Jvm.MethodName)) ∈ wA := wA_of 1648 rfl rfl
set_option maxRecDepth 100000 in
theorem wd_1649 : (Jvm.Cond.code ({ cls := "LateFallsModel", name := "things", desc := "()I" } : Jvm.MethodName) prog_13_method_42_code (1 : Nat) (Option.some Jvm.ClassFile.FieldType.int)) ∈ wA := wA_of 1649 rfl rfl
set_option maxRecDepth 100000 in
theorem wd_1650 : (Jvm.Cond.methodLink "LateFallsModel" (283 : Nat) ({ cls := "LateFallsModel", name := "is", desc := "(II)Z" } : Jvm.MethodName)) ∈ wA := wA_of 1650 rfl rfl
set_option maxRecDepth 100000 in
theorem wd_1652 : (Jvm.Cond.instanceMethod ({ cls := "LateFallsModel", name := "is", desc := "(II)Z" } : Jvm.MethodName)) ∈ wA := wA_of 1652 rfl rfl
set_option maxRecDepth 100000 in
theorem wd_1653 : (Jvm.Cond.code ({ cls := "LateFallsModel", name := "is", desc := "(II)Z" } : Jvm.MethodName) prog_13_method_43_code (3 : Nat) (Option.some Jvm.ClassFile.FieldType.boolean)) ∈ wA := wA_of 1653 rfl rfl
set_option maxRecDepth 100000 in
theorem wd_1654 : (Jvm.Cond.methodLink "LateFallsLaw" (159 : Nat) ({ cls := "LateFallsModel", name := "fault", desc := "(I)I" } : Jvm.MethodName)) ∈ wA := wA_of 1654 rfl rfl
set_option maxRecDepth 100000 in
theorem wd_1655 : (Jvm.Cond.instanceMethod ({ cls := "LateFallsModel", name := "fault", desc := "(I)I" } : Jvm.MethodName)) ∈ wA := wA_of 1655 rfl rfl
set_option maxRecDepth 100000 in
theorem wd_1656 : (Jvm.Cond.selects "LateFallsModel" ({ cls := "LateFallsModel", name := "fault", desc := "(I)I" } : Jvm.MethodName) ({ cls := "LateFallsModel", name := "fault", desc := "(I)I" } : Jvm.MethodName)) ∈ wA := wA_of 1656 rfl rfl
set_option maxRecDepth 100000 in
theorem wd_1657 : (Jvm.Cond.code ({ cls := "LateFallsModel", name := "fault", desc := "(I)I" } : Jvm.MethodName) prog_13_method_41_code (2 : Nat) (Option.some Jvm.ClassFile.FieldType.int)) ∈ wA := wA_of 1657 rfl rfl
set_option maxRecDepth 100000 in
theorem wd_1658 : (Jvm.Cond.methodLink "LateFallsLaw" (163 : Nat) ({ cls := "LateFallsModel", name := "thing", desc := "(II)I" } : Jvm.MethodName)) ∈ wA := wA_of 1658 rfl rfl
set_option maxRecDepth 100000 in
theorem wd_1659 : (Jvm.Cond.instanceMethod ({ cls := "LateFallsModel", name := "thing", desc := "(II)I" } : Jvm.MethodName)) ∈ wA := wA_of 1659 rfl rfl
set_option maxRecDepth 100000 in
theorem wd_1660 : (Jvm.Cond.selects "LateFallsModel" ({ cls := "LateFallsModel", name := "thing", desc := "(II)I" } : Jvm.MethodName) ({ cls := "LateFallsModel", name := "thing", desc := "(II)I" } : Jvm.MethodName)) ∈ wA := wA_of 1660 rfl rfl
set_option maxRecDepth 100000 in
theorem wd_1661 : (Jvm.Cond.code ({ cls := "LateFallsModel", name := "thing", desc := "(II)I" } : Jvm.MethodName) prog_13_method_66_code (3 : Nat) (Option.some Jvm.ClassFile.FieldType.int)) ∈ wA := wA_of 1661 rfl rfl
set_option maxRecDepth 100000 in
theorem wd_1662 : (Jvm.Cond.methodLink "LateFallsModel" (363 : Nat) ({ cls := "LateFallsModel", name := "isThing", desc := "(J)Z" } : Jvm.MethodName)) ∈ wA := wA_of 1662 rfl rfl
set_option maxRecDepth 100000 in
theorem wd_1664 : (Jvm.Cond.instanceMethod ({ cls := "LateFallsModel", name := "isThing", desc := "(J)Z" } : Jvm.MethodName)) ∈ wA := wA_of 1664 rfl rfl
set_option maxRecDepth 100000 in
theorem wd_1665 : (Jvm.Cond.code ({ cls := "LateFallsModel", name := "isThing", desc := "(J)Z" } : Jvm.MethodName) prog_13_method_44_code (3 : Nat) (Option.some Jvm.ClassFile.FieldType.boolean)) ∈ wA := wA_of 1665 rfl rfl
set_option maxRecDepth 100000 in
theorem wd_1666 : (Jvm.Cond.constantLong "LateFallsModel" (366 : Nat) (5 : Int64)) ∈ wA := wA_of 1666 rfl rfl
set_option maxRecDepth 100000 in
theorem wd_1667 : (Jvm.Cond.methodLink "LateFallsLaw" (166 : Nat) ({ cls := "LateFallsModel", name := "walker", desc := "(II)I" } : Jvm.MethodName)) ∈ wA := wA_of 1667 rfl rfl
set_option maxRecDepth 100000 in
theorem wd_1668 : (Jvm.Cond.instanceMethod ({ cls := "LateFallsModel", name := "walker", desc := "(II)I" } : Jvm.MethodName)) ∈ wA := wA_of 1668 rfl rfl
set_option maxRecDepth 100000 in
theorem wd_1669 : (Jvm.Cond.selects "LateFallsModel" ({ cls := "LateFallsModel", name := "walker", desc := "(II)I" } : Jvm.MethodName) ({ cls := "LateFallsModel", name := "walker", desc := "(II)I" } : Jvm.MethodName)) ∈ wA := wA_of 1669 rfl rfl
set_option maxRecDepth 100000 in
theorem wd_1670 : (Jvm.Cond.code ({ cls := "LateFallsModel", name := "walker", desc := "(II)I" } : Jvm.MethodName) prog_13_method_67_code (3 : Nat) (Option.some Jvm.ClassFile.FieldType.int)) ∈ wA := wA_of 1670 rfl rfl
set_option maxRecDepth 100000 in
theorem wd_1671 : (Jvm.Cond.methodLink "LateFallsModel" (368 : Nat) ({ cls := "LateFallsModel", name := "isWalker", desc := "(I)Z" } : Jvm.MethodName)) ∈ wA := wA_of 1671 rfl rfl
set_option maxRecDepth 100000 in
theorem wd_1673 : (Jvm.Cond.instanceMethod ({ cls := "LateFallsModel", name := "isWalker", desc := "(I)Z" } : Jvm.MethodName)) ∈ wA := wA_of 1673 rfl rfl
set_option maxRecDepth 100000 in
theorem wd_1674 : (Jvm.Cond.code ({ cls := "LateFallsModel", name := "isWalker", desc := "(I)Z" } : Jvm.MethodName) prog_13_method_47_code (2 : Nat) (Option.some Jvm.ClassFile.FieldType.boolean)) ∈ wA := wA_of 1674 rfl rfl
set_option maxRecDepth 100000 in
theorem wd_1675 : (Jvm.Cond.constantLong "LateFallsModel" (371 : Nat) (2 : Int64)) ∈ wA := wA_of 1675 rfl rfl
set_option maxRecDepth 100000 in
theorem wd_1676 : (Jvm.Cond.methodLink "LateFallsModel" (345 : Nat) ({ cls := "LateFallsModel", name := "walks", desc := "(II)I" } : Jvm.MethodName)) ∈ wA := wA_of 1676 rfl rfl
set_option maxRecDepth 100000 in
theorem wd_1678 : (Jvm.Cond.instanceMethod ({ cls := "LateFallsModel", name := "walks", desc := "(II)I" } : Jvm.MethodName)) ∈ wA := wA_of 1678 rfl rfl
set_option maxRecDepth 100000 in
theorem wd_1679 : (Jvm.Cond.code ({ cls := "LateFallsModel", name := "walks", desc := "(II)I" } : Jvm.MethodName) prog_13_method_51_code (3 : Nat) (Option.some Jvm.ClassFile.FieldType.int)) ∈ wA := wA_of 1679 rfl rfl
set_option maxRecDepth 100000 in
theorem wd_1680 : (Jvm.Cond.methodLink "LateFallsLaw" (169 : Nat) ({ cls := "LateFallsModel", name := "height", desc := "(I)I" } : Jvm.MethodName)) ∈ wA := wA_of 1680 rfl rfl
set_option maxRecDepth 100000 in
theorem wd_1681 : (Jvm.Cond.instanceMethod ({ cls := "LateFallsModel", name := "height", desc := "(I)I" } : Jvm.MethodName)) ∈ wA := wA_of 1681 rfl rfl
set_option maxRecDepth 100000 in
theorem wd_1682 : (Jvm.Cond.selects "LateFallsModel" ({ cls := "LateFallsModel", name := "height", desc := "(I)I" } : Jvm.MethodName) ({ cls := "LateFallsModel", name := "height", desc := "(I)I" } : Jvm.MethodName)) ∈ wA := wA_of 1682 rfl rfl
set_option maxRecDepth 100000 in
theorem wd_1683 : (Jvm.Cond.code ({ cls := "LateFallsModel", name := "height", desc := "(I)I" } : Jvm.MethodName) prog_13_method_68_code (2 : Nat) (Option.some Jvm.ClassFile.FieldType.int)) ∈ wA := wA_of 1683 rfl rfl
set_option maxRecDepth 100000 in
theorem wd_1684 : (Jvm.Cond.methodLink "LateFallsModel" (286 : Nat) ({ cls := "LateFallsModel", name := "isColumn", desc := "(J)Z" } : Jvm.MethodName)) ∈ wA := wA_of 1684 rfl rfl
set_option maxRecDepth 100000 in
theorem wd_1686 : (Jvm.Cond.instanceMethod ({ cls := "LateFallsModel", name := "isColumn", desc := "(J)Z" } : Jvm.MethodName)) ∈ wA := wA_of 1686 rfl rfl
set_option maxRecDepth 100000 in
theorem wd_1687 : (Jvm.Cond.code ({ cls := "LateFallsModel", name := "isColumn", desc := "(J)Z" } : Jvm.MethodName) prog_13_method_45_code (3 : Nat) (Option.some Jvm.ClassFile.FieldType.boolean)) ∈ wA := wA_of 1687 rfl rfl
set_option maxRecDepth 100000 in
theorem wd_1688 : (Jvm.Cond.methodLink "LateFallsModel" (311 : Nat) ({ cls := "LateFallsModel", name := "lying", desc := "(I)I" } : Jvm.MethodName)) ∈ wA := wA_of 1688 rfl rfl
set_option maxRecDepth 100000 in
theorem wd_1690 : (Jvm.Cond.instanceMethod ({ cls := "LateFallsModel", name := "lying", desc := "(I)I" } : Jvm.MethodName)) ∈ wA := wA_of 1690 rfl rfl
set_option maxRecDepth 100000 in
theorem wd_1691 : (Jvm.Cond.code ({ cls := "LateFallsModel", name := "lying", desc := "(I)I" } : Jvm.MethodName) prog_13_method_50_code (2 : Nat) (Option.some Jvm.ClassFile.FieldType.int)) ∈ wA := wA_of 1691 rfl rfl
set_option maxRecDepth 100000 in
theorem wd_1692 : (Jvm.Cond.methodLink "LateFallsLaw" (172 : Nat) ({ cls := "LateFallsModel", name := "at", desc := "(II)I" } : Jvm.MethodName)) ∈ wA := wA_of 1692 rfl rfl
set_option maxRecDepth 100000 in
theorem wd_1693 : (Jvm.Cond.instanceMethod ({ cls := "LateFallsModel", name := "at", desc := "(II)I" } : Jvm.MethodName)) ∈ wA := wA_of 1693 rfl rfl
set_option maxRecDepth 100000 in
theorem wd_1694 : (Jvm.Cond.selects "LateFallsModel" ({ cls := "LateFallsModel", name := "at", desc := "(II)I" } : Jvm.MethodName) ({ cls := "LateFallsModel", name := "at", desc := "(II)I" } : Jvm.MethodName)) ∈ wA := wA_of 1694 rfl rfl
set_option maxRecDepth 100000 in
theorem wd_1695 : (Jvm.Cond.code ({ cls := "LateFallsModel", name := "at", desc := "(II)I" } : Jvm.MethodName) prog_13_method_69_code (4 : Nat) (Option.some Jvm.ClassFile.FieldType.int)) ∈ wA := wA_of 1695 rfl rfl
set_option maxRecDepth 100000 in
theorem wd_1696 : (Jvm.Cond.methodLink "LateFallsModel" (373 : Nat) ({ cls := "LateFallsModel", name := "isPlace", desc := "(JJ)Z" } : Jvm.MethodName)) ∈ wA := wA_of 1696 rfl rfl
set_option maxRecDepth 100000 in
theorem wd_1698 : (Jvm.Cond.instanceMethod ({ cls := "LateFallsModel", name := "isPlace", desc := "(JJ)Z" } : Jvm.MethodName)) ∈ wA := wA_of 1698 rfl rfl
set_option maxRecDepth 100000 in
theorem wd_1699 : (Jvm.Cond.code ({ cls := "LateFallsModel", name := "isPlace", desc := "(JJ)Z" } : Jvm.MethodName) prog_13_method_46_code (5 : Nat) (Option.some Jvm.ClassFile.FieldType.boolean)) ∈ wA := wA_of 1699 rfl rfl
set_option maxRecDepth 100000 in
theorem wd_1700 : (Jvm.Cond.methodLink "LateFallsLaw" (176 : Nat) ({ cls := "LateFallsModel", name := "hanging", desc := "(IIII)I" } : Jvm.MethodName)) ∈ wA := wA_of 1700 rfl rfl
set_option maxRecDepth 100000 in
theorem wd_1701 : (Jvm.Cond.instanceMethod ({ cls := "LateFallsModel", name := "hanging", desc := "(IIII)I" } : Jvm.MethodName)) ∈ wA := wA_of 1701 rfl rfl
set_option maxRecDepth 100000 in
theorem wd_1702 : (Jvm.Cond.selects "LateFallsModel" ({ cls := "LateFallsModel", name := "hanging", desc := "(IIII)I" } : Jvm.MethodName) ({ cls := "LateFallsModel", name := "hanging", desc := "(IIII)I" } : Jvm.MethodName)) ∈ wA := wA_of 1702 rfl rfl
set_option maxRecDepth 100000 in
theorem wd_1703 : (Jvm.Cond.code ({ cls := "LateFallsModel", name := "hanging", desc := "(IIII)I" } : Jvm.MethodName) prog_13_method_70_code (5 : Nat) (Option.some Jvm.ClassFile.FieldType.int)) ∈ wA := wA_of 1703 rfl rfl
set_option maxRecDepth 100000 in
theorem wd_1704 : (Jvm.Cond.constantLong "LateFallsModel" (377 : Nat) (999 : Int64)) ∈ wA := wA_of 1704 rfl rfl
set_option maxRecDepth 100000 in
theorem wd_1705 : (Jvm.Cond.methodLink "LateFallsModel" (359 : Nat) ({ cls := "LateFallsModel", name := "hangsFor", desc := "(IIIII)I" } : Jvm.MethodName)) ∈ wA := wA_of 1705 rfl rfl
set_option maxRecDepth 100000 in
theorem wd_1707 : (Jvm.Cond.instanceMethod ({ cls := "LateFallsModel", name := "hangsFor", desc := "(IIIII)I" } : Jvm.MethodName)) ∈ wA := wA_of 1707 rfl rfl
set_option maxRecDepth 100000 in
theorem wd_1708 : (Jvm.Cond.code ({ cls := "LateFallsModel", name := "hangsFor", desc := "(IIIII)I" } : Jvm.MethodName) prog_13_method_55_code (6 : Nat) (Option.some Jvm.ClassFile.FieldType.int)) ∈ wA := wA_of 1708 rfl rfl
set_option maxRecDepth 100000 in
theorem wd_1709 : (Jvm.Cond.methodLink "LateFallsModel" (313 : Nat) ({ cls := "LateFallsModel", name := "lawOf", desc := "(II)I" } : Jvm.MethodName)) ∈ wA := wA_of 1709 rfl rfl
set_option maxRecDepth 100000 in
theorem wd_1711 : (Jvm.Cond.instanceMethod ({ cls := "LateFallsModel", name := "lawOf", desc := "(II)I" } : Jvm.MethodName)) ∈ wA := wA_of 1711 rfl rfl
set_option maxRecDepth 100000 in
theorem wd_1712 : (Jvm.Cond.code ({ cls := "LateFallsModel", name := "lawOf", desc := "(II)I" } : Jvm.MethodName) prog_13_method_54_code (6 : Nat) (Option.some Jvm.ClassFile.FieldType.int)) ∈ wA := wA_of 1712 rfl rfl
set_option maxRecDepth 100000 in
theorem wd_1713 : (Jvm.Cond.methodLink "LateFallsModel" (307 : Nat) ({ cls := "LateFallsModel", name := "done", desc := "(IJJ)I" } : Jvm.MethodName)) ∈ wA := wA_of 1713 rfl rfl
set_option maxRecDepth 100000 in
theorem wd_1714 : (Jvm.Cond.static ({ cls := "LateFallsModel", name := "done", desc := "(IJJ)I" } : Jvm.MethodName)) ∈ wA := wA_of 1714 rfl rfl
set_option maxRecDepth 100000 in
theorem wd_1715 : (Jvm.Cond.code ({ cls := "LateFallsModel", name := "done", desc := "(IJJ)I" } : Jvm.MethodName) prog_13_method_53_code (5 : Nat) (Option.some Jvm.ClassFile.FieldType.int)) ∈ wA := wA_of 1715 rfl rfl
set_option maxRecDepth 100000 in
theorem wd_1716 : (Jvm.Cond.methodLink "LateFallsModel" (303 : Nat) ({ cls := "LateFallsModel", name := "bound", desc := "(J)I" } : Jvm.MethodName)) ∈ wA := wA_of 1716 rfl rfl
set_option maxRecDepth 100000 in
theorem wd_1717 : (Jvm.Cond.static ({ cls := "LateFallsModel", name := "bound", desc := "(J)I" } : Jvm.MethodName)) ∈ wA := wA_of 1717 rfl rfl
set_option maxRecDepth 100000 in
theorem wd_1718 : (Jvm.Cond.code ({ cls := "LateFallsModel", name := "bound", desc := "(J)I" } : Jvm.MethodName) prog_13_method_52_code (2 : Nat) (Option.some Jvm.ClassFile.FieldType.int)) ∈ wA := wA_of 1718 rfl rfl
set_option maxRecDepth 100000 in
theorem wd_1719 : (Jvm.Cond.constantLong "LateFallsModel" (290 : Nat) (-1000000 : Int64)) ∈ wA := wA_of 1719 rfl rfl
set_option maxRecDepth 100000 in
theorem wd_1720 : (Jvm.Cond.constantLong "LateFallsModel" (292 : Nat) (1000000 : Int64)) ∈ wA := wA_of 1720 rfl rfl
set_option maxRecDepth 100000 in
theorem wd_1721 : (Jvm.Cond.methodLink "LateFallsModel" (294 : Nat) ({ cls := "java/lang/Math", name := "min", desc := "(JJ)J" } : Jvm.MethodName)) ∈ wA := wA_of 1721 rfl rfl
set_option maxRecDepth 100000 in
theorem wd_1722 : (Jvm.Cond.methodLink "LateFallsModel" (300 : Nat) ({ cls := "java/lang/Math", name := "max", desc := "(JJ)J" } : Jvm.MethodName)) ∈ wA := wA_of 1722 rfl rfl
set_option maxRecDepth 100000 in
theorem wd_1723 : (Jvm.Cond.methodLink "LateFallsModel" (316 : Nat) ({ cls := "java/lang/Math", name := "min", desc := "(II)I" } : Jvm.MethodName)) ∈ wA := wA_of 1723 rfl rfl
set_option maxRecDepth 100000 in
theorem wd_1724 : (Jvm.Cond.methodLink "LateFallsModel" (318 : Nat) ({ cls := "java/lang/Math", name := "max", desc := "(II)I" } : Jvm.MethodName)) ∈ wA := wA_of 1724 rfl rfl
set_option maxRecDepth 100000 in
theorem wd_1725 : (Jvm.Cond.methodLink "LateFallsLaw" (180 : Nat) ({ cls := "LateFallsModel", name := "letGo", desc := "(III)I" } : Jvm.MethodName)) ∈ wA := wA_of 1725 rfl rfl
set_option maxRecDepth 100000 in
theorem wd_1726 : (Jvm.Cond.instanceMethod ({ cls := "LateFallsModel", name := "letGo", desc := "(III)I" } : Jvm.MethodName)) ∈ wA := wA_of 1726 rfl rfl
set_option maxRecDepth 100000 in
theorem wd_1727 : (Jvm.Cond.selects "LateFallsModel" ({ cls := "LateFallsModel", name := "letGo", desc := "(III)I" } : Jvm.MethodName) ({ cls := "LateFallsModel", name := "letGo", desc := "(III)I" } : Jvm.MethodName)) ∈ wA := wA_of 1727 rfl rfl
set_option maxRecDepth 100000 in
theorem wd_1728 : (Jvm.Cond.code ({ cls := "LateFallsModel", name := "letGo", desc := "(III)I" } : Jvm.MethodName) prog_13_method_77_code (5 : Nat) (Option.some Jvm.ClassFile.FieldType.int)) ∈ wA := wA_of 1728 rfl rfl
set_option maxRecDepth 100000 in
theorem wd_1729 : (Jvm.Cond.methodLink "LateFallsModel" (379 : Nat) ({ cls := "LateFallsModel", name := "whyLet", desc := "(JJJ)I" } : Jvm.MethodName)) ∈ wA := wA_of 1729 rfl rfl
set_option maxRecDepth 100000 in
theorem wd_1731 : (Jvm.Cond.instanceMethod ({ cls := "LateFallsModel", name := "whyLet", desc := "(JJJ)I" } : Jvm.MethodName)) ∈ wA := wA_of 1731 rfl rfl
set_option maxRecDepth 100000 in
theorem wd_1732 : (Jvm.Cond.code ({ cls := "LateFallsModel", name := "whyLet", desc := "(JJJ)I" } : Jvm.MethodName) prog_13_method_74_code (7 : Nat) (Option.some Jvm.ClassFile.FieldType.int)) ∈ wA := wA_of 1732 rfl rfl
set_option maxRecDepth 100000 in
theorem wd_1733 : (Jvm.Cond.methodLink "LateFallsModel" (383 : Nat) ({ cls := "LateFallsModel", name := "keeps", desc := "()V" } : Jvm.MethodName)) ∈ wA := wA_of 1733 rfl rfl
set_option maxRecDepth 100000 in
theorem wd_1735 : (Jvm.Cond.instanceMethod ({ cls := "LateFallsModel", name := "keeps", desc := "()V" } : Jvm.MethodName)) ∈ wA := wA_of 1735 rfl rfl
set_option maxRecDepth 100000 in
theorem wd_1736 : (Jvm.Cond.code ({ cls := "LateFallsModel", name := "keeps", desc := "()V" } : Jvm.MethodName) prog_13_method_71_code (2 : Nat) (Option.none : Option Jvm.ClassFile.FieldType)) ∈ wA := wA_of 1736 rfl rfl
set_option maxRecDepth 100000 in
theorem wd_1737 : (Jvm.Cond.methodLink "LateFallsModel" (386 : Nat) ({ cls := "LateFallsModel", name := "lets", desc := "(III)I" } : Jvm.MethodName)) ∈ wA := wA_of 1737 rfl rfl
set_option maxRecDepth 100000 in
theorem wd_1739 : (Jvm.Cond.instanceMethod ({ cls := "LateFallsModel", name := "lets", desc := "(III)I" } : Jvm.MethodName)) ∈ wA := wA_of 1739 rfl rfl
set_option maxRecDepth 100000 in
theorem wd_1740 : (Jvm.Cond.code ({ cls := "LateFallsModel", name := "lets", desc := "(III)I" } : Jvm.MethodName) prog_13_method_65_code (5 : Nat) (Option.some Jvm.ClassFile.FieldType.int)) ∈ wA := wA_of 1740 rfl rfl
set_option maxRecDepth 100000 in
theorem wd_1741 : (Jvm.Cond.methodLink "LateFallsModel" (348 : Nat) ({ cls := "LateFallsModel", name := "drops", desc := "(II)V" } : Jvm.MethodName)) ∈ wA := wA_of 1741 rfl rfl
set_option maxRecDepth 100000 in
theorem wd_1743 : (Jvm.Cond.instanceMethod ({ cls := "LateFallsModel", name := "drops", desc := "(II)V" } : Jvm.MethodName)) ∈ wA := wA_of 1743 rfl rfl
set_option maxRecDepth 100000 in
theorem wd_1744 : (Jvm.Cond.code ({ cls := "LateFallsModel", name := "drops", desc := "(II)V" } : Jvm.MethodName) prog_13_method_60_code (8 : Nat) (Option.none : Option Jvm.ClassFile.FieldType)) ∈ wA := wA_of 1744 rfl rfl
set_option maxRecDepth 100000 in
theorem wd_1745 : (Jvm.Cond.methodLink "LateFallsModel" (336 : Nat) ({ cls := "LateFallsModel", name := "fallingWith", desc := "(II)I" } : Jvm.MethodName)) ∈ wA := wA_of 1745 rfl rfl
set_option maxRecDepth 100000 in
theorem wd_1747 : (Jvm.Cond.instanceMethod ({ cls := "LateFallsModel", name := "fallingWith", desc := "(II)I" } : Jvm.MethodName)) ∈ wA := wA_of 1747 rfl rfl
set_option maxRecDepth 100000 in
theorem wd_1748 : (Jvm.Cond.code ({ cls := "LateFallsModel", name := "fallingWith", desc := "(II)I" } : Jvm.MethodName) prog_13_method_58_code (6 : Nat) (Option.some Jvm.ClassFile.FieldType.int)) ∈ wA := wA_of 1748 rfl rfl
set_option maxRecDepth 100000 in
theorem wd_1749 : (Jvm.Cond.methodLink "LateFallsModel" (320 : Nat) ({ cls := "LateFallsModel", name := "hangsIn", desc := "(II)Z" } : Jvm.MethodName)) ∈ wA := wA_of 1749 rfl rfl
set_option maxRecDepth 100000 in
theorem wd_1751 : (Jvm.Cond.instanceMethod ({ cls := "LateFallsModel", name := "hangsIn", desc := "(II)Z" } : Jvm.MethodName)) ∈ wA := wA_of 1751 rfl rfl
set_option maxRecDepth 100000 in
theorem wd_1752 : (Jvm.Cond.code ({ cls := "LateFallsModel", name := "hangsIn", desc := "(II)Z" } : Jvm.MethodName) prog_13_method_57_code (3 : Nat) (Option.some Jvm.ClassFile.FieldType.boolean)) ∈ wA := wA_of 1752 rfl rfl
set_option maxRecDepth 100000 in
theorem wd_1753 : (Jvm.Cond.methodLink "LateFallsModel" (323 : Nat) ({ cls := "LateFallsModel", name := "has", desc := "(II)Z" } : Jvm.MethodName)) ∈ wA := wA_of 1753 rfl rfl
set_option maxRecDepth 100000 in
theorem wd_1754 : (Jvm.Cond.static ({ cls := "LateFallsModel", name := "has", desc := "(II)Z" } : Jvm.MethodName)) ∈ wA := wA_of 1754 rfl rfl
set_option maxRecDepth 100000 in
theorem wd_1755 : (Jvm.Cond.code ({ cls := "LateFallsModel", name := "has", desc := "(II)Z" } : Jvm.MethodName) prog_13_method_5_code (2 : Nat) (Option.some Jvm.ClassFile.FieldType.boolean)) ∈ wA := wA_of 1755 rfl rfl
set_option maxRecDepth 100000 in
theorem wd_1756 : (Jvm.Cond.methodLink "LateFallsModel" (326 : Nat) ({ cls := "LateFallsModel", name := "comesToo", desc := "(III)Z" } : Jvm.MethodName)) ∈ wA := wA_of 1756 rfl rfl
set_option maxRecDepth 100000 in
theorem wd_1758 : (Jvm.Cond.instanceMethod ({ cls := "LateFallsModel", name := "comesToo", desc := "(III)Z" } : Jvm.MethodName)) ∈ wA := wA_of 1758 rfl rfl
set_option maxRecDepth 100000 in
theorem wd_1759 : (Jvm.Cond.code ({ cls := "LateFallsModel", name := "comesToo", desc := "(III)Z" } : Jvm.MethodName) prog_13_method_59_code (5 : Nat) (Option.some Jvm.ClassFile.FieldType.boolean)) ∈ wA := wA_of 1759 rfl rfl
set_option maxRecDepth 100000 in
theorem wd_1760 : (Jvm.Cond.methodLink "LateFallsModel" (330 : Nat) ({ cls := "LateFallsModel", name := "size", desc := "(I)I" } : Jvm.MethodName)) ∈ wA := wA_of 1760 rfl rfl
set_option maxRecDepth 100000 in
theorem wd_1761 : (Jvm.Cond.static ({ cls := "LateFallsModel", name := "size", desc := "(I)I" } : Jvm.MethodName)) ∈ wA := wA_of 1761 rfl rfl
set_option maxRecDepth 100000 in
theorem wd_1762 : (Jvm.Cond.code ({ cls := "LateFallsModel", name := "size", desc := "(I)I" } : Jvm.MethodName) prog_13_method_6_code (3 : Nat) (Option.some Jvm.ClassFile.FieldType.int)) ∈ wA := wA_of 1762 rfl rfl
set_option maxRecDepth 100000 in
theorem wd_1763 : (Jvm.Cond.methodLink "LateFallsModel" (333 : Nat) ({ cls := "LateFallsModel", name := "setsFree", desc := "(II)Z" } : Jvm.MethodName)) ∈ wA := wA_of 1763 rfl rfl
set_option maxRecDepth 100000 in
theorem wd_1765 : (Jvm.Cond.instanceMethod ({ cls := "LateFallsModel", name := "setsFree", desc := "(II)Z" } : Jvm.MethodName)) ∈ wA := wA_of 1765 rfl rfl
set_option maxRecDepth 100000 in
theorem wd_1766 : (Jvm.Cond.code ({ cls := "LateFallsModel", name := "setsFree", desc := "(II)Z" } : Jvm.MethodName) prog_13_method_56_code (3 : Nat) (Option.some Jvm.ClassFile.FieldType.boolean)) ∈ wA := wA_of 1766 rfl rfl
set_option maxRecDepth 100000 in
theorem wd_1767 : (Jvm.Cond.methodLink "LateFallsLaw" (184 : Nat) ({ cls := "LateFallsModel", name := "take", desc := "(I)I" } : Jvm.MethodName)) ∈ wA := wA_of 1767 rfl rfl
set_option maxRecDepth 100000 in
theorem wd_1768 : (Jvm.Cond.instanceMethod ({ cls := "LateFallsModel", name := "take", desc := "(I)I" } : Jvm.MethodName)) ∈ wA := wA_of 1768 rfl rfl
set_option maxRecDepth 100000 in
theorem wd_1769 : (Jvm.Cond.selects "LateFallsModel" ({ cls := "LateFallsModel", name := "take", desc := "(I)I" } : Jvm.MethodName) ({ cls := "LateFallsModel", name := "take", desc := "(I)I" } : Jvm.MethodName)) ∈ wA := wA_of 1769 rfl rfl
set_option maxRecDepth 100000 in
theorem wd_1770 : (Jvm.Cond.code ({ cls := "LateFallsModel", name := "take", desc := "(I)I" } : Jvm.MethodName) prog_13_method_78_code (3 : Nat) (Option.some Jvm.ClassFile.FieldType.int)) ∈ wA := wA_of 1770 rfl rfl
set_option maxRecDepth 100000 in
theorem wd_1771 : (Jvm.Cond.methodLink "LateFallsModel" (390 : Nat) ({ cls := "LateFallsModel", name := "whyTake", desc := "(J)I" } : Jvm.MethodName)) ∈ wA := wA_of 1771 rfl rfl
set_option maxRecDepth 100000 in
theorem wd_1773 : (Jvm.Cond.instanceMethod ({ cls := "LateFallsModel", name := "whyTake", desc := "(J)I" } : Jvm.MethodName)) ∈ wA := wA_of 1773 rfl rfl
set_option maxRecDepth 100000 in
theorem wd_1774 : (Jvm.Cond.code ({ cls := "LateFallsModel", name := "whyTake", desc := "(J)I" } : Jvm.MethodName) prog_13_method_75_code (4 : Nat) (Option.some Jvm.ClassFile.FieldType.int)) ∈ wA := wA_of 1774 rfl rfl
set_option maxRecDepth 100000 in
theorem wd_1775 : (Jvm.Cond.methodLink "LateFallsModel" (393 : Nat) ({ cls := "LateFallsModel", name := "takes", desc := "(I)V" } : Jvm.MethodName)) ∈ wA := wA_of 1775 rfl rfl
set_option maxRecDepth 100000 in
theorem wd_1777 : (Jvm.Cond.instanceMethod ({ cls := "LateFallsModel", name := "takes", desc := "(I)V" } : Jvm.MethodName)) ∈ wA := wA_of 1777 rfl rfl
set_option maxRecDepth 100000 in
theorem wd_1778 : (Jvm.Cond.code ({ cls := "LateFallsModel", name := "takes", desc := "(I)V" } : Jvm.MethodName) prog_13_method_76_code (2 : Nat) (Option.none : Option Jvm.ClassFile.FieldType)) ∈ wA := wA_of 1778 rfl rfl
set_option maxRecDepth 100000 in
theorem wd_1779 : (Jvm.Cond.methodLink "LateFallsLaw" (189 : Nat) ({ cls := "LateFallsModel", name := "quake", desc := "()I" } : Jvm.MethodName)) ∈ wA := wA_of 1779 rfl rfl
set_option maxRecDepth 100000 in
theorem wd_1780 : (Jvm.Cond.instanceMethod ({ cls := "LateFallsModel", name := "quake", desc := "()I" } : Jvm.MethodName)) ∈ wA := wA_of 1780 rfl rfl
set_option maxRecDepth 100000 in
theorem wd_1781 : (Jvm.Cond.selects "LateFallsModel" ({ cls := "LateFallsModel", name := "quake", desc := "()I" } : Jvm.MethodName) ({ cls := "LateFallsModel", name := "quake", desc := "()I" } : Jvm.MethodName)) ∈ wA := wA_of 1781 rfl rfl
set_option maxRecDepth 100000 in
theorem wd_1782 : (Jvm.Cond.code ({ cls := "LateFallsModel", name := "quake", desc := "()I" } : Jvm.MethodName) prog_13_method_80_code (1 : Nat) (Option.some Jvm.ClassFile.FieldType.int)) ∈ wA := wA_of 1782 rfl rfl
set_option maxRecDepth 100000 in
theorem wd_1783 : (Jvm.Cond.methodLink "LateFallsModel" (396 : Nat) ({ cls := "LateFallsModel", name := "quakes", desc := "()I" } : Jvm.MethodName)) ∈ wA := wA_of 1783 rfl rfl
set_option maxRecDepth 100000 in
theorem wd_1785 : (Jvm.Cond.instanceMethod ({ cls := "LateFallsModel", name := "quakes", desc := "()I" } : Jvm.MethodName)) ∈ wA := wA_of 1785 rfl rfl
set_option maxRecDepth 100000 in
theorem wd_1786 : (Jvm.Cond.code ({ cls := "LateFallsModel", name := "quakes", desc := "()I" } : Jvm.MethodName) prog_13_method_79_code (1 : Nat) (Option.some Jvm.ClassFile.FieldType.int)) ∈ wA := wA_of 1786 rfl rfl
set_option maxRecDepth 100000 in
theorem wd_1787 : (Jvm.Cond.methodLink "LateFallsModel" (351 : Nat) ({ cls := "LateFallsModel", name := "fallAll", desc := "(Z)V" } : Jvm.MethodName)) ∈ wA := wA_of 1787 rfl rfl
set_option maxRecDepth 100000 in
theorem wd_1789 : (Jvm.Cond.instanceMethod ({ cls := "LateFallsModel", name := "fallAll", desc := "(Z)V" } : Jvm.MethodName)) ∈ wA := wA_of 1789 rfl rfl
set_option maxRecDepth 100000 in
theorem wd_1790 : (Jvm.Cond.code ({ cls := "LateFallsModel", name := "fallAll", desc := "(Z)V" } : Jvm.MethodName) prog_13_method_61_code (5 : Nat) (Option.none : Option Jvm.ClassFile.FieldType)) ∈ wA := wA_of 1790 rfl rfl
set_option maxRecDepth 100000 in
theorem wd_1791 : (Jvm.Cond.methodLink "LateFallsLaw" (192 : Nat) ({ cls := "LateFallsModel", name := "hours", desc := "(I)I" } : Jvm.MethodName)) ∈ wA := wA_of 1791 rfl rfl
set_option maxRecDepth 100000 in
theorem wd_1792 : (Jvm.Cond.instanceMethod ({ cls := "LateFallsModel", name := "hours", desc := "(I)I" } : Jvm.MethodName)) ∈ wA := wA_of 1792 rfl rfl
set_option maxRecDepth 100000 in
theorem wd_1793 : (Jvm.Cond.selects "LateFallsModel" ({ cls := "LateFallsModel", name := "hours", desc := "(I)I" } : Jvm.MethodName) ({ cls := "LateFallsModel", name := "hours", desc := "(I)I" } : Jvm.MethodName)) ∈ wA := wA_of 1793 rfl rfl
set_option maxRecDepth 100000 in
theorem wd_1794 : (Jvm.Cond.code ({ cls := "LateFallsModel", name := "hours", desc := "(I)I" } : Jvm.MethodName) prog_13_method_81_code (4 : Nat) (Option.some Jvm.ClassFile.FieldType.int)) ∈ wA := wA_of 1794 rfl rfl
set_option maxRecDepth 100000 in
theorem wd_1795 : (Jvm.Cond.constantLong "LateFallsModel" (399 : Nat) (99 : Int64)) ∈ wA := wA_of 1795 rfl rfl
set_option maxRecDepth 100000 in
theorem wd_1796 : (Jvm.Cond.methodLink "LateFallsModel" (401 : Nat) ({ cls := "LateFallsModel", name := "hour", desc := "()V" } : Jvm.MethodName)) ∈ wA := wA_of 1796 rfl rfl
set_option maxRecDepth 100000 in
theorem wd_1798 : (Jvm.Cond.instanceMethod ({ cls := "LateFallsModel", name := "hour", desc := "()V" } : Jvm.MethodName)) ∈ wA := wA_of 1798 rfl rfl
set_option maxRecDepth 100000 in
theorem wd_1799 : (Jvm.Cond.code ({ cls := "LateFallsModel", name := "hour", desc := "()V" } : Jvm.MethodName) prog_13_method_63_code (1 : Nat) (Option.none : Option Jvm.ClassFile.FieldType)) ∈ wA := wA_of 1799 rfl rfl
set_option maxRecDepth 100000 in
theorem wd_1800 : (Jvm.Cond.methodLink "LateFallsModel" (355 : Nat) ({ cls := "LateFallsModel", name := "goesTo", desc := "(I)V" } : Jvm.MethodName)) ∈ wA := wA_of 1800 rfl rfl
set_option maxRecDepth 100000 in
theorem wd_1802 : (Jvm.Cond.instanceMethod ({ cls := "LateFallsModel", name := "goesTo", desc := "(I)V" } : Jvm.MethodName)) ∈ wA := wA_of 1802 rfl rfl
set_option maxRecDepth 100000 in
theorem wd_1803 : (Jvm.Cond.code ({ cls := "LateFallsModel", name := "goesTo", desc := "(I)V" } : Jvm.MethodName) prog_13_method_62_code (2 : Nat) (Option.none : Option Jvm.ClassFile.FieldType)) ∈ wA := wA_of 1803 rfl rfl
set_option maxRecDepth 100000 in
theorem wd_1804 : (Jvm.Cond.methodLink "LateFallsLaw" (195 : Nat) ({ cls := "LateFallsModel", name := "undo", desc := "(I)I" } : Jvm.MethodName)) ∈ wA := wA_of 1804 rfl rfl
set_option maxRecDepth 100000 in
theorem wd_1805 : (Jvm.Cond.instanceMethod ({ cls := "LateFallsModel", name := "undo", desc := "(I)I" } : Jvm.MethodName)) ∈ wA := wA_of 1805 rfl rfl
set_option maxRecDepth 100000 in
theorem wd_1806 : (Jvm.Cond.selects "LateFallsModel" ({ cls := "LateFallsModel", name := "undo", desc := "(I)I" } : Jvm.MethodName) ({ cls := "LateFallsModel", name := "undo", desc := "(I)I" } : Jvm.MethodName)) ∈ wA := wA_of 1806 rfl rfl
set_option maxRecDepth 100000 in
theorem wd_1807 : (Jvm.Cond.code ({ cls := "LateFallsModel", name := "undo", desc := "(I)I" } : Jvm.MethodName) prog_13_method_82_code (3 : Nat) (Option.some Jvm.ClassFile.FieldType.int)) ∈ wA := wA_of 1807 rfl rfl
set_option maxRecDepth 100000 in
theorem wd_1808 : (Jvm.Cond.constantLong "LateFallsModel" (403 : Nat) (10 : Int64)) ∈ wA := wA_of 1808 rfl rfl
set_option maxRecDepth 100000 in
theorem wd_1809 : (Jvm.Cond.methodLink "LateFallsLaw" (198 : Nat) ({ cls := "LateFallsModel", name := "judge", desc := "(II)I" } : Jvm.MethodName)) ∈ wA := wA_of 1809 rfl rfl
set_option maxRecDepth 100000 in
theorem wd_1810 : (Jvm.Cond.instanceMethod ({ cls := "LateFallsModel", name := "judge", desc := "(II)I" } : Jvm.MethodName)) ∈ wA := wA_of 1810 rfl rfl
set_option maxRecDepth 100000 in
theorem wd_1811 : (Jvm.Cond.selects "LateFallsModel" ({ cls := "LateFallsModel", name := "judge", desc := "(II)I" } : Jvm.MethodName) ({ cls := "LateFallsModel", name := "judge", desc := "(II)I" } : Jvm.MethodName)) ∈ wA := wA_of 1811 rfl rfl
set_option maxRecDepth 100000 in
theorem wd_1812 : (Jvm.Cond.code ({ cls := "LateFallsModel", name := "judge", desc := "(II)I" } : Jvm.MethodName) prog_13_method_88_code (7 : Nat) (Option.some Jvm.ClassFile.FieldType.int)) ∈ wA := wA_of 1812 rfl rfl
set_option maxRecDepth 100000 in
theorem wd_1813 : (Jvm.Cond.methodLink "LateFallsModel" (420 : Nat) ({ cls := "LateFallsModel", name := "trayFault", desc := "(I)I" } : Jvm.MethodName)) ∈ wA := wA_of 1813 rfl rfl
set_option maxRecDepth 100000 in
theorem wd_1815 : (Jvm.Cond.instanceMethod ({ cls := "LateFallsModel", name := "trayFault", desc := "(I)I" } : Jvm.MethodName)) ∈ wA := wA_of 1815 rfl rfl
set_option maxRecDepth 100000 in
theorem wd_1816 : (Jvm.Cond.code ({ cls := "LateFallsModel", name := "trayFault", desc := "(I)I" } : Jvm.MethodName) prog_13_method_83_code (2 : Nat) (Option.some Jvm.ClassFile.FieldType.int)) ∈ wA := wA_of 1816 rfl rfl
set_option maxRecDepth 100000 in
theorem wd_1817 : (Jvm.Cond.methodLink "LateFallsModel" (405 : Nat) ({ cls := "LateFallsModel", name := "isTray", desc := "(I)Z" } : Jvm.MethodName)) ∈ wA := wA_of 1817 rfl rfl
set_option maxRecDepth 100000 in
theorem wd_1818 : (Jvm.Cond.static ({ cls := "LateFallsModel", name := "isTray", desc := "(I)Z" } : Jvm.MethodName)) ∈ wA := wA_of 1818 rfl rfl
set_option maxRecDepth 100000 in
theorem wd_1819 : (Jvm.Cond.code ({ cls := "LateFallsModel", name := "isTray", desc := "(I)Z" } : Jvm.MethodName) prog_13_method_133_code (1 : Nat) (Option.some Jvm.ClassFile.FieldType.boolean)) ∈ wA := wA_of 1819 rfl rfl
set_option maxRecDepth 100000 in
theorem wd_1820 : (Jvm.Cond.constantLong "LateFallsModel" (423 : Nat) (3 : Int64)) ∈ wA := wA_of 1820 rfl rfl
set_option maxRecDepth 100000 in
theorem wd_1821 : (Jvm.Cond.methodLink "LateFallsModel" (425 : Nat) ({ cls := "LateFallsModel", name := "putsAside", desc := "()V" } : Jvm.MethodName)) ∈ wA := wA_of 1821 rfl rfl
set_option maxRecDepth 100000 in
theorem wd_1823 : (Jvm.Cond.instanceMethod ({ cls := "LateFallsModel", name := "putsAside", desc := "()V" } : Jvm.MethodName)) ∈ wA := wA_of 1823 rfl rfl
set_option maxRecDepth 100000 in
theorem wd_1824 : (Jvm.Cond.code ({ cls := "LateFallsModel", name := "putsAside", desc := "()V" } : Jvm.MethodName) prog_13_method_72_code (2 : Nat) (Option.none : Option Jvm.ClassFile.FieldType)) ∈ wA := wA_of 1824 rfl rfl
set_option maxRecDepth 100000 in
theorem wd_1825 : (Jvm.Cond.methodLink "LateFallsModel" (428 : Nat) ({ cls := "LateFallsModel", name := "whyTold", desc := "(J)I" } : Jvm.MethodName)) ∈ wA := wA_of 1825 rfl rfl
set_option maxRecDepth 100000 in
theorem wd_1827 : (Jvm.Cond.instanceMethod ({ cls := "LateFallsModel", name := "whyTold", desc := "(J)I" } : Jvm.MethodName)) ∈ wA := wA_of 1827 rfl rfl
set_option maxRecDepth 100000 in
theorem wd_1828 : (Jvm.Cond.code ({ cls := "LateFallsModel", name := "whyTold", desc := "(J)I" } : Jvm.MethodName) prog_13_method_84_code (3 : Nat) (Option.some Jvm.ClassFile.FieldType.int)) ∈ wA := wA_of 1828 rfl rfl
set_option maxRecDepth 100000 in
theorem wd_1829 : (Jvm.Cond.constantLong "LateFallsModel" (408 : Nat) (-1 : Int64)) ∈ wA := wA_of 1829 rfl rfl
set_option maxRecDepth 100000 in
theorem wd_1830 : (Jvm.Cond.constantLong "LateFallsModel" (410 : Nat) (2000 : Int64)) ∈ wA := wA_of 1830 rfl rfl
set_option maxRecDepth 100000 in
theorem wd_1831 : (Jvm.Cond.constantLong "LateFallsModel" (412 : Nat) (799 : Int64)) ∈ wA := wA_of 1831 rfl rfl
set_option maxRecDepth 100000 in
theorem wd_1832 : (Jvm.Cond.constantLong "LateFallsModel" (414 : Nat) (100 : Int64)) ∈ wA := wA_of 1832 rfl rfl
set_option maxRecDepth 100000 in
theorem wd_1833 : (Jvm.Cond.constantLong "LateFallsModel" (416 : Nat) (1000 : Int64)) ∈ wA := wA_of 1833 rfl rfl
set_option maxRecDepth 100000 in
theorem wd_1834 : (Jvm.Cond.constantLong "LateFallsModel" (418 : Nat) (1099 : Int64)) ∈ wA := wA_of 1834 rfl rfl
set_option maxRecDepth 100000 in
theorem wd_1835 : (Jvm.Cond.methodLink "LateFallsModel" (431 : Nat) ({ cls := "LateFallsModel", name := "does", desc := "(I)V" } : Jvm.MethodName)) ∈ wA := wA_of 1835 rfl rfl
set_option maxRecDepth 100000 in
theorem wd_1837 : (Jvm.Cond.instanceMethod ({ cls := "LateFallsModel", name := "does", desc := "(I)V" } : Jvm.MethodName)) ∈ wA := wA_of 1837 rfl rfl
set_option maxRecDepth 100000 in
theorem wd_1838 : (Jvm.Cond.code ({ cls := "LateFallsModel", name := "does", desc := "(I)V" } : Jvm.MethodName) prog_13_method_85_code (2 : Nat) (Option.none : Option Jvm.ClassFile.FieldType)) ∈ wA := wA_of 1838 rfl rfl
set_option maxRecDepth 100000 in
theorem wd_1839 : (Jvm.Cond.methodLink "LateFallsModel" (434 : Nat) ({ cls := "LateFallsModel", name := "lyingAll", desc := "()I" } : Jvm.MethodName)) ∈ wA := wA_of 1839 rfl rfl
set_option maxRecDepth 100000 in
theorem wd_1841 : (Jvm.Cond.instanceMethod ({ cls := "LateFallsModel", name := "lyingAll", desc := "()I" } : Jvm.MethodName)) ∈ wA := wA_of 1841 rfl rfl
set_option maxRecDepth 100000 in
theorem wd_1842 : (Jvm.Cond.code ({ cls := "LateFallsModel", name := "lyingAll", desc := "()I" } : Jvm.MethodName) prog_13_method_86_code (3 : Nat) (Option.some Jvm.ClassFile.FieldType.int)) ∈ wA := wA_of 1842 rfl rfl
set_option maxRecDepth 100000 in
theorem wd_1843 : (Jvm.Cond.methodLink "LateFallsModel" (437 : Nat) ({ cls := "LateFallsModel", name := "hurtAll", desc := "()I" } : Jvm.MethodName)) ∈ wA := wA_of 1843 rfl rfl
set_option maxRecDepth 100000 in
theorem wd_1845 : (Jvm.Cond.instanceMethod ({ cls := "LateFallsModel", name := "hurtAll", desc := "()I" } : Jvm.MethodName)) ∈ wA := wA_of 1845 rfl rfl
set_option maxRecDepth 100000 in
theorem wd_1846 : (Jvm.Cond.code ({ cls := "LateFallsModel", name := "hurtAll", desc := "()I" } : Jvm.MethodName) prog_13_method_87_code (3 : Nat) (Option.some Jvm.ClassFile.FieldType.int)) ∈ wA := wA_of 1846 rfl rfl
set_option maxRecDepth 100000 in
theorem wd_1847 : (Jvm.Cond.methodLink "LateFallsModel" (440 : Nat) ({ cls := "LateFallsModel", name := "putsBack", desc := "()V" } : Jvm.MethodName)) ∈ wA := wA_of 1847 rfl rfl
set_option maxRecDepth 100000 in
theorem wd_1849 : (Jvm.Cond.instanceMethod ({ cls := "LateFallsModel", name := "putsBack", desc := "()V" } : Jvm.MethodName)) ∈ wA := wA_of 1849 rfl rfl
set_option maxRecDepth 100000 in
theorem wd_1850 : (Jvm.Cond.code ({ cls := "LateFallsModel", name := "putsBack", desc := "()V" } : Jvm.MethodName) prog_13_method_73_code (2 : Nat) (Option.none : Option Jvm.ClassFile.FieldType)) ∈ wA := wA_of 1850 rfl rfl
set_option maxRecDepth 100000 in
theorem wd_1851 : (Jvm.Cond.methodLink "LateFallsLaw" (201 : Nat) ({ cls := "LateFallsModel", name := "perform", desc := "(I)I" } : Jvm.MethodName)) ∈ wA := wA_of 1851 rfl rfl
set_option maxRecDepth 100000 in
theorem wd_1852 : (Jvm.Cond.instanceMethod ({ cls := "LateFallsModel", name := "perform", desc := "(I)I" } : Jvm.MethodName)) ∈ wA := wA_of 1852 rfl rfl
set_option maxRecDepth 100000 in
theorem wd_1853 : (Jvm.Cond.selects "LateFallsModel" ({ cls := "LateFallsModel", name := "perform", desc := "(I)I" } : Jvm.MethodName) ({ cls := "LateFallsModel", name := "perform", desc := "(I)I" } : Jvm.MethodName)) ∈ wA := wA_of 1853 rfl rfl
set_option maxRecDepth 100000 in
theorem wd_1854 : (Jvm.Cond.code ({ cls := "LateFallsModel", name := "perform", desc := "(I)I" } : Jvm.MethodName) prog_13_method_89_code (3 : Nat) (Option.some Jvm.ClassFile.FieldType.int)) ∈ wA := wA_of 1854 rfl rfl
set_option maxRecDepth 100000 in
theorem wd_1855 : (Jvm.Cond.methodLink "LateFallsLaw" (204 : Nat) ({ cls := "LateFallsModel", name := "season", desc := "(II)I" } : Jvm.MethodName)) ∈ wA := wA_of 1855 rfl rfl
set_option maxRecDepth 100000 in
theorem wd_1856 : (Jvm.Cond.instanceMethod ({ cls := "LateFallsModel", name := "season", desc := "(II)I" } : Jvm.MethodName)) ∈ wA := wA_of 1856 rfl rfl
set_option maxRecDepth 100000 in
theorem wd_1857 : (Jvm.Cond.selects "LateFallsModel" ({ cls := "LateFallsModel", name := "season", desc := "(II)I" } : Jvm.MethodName) ({ cls := "LateFallsModel", name := "season", desc := "(II)I" } : Jvm.MethodName)) ∈ wA := wA_of 1857 rfl rfl
set_option maxRecDepth 100000 in
theorem wd_1858 : (Jvm.Cond.code ({ cls := "LateFallsModel", name := "season", desc := "(II)I" } : Jvm.MethodName) prog_13_method_91_code (7 : Nat) (Option.some Jvm.ClassFile.FieldType.int)) ∈ wA := wA_of 1858 rfl rfl
set_option maxRecDepth 100000 in
theorem wd_1859 : (Jvm.Cond.constantLong "LateFallsModel" (447 : Nat) (30 : Int64)) ∈ wA := wA_of 1859 rfl rfl
set_option maxRecDepth 100000 in
theorem wd_1860 : (Jvm.Cond.methodLink "LateFallsModel" (449 : Nat) ({ cls := "LateFallsModel", name := "draw", desc := "(I)I" } : Jvm.MethodName)) ∈ wA := wA_of 1860 rfl rfl
set_option maxRecDepth 100000 in
theorem wd_1862 : (Jvm.Cond.instanceMethod ({ cls := "LateFallsModel", name := "draw", desc := "(I)I" } : Jvm.MethodName)) ∈ wA := wA_of 1862 rfl rfl
set_option maxRecDepth 100000 in
theorem wd_1863 : (Jvm.Cond.code ({ cls := "LateFallsModel", name := "draw", desc := "(I)I" } : Jvm.MethodName) prog_13_method_90_code (2 : Nat) (Option.some Jvm.ClassFile.FieldType.int)) ∈ wA := wA_of 1863 rfl rfl
set_option maxRecDepth 100000 in
theorem wd_1864 : (Jvm.Cond.constant "LateFallsModel" (443 : Nat) (1103515245 : Int32)) ∈ wA := wA_of 1864 rfl rfl
set_option maxRecDepth 100000 in
theorem wd_1865 : (Jvm.Cond.methodLink "LateFallsLaw" (207 : Nat) ({ cls := "LateFallsModel", name := "falls", desc := "(I)I" } : Jvm.MethodName)) ∈ wA := wA_of 1865 rfl rfl
set_option maxRecDepth 100000 in
theorem wd_1866 : (Jvm.Cond.instanceMethod ({ cls := "LateFallsModel", name := "falls", desc := "(I)I" } : Jvm.MethodName)) ∈ wA := wA_of 1866 rfl rfl
set_option maxRecDepth 100000 in
theorem wd_1867 : (Jvm.Cond.selects "LateFallsModel" ({ cls := "LateFallsModel", name := "falls", desc := "(I)I" } : Jvm.MethodName) ({ cls := "LateFallsModel", name := "falls", desc := "(I)I" } : Jvm.MethodName)) ∈ wA := wA_of 1867 rfl rfl
set_option maxRecDepth 100000 in
theorem wd_1868 : (Jvm.Cond.code ({ cls := "LateFallsModel", name := "falls", desc := "(I)I" } : Jvm.MethodName) prog_13_method_92_code (2 : Nat) (Option.some Jvm.ClassFile.FieldType.int)) ∈ wA := wA_of 1868 rfl rfl
set_option maxRecDepth 100000 in
theorem wd_1869 : (Jvm.Cond.methodLink "LateFallsModel" (452 : Nat) ({ cls := "LateFallsModel", name := "fallsIn", desc := "(I)I" } : Jvm.MethodName)) ∈ wA := wA_of 1869 rfl rfl
set_option maxRecDepth 100000 in
theorem wd_1871 : (Jvm.Cond.instanceMethod ({ cls := "LateFallsModel", name := "fallsIn", desc := "(I)I" } : Jvm.MethodName)) ∈ wA := wA_of 1871 rfl rfl
set_option maxRecDepth 100000 in
theorem wd_1872 : (Jvm.Cond.code ({ cls := "LateFallsModel", name := "fallsIn", desc := "(I)I" } : Jvm.MethodName) prog_13_method_93_code (4 : Nat) (Option.some Jvm.ClassFile.FieldType.int)) ∈ wA := wA_of 1872 rfl rfl
set_option maxRecDepth 100000 in
theorem wd_1873 : (Jvm.Cond.methodLink "LateFallsModel" (455 : Nat) ({ cls := "LateFallsModel", name := "nextHour", desc := "()I" } : Jvm.MethodName)) ∈ wA := wA_of 1873 rfl rfl
set_option maxRecDepth 100000 in
theorem wd_1875 : (Jvm.Cond.instanceMethod ({ cls := "LateFallsModel", name := "nextHour", desc := "()I" } : Jvm.MethodName)) ∈ wA := wA_of 1875 rfl rfl
set_option maxRecDepth 100000 in
theorem wd_1876 : (Jvm.Cond.code ({ cls := "LateFallsModel", name := "nextHour", desc := "()I" } : Jvm.MethodName) prog_13_method_64_code (3 : Nat) (Option.some Jvm.ClassFile.FieldType.int)) ∈ wA := wA_of 1876 rfl rfl
set_option maxRecDepth 100000 in
theorem wd_1877 : (Jvm.Cond.constant "LateFallsModel" (358 : Nat) (536870912 : Int32)) ∈ wA := wA_of 1877 rfl rfl
set_option maxRecDepth 100000 in
theorem wd_1878 : (Jvm.Cond.methodLink "LateFallsLaw" (210 : Nat) ({ cls := "LateFallsModel", name := "lands", desc := "(I)I" } : Jvm.MethodName)) ∈ wA := wA_of 1878 rfl rfl
set_option maxRecDepth 100000 in
theorem wd_1879 : (Jvm.Cond.instanceMethod ({ cls := "LateFallsModel", name := "lands", desc := "(I)I" } : Jvm.MethodName)) ∈ wA := wA_of 1879 rfl rfl
set_option maxRecDepth 100000 in
theorem wd_1880 : (Jvm.Cond.selects "LateFallsModel" ({ cls := "LateFallsModel", name := "lands", desc := "(I)I" } : Jvm.MethodName) ({ cls := "LateFallsModel", name := "lands", desc := "(I)I" } : Jvm.MethodName)) ∈ wA := wA_of 1880 rfl rfl
set_option maxRecDepth 100000 in
theorem wd_1881 : (Jvm.Cond.code ({ cls := "LateFallsModel", name := "lands", desc := "(I)I" } : Jvm.MethodName) prog_13_method_94_code (2 : Nat) (Option.some Jvm.ClassFile.FieldType.int)) ∈ wA := wA_of 1881 rfl rfl
set_option maxRecDepth 100000 in
theorem wd_1882 : (Jvm.Cond.methodLink "LateFallsLaw" (213 : Nat) ({ cls := "LateFallsModel", name := "fallIn", desc := "(I)I" } : Jvm.MethodName)) ∈ wA := wA_of 1882 rfl rfl
set_option maxRecDepth 100000 in
theorem wd_1883 : (Jvm.Cond.instanceMethod ({ cls := "LateFallsModel", name := "fallIn", desc := "(I)I" } : Jvm.MethodName)) ∈ wA := wA_of 1883 rfl rfl
set_option maxRecDepth 100000 in
theorem wd_1884 : (Jvm.Cond.selects "LateFallsModel" ({ cls := "LateFallsModel", name := "fallIn", desc := "(I)I" } : Jvm.MethodName) ({ cls := "LateFallsModel", name := "fallIn", desc := "(I)I" } : Jvm.MethodName)) ∈ wA := wA_of 1884 rfl rfl
set_option maxRecDepth 100000 in
theorem wd_1885 : (Jvm.Cond.code ({ cls := "LateFallsModel", name := "fallIn", desc := "(I)I" } : Jvm.MethodName) prog_13_method_96_code (4 : Nat) (Option.some Jvm.ClassFile.FieldType.int)) ∈ wA := wA_of 1885 rfl rfl
set_option maxRecDepth 100000 in
theorem wd_1886 : (Jvm.Cond.methodLink "LateFallsModel" (461 : Nat) ({ cls := "LateFallsModel", name := "nextFall", desc := "(I)Z" } : Jvm.MethodName)) ∈ wA := wA_of 1886 rfl rfl
set_option maxRecDepth 100000 in
theorem wd_1888 : (Jvm.Cond.instanceMethod ({ cls := "LateFallsModel", name := "nextFall", desc := "(I)Z" } : Jvm.MethodName)) ∈ wA := wA_of 1888 rfl rfl
set_option maxRecDepth 100000 in
theorem wd_1889 : (Jvm.Cond.code ({ cls := "LateFallsModel", name := "nextFall", desc := "(I)Z" } : Jvm.MethodName) prog_13_method_95_code (3 : Nat) (Option.some Jvm.ClassFile.FieldType.boolean)) ∈ wA := wA_of 1889 rfl rfl
set_option maxRecDepth 100000 in
theorem wd_1890 : (Jvm.Cond.methodLink "LateFallsLaw" (217 : Nat) ({ cls := "LateFallsModel", name := "next", desc := "()I" } : Jvm.MethodName)) ∈ wA := wA_of 1890 rfl rfl
set_option maxRecDepth 100000 in
theorem wd_1891 : (Jvm.Cond.instanceMethod ({ cls := "LateFallsModel", name := "next", desc := "()I" } : Jvm.MethodName)) ∈ wA := wA_of 1891 rfl rfl
set_option maxRecDepth 100000 in
theorem wd_1892 : (Jvm.Cond.selects "LateFallsModel" ({ cls := "LateFallsModel", name := "next", desc := "()I" } : Jvm.MethodName) ({ cls := "LateFallsModel", name := "next", desc := "()I" } : Jvm.MethodName)) ∈ wA := wA_of 1892 rfl rfl
set_option maxRecDepth 100000 in
theorem wd_1893 : (Jvm.Cond.code ({ cls := "LateFallsModel", name := "next", desc := "()I" } : Jvm.MethodName) prog_13_method_97_code (2 : Nat) (Option.some Jvm.ClassFile.FieldType.int)) ∈ wA := wA_of 1893 rfl rfl
set_option maxRecDepth 100000 in
theorem wd_1894 : (Jvm.Cond.methodLink "LateFallsLaw" (221 : Nat) ({ cls := "LateFallsModel", name := "busiest", desc := "()I" } : Jvm.MethodName)) ∈ wA := wA_of 1894 rfl rfl
set_option maxRecDepth 100000 in
theorem wd_1895 : (Jvm.Cond.instanceMethod ({ cls := "LateFallsModel", name := "busiest", desc := "()I" } : Jvm.MethodName)) ∈ wA := wA_of 1895 rfl rfl
set_option maxRecDepth 100000 in
theorem wd_1896 : (Jvm.Cond.selects "LateFallsModel" ({ cls := "LateFallsModel", name := "busiest", desc := "()I" } : Jvm.MethodName) ({ cls := "LateFallsModel", name := "busiest", desc := "()I" } : Jvm.MethodName)) ∈ wA := wA_of 1896 rfl rfl
set_option maxRecDepth 100000 in
theorem wd_1897 : (Jvm.Cond.code ({ cls := "LateFallsModel", name := "busiest", desc := "()I" } : Jvm.MethodName) prog_13_method_98_code (3 : Nat) (Option.some Jvm.ClassFile.FieldType.int)) ∈ wA := wA_of 1897 rfl rfl
set_option maxRecDepth 100000 in
theorem wd_1898 : (Jvm.Cond.constant "LateFallsModel" (464 : Nat) (536870911 : Int32)) ∈ wA := wA_of 1898 rfl rfl
set_option maxRecDepth 100000 in
theorem wd_1899 : (Jvm.Cond.methodLink "LateFallsLaw" (224 : Nat) ({ cls := "LateFallsModel", name := "frees", desc := "(I)I" } : Jvm.MethodName)) ∈ wA := wA_of 1899 rfl rfl
set_option maxRecDepth 100000 in
theorem wd_1900 : (Jvm.Cond.instanceMethod ({ cls := "LateFallsModel", name := "frees", desc := "(I)I" } : Jvm.MethodName)) ∈ wA := wA_of 1900 rfl rfl
set_option maxRecDepth 100000 in
theorem wd_1901 : (Jvm.Cond.selects "LateFallsModel" ({ cls := "LateFallsModel", name := "frees", desc := "(I)I" } : Jvm.MethodName) ({ cls := "LateFallsModel", name := "frees", desc := "(I)I" } : Jvm.MethodName)) ∈ wA := wA_of 1901 rfl rfl
set_option maxRecDepth 100000 in
theorem wd_1902 : (Jvm.Cond.code ({ cls := "LateFallsModel", name := "frees", desc := "(I)I" } : Jvm.MethodName) prog_13_method_99_code (2 : Nat) (Option.some Jvm.ClassFile.FieldType.int)) ∈ wA := wA_of 1902 rfl rfl
set_option maxRecDepth 100000 in
theorem wd_1903 : (Jvm.Cond.methodLink "LateFallsLaw" (227 : Nat) ({ cls := "LateFallsModel", name := "heightIn", desc := "(II)I" } : Jvm.MethodName)) ∈ wA := wA_of 1903 rfl rfl
set_option maxRecDepth 100000 in
theorem wd_1904 : (Jvm.Cond.instanceMethod ({ cls := "LateFallsModel", name := "heightIn", desc := "(II)I" } : Jvm.MethodName)) ∈ wA := wA_of 1904 rfl rfl
set_option maxRecDepth 100000 in
theorem wd_1905 : (Jvm.Cond.selects "LateFallsModel" ({ cls := "LateFallsModel", name := "heightIn", desc := "(II)I" } : Jvm.MethodName) ({ cls := "LateFallsModel", name := "heightIn", desc := "(II)I" } : Jvm.MethodName)) ∈ wA := wA_of 1905 rfl rfl
set_option maxRecDepth 100000 in
theorem wd_1906 : (Jvm.Cond.code ({ cls := "LateFallsModel", name := "heightIn", desc := "(II)I" } : Jvm.MethodName) prog_13_method_100_code (6 : Nat) (Option.some Jvm.ClassFile.FieldType.int)) ∈ wA := wA_of 1906 rfl rfl
set_option maxRecDepth 100000 in
theorem wd_1907 : (Jvm.Cond.methodLink "LateFallsLaw" (230 : Nat) ({ cls := "LateFallsModel", name := "hurtIn", desc := "(I)I" } : Jvm.MethodName)) ∈ wA := wA_of 1907 rfl rfl
set_option maxRecDepth 100000 in
theorem wd_1908 : (Jvm.Cond.instanceMethod ({ cls := "LateFallsModel", name := "hurtIn", desc := "(I)I" } : Jvm.MethodName)) ∈ wA := wA_of 1908 rfl rfl
set_option maxRecDepth 100000 in
theorem wd_1909 : (Jvm.Cond.selects "LateFallsModel" ({ cls := "LateFallsModel", name := "hurtIn", desc := "(I)I" } : Jvm.MethodName) ({ cls := "LateFallsModel", name := "hurtIn", desc := "(I)I" } : Jvm.MethodName)) ∈ wA := wA_of 1909 rfl rfl
set_option maxRecDepth 100000 in
theorem wd_1910 : (Jvm.Cond.code ({ cls := "LateFallsModel", name := "hurtIn", desc := "(I)I" } : Jvm.MethodName) prog_13_method_101_code (5 : Nat) (Option.some Jvm.ClassFile.FieldType.int)) ∈ wA := wA_of 1910 rfl rfl
set_option maxRecDepth 100000 in
theorem wd_1911 : (Jvm.Cond.methodLink "LateFallsLaw" (233 : Nat) ({ cls := "LateFallsModel", name := "hurts", desc := "(I)I" } : Jvm.MethodName)) ∈ wA := wA_of 1911 rfl rfl
set_option maxRecDepth 100000 in
theorem wd_1912 : (Jvm.Cond.instanceMethod ({ cls := "LateFallsModel", name := "hurts", desc := "(I)I" } : Jvm.MethodName)) ∈ wA := wA_of 1912 rfl rfl
set_option maxRecDepth 100000 in
theorem wd_1913 : (Jvm.Cond.selects "LateFallsModel" ({ cls := "LateFallsModel", name := "hurts", desc := "(I)I" } : Jvm.MethodName) ({ cls := "LateFallsModel", name := "hurts", desc := "(I)I" } : Jvm.MethodName)) ∈ wA := wA_of 1913 rfl rfl
set_option maxRecDepth 100000 in
theorem wd_1914 : (Jvm.Cond.code ({ cls := "LateFallsModel", name := "hurts", desc := "(I)I" } : Jvm.MethodName) prog_13_method_103_code (3 : Nat) (Option.some Jvm.ClassFile.FieldType.int)) ∈ wA := wA_of 1914 rfl rfl
set_option maxRecDepth 100000 in
theorem wd_1915 : (Jvm.Cond.methodLink "LateFallsModel" (465 : Nat) ({ cls := "LateFallsModel", name := "hurtsOf", desc := "(I)I" } : Jvm.MethodName)) ∈ wA := wA_of 1915 rfl rfl
set_option maxRecDepth 100000 in
theorem wd_1917 : (Jvm.Cond.instanceMethod ({ cls := "LateFallsModel", name := "hurtsOf", desc := "(I)I" } : Jvm.MethodName)) ∈ wA := wA_of 1917 rfl rfl
set_option maxRecDepth 100000 in
theorem wd_1918 : (Jvm.Cond.code ({ cls := "LateFallsModel", name := "hurtsOf", desc := "(I)I" } : Jvm.MethodName) prog_13_method_102_code (4 : Nat) (Option.some Jvm.ClassFile.FieldType.int)) ∈ wA := wA_of 1918 rfl rfl
set_option maxRecDepth 100000 in
theorem wd_1919 : (Jvm.Cond.methodLink "LateFallsLaw" (236 : Nat) ({ cls := "LateFallsModel", name := "spares", desc := "(II)I" } : Jvm.MethodName)) ∈ wA := wA_of 1919 rfl rfl
set_option maxRecDepth 100000 in
theorem wd_1920 : (Jvm.Cond.instanceMethod ({ cls := "LateFallsModel", name := "spares", desc := "(II)I" } : Jvm.MethodName)) ∈ wA := wA_of 1920 rfl rfl
set_option maxRecDepth 100000 in
theorem wd_1921 : (Jvm.Cond.selects "LateFallsModel" ({ cls := "LateFallsModel", name := "spares", desc := "(II)I" } : Jvm.MethodName) ({ cls := "LateFallsModel", name := "spares", desc := "(II)I" } : Jvm.MethodName)) ∈ wA := wA_of 1921 rfl rfl
set_option maxRecDepth 100000 in
theorem wd_1922 : (Jvm.Cond.code ({ cls := "LateFallsModel", name := "spares", desc := "(II)I" } : Jvm.MethodName) prog_13_method_104_code (5 : Nat) (Option.some Jvm.ClassFile.FieldType.int)) ∈ wA := wA_of 1922 rfl rfl
set_option maxRecDepth 100000 in
theorem wd_1923 : (Jvm.Cond.methodLink "LateFallsLaw" (239 : Nat) ({ cls := "LateFallsModel", name := "fallsBy", desc := "(IIII)I" } : Jvm.MethodName)) ∈ wA := wA_of 1923 rfl rfl
set_option maxRecDepth 100000 in
theorem wd_1924 : (Jvm.Cond.instanceMethod ({ cls := "LateFallsModel", name := "fallsBy", desc := "(IIII)I" } : Jvm.MethodName)) ∈ wA := wA_of 1924 rfl rfl
set_option maxRecDepth 100000 in
theorem wd_1925 : (Jvm.Cond.selects "LateFallsModel" ({ cls := "LateFallsModel", name := "fallsBy", desc := "(IIII)I" } : Jvm.MethodName) ({ cls := "LateFallsModel", name := "fallsBy", desc := "(IIII)I" } : Jvm.MethodName)) ∈ wA := wA_of 1925 rfl rfl
set_option maxRecDepth 100000 in
theorem wd_1926 : (Jvm.Cond.code ({ cls := "LateFallsModel", name := "fallsBy", desc := "(IIII)I" } : Jvm.MethodName) prog_13_method_108_code (5 : Nat) (Option.some Jvm.ClassFile.FieldType.int)) ∈ wA := wA_of 1926 rfl rfl
set_option maxRecDepth 100000 in
theorem wd_1927 : (Jvm.Cond.methodLink "LateFallsModel" (474 : Nat) ({ cls := "LateFallsModel", name := "isWaitOut", desc := "(III)Z" } : Jvm.MethodName)) ∈ wA := wA_of 1927 rfl rfl
set_option maxRecDepth 100000 in
theorem wd_1929 : (Jvm.Cond.instanceMethod ({ cls := "LateFallsModel", name := "isWaitOut", desc := "(III)Z" } : Jvm.MethodName)) ∈ wA := wA_of 1929 rfl rfl
set_option maxRecDepth 100000 in
theorem wd_1930 : (Jvm.Cond.code ({ cls := "LateFallsModel", name := "isWaitOut", desc := "(III)Z" } : Jvm.MethodName) prog_13_method_106_code (4 : Nat) (Option.some Jvm.ClassFile.FieldType.boolean)) ∈ wA := wA_of 1930 rfl rfl
set_option maxRecDepth 100000 in
theorem wd_1931 : (Jvm.Cond.constantLong "LateFallsModel" (477 : Nat) (60 : Int64)) ∈ wA := wA_of 1931 rfl rfl
set_option maxRecDepth 100000 in
theorem wd_1932 : (Jvm.Cond.methodLink "LateFallsModel" (479 : Nat) ({ cls := "LateFallsModel", name := "laysWait", desc := "(IIII)V" } : Jvm.MethodName)) ∈ wA := wA_of 1932 rfl rfl
set_option maxRecDepth 100000 in
theorem wd_1934 : (Jvm.Cond.instanceMethod ({ cls := "LateFallsModel", name := "laysWait", desc := "(IIII)V" } : Jvm.MethodName)) ∈ wA := wA_of 1934 rfl rfl
set_option maxRecDepth 100000 in
theorem wd_1935 : (Jvm.Cond.code ({ cls := "LateFallsModel", name := "laysWait", desc := "(IIII)V" } : Jvm.MethodName) prog_13_method_105_code (7 : Nat) (Option.none : Option Jvm.ClassFile.FieldType)) ∈ wA := wA_of 1935 rfl rfl
set_option maxRecDepth 100000 in
theorem wd_1936 : (Jvm.Cond.methodLink "LateFallsLaw" (242 : Nat) ({ cls := "LateFallsModel", name := "waitFor", desc := "(IIII)I" } : Jvm.MethodName)) ∈ wA := wA_of 1936 rfl rfl
set_option maxRecDepth 100000 in
theorem wd_1937 : (Jvm.Cond.instanceMethod ({ cls := "LateFallsModel", name := "waitFor", desc := "(IIII)I" } : Jvm.MethodName)) ∈ wA := wA_of 1937 rfl rfl
set_option maxRecDepth 100000 in
theorem wd_1938 : (Jvm.Cond.selects "LateFallsModel" ({ cls := "LateFallsModel", name := "waitFor", desc := "(IIII)I" } : Jvm.MethodName) ({ cls := "LateFallsModel", name := "waitFor", desc := "(IIII)I" } : Jvm.MethodName)) ∈ wA := wA_of 1938 rfl rfl
set_option maxRecDepth 100000 in
theorem wd_1939 : (Jvm.Cond.code ({ cls := "LateFallsModel", name := "waitFor", desc := "(IIII)I" } : Jvm.MethodName) prog_13_method_110_code (5 : Nat) (Option.some Jvm.ClassFile.FieldType.int)) ∈ wA := wA_of 1939 rfl rfl
set_option maxRecDepth 100000 in
theorem wd_1940 : (Jvm.Cond.methodLink "LateFallsModel" (483 : Nat) ({ cls := "LateFallsModel", name := "leastWait", desc := "(IIII)I" } : Jvm.MethodName)) ∈ wA := wA_of 1940 rfl rfl
set_option maxRecDepth 100000 in
theorem wd_1942 : (Jvm.Cond.instanceMethod ({ cls := "LateFallsModel", name := "leastWait", desc := "(IIII)I" } : Jvm.MethodName)) ∈ wA := wA_of 1942 rfl rfl
set_option maxRecDepth 100000 in
theorem wd_1943 : (Jvm.Cond.code ({ cls := "LateFallsModel", name := "leastWait", desc := "(IIII)I" } : Jvm.MethodName) prog_13_method_109_code (6 : Nat) (Option.some Jvm.ClassFile.FieldType.int)) ∈ wA := wA_of 1943 rfl rfl
set_option maxRecDepth 100000 in
theorem wd_1944 : (Jvm.Cond.methodLink "LateFallsLaw" (246 : Nat) ({ cls := "LateFallsModel", name := "waitSafe", desc := "(III)I" } : Jvm.MethodName)) ∈ wA := wA_of 1944 rfl rfl
set_option maxRecDepth 100000 in
theorem wd_1945 : (Jvm.Cond.instanceMethod ({ cls := "LateFallsModel", name := "waitSafe", desc := "(III)I" } : Jvm.MethodName)) ∈ wA := wA_of 1945 rfl rfl
set_option maxRecDepth 100000 in
theorem wd_1946 : (Jvm.Cond.selects "LateFallsModel" ({ cls := "LateFallsModel", name := "waitSafe", desc := "(III)I" } : Jvm.MethodName) ({ cls := "LateFallsModel", name := "waitSafe", desc := "(III)I" } : Jvm.MethodName)) ∈ wA := wA_of 1946 rfl rfl
set_option maxRecDepth 100000 in
theorem wd_1947 : (Jvm.Cond.code ({ cls := "LateFallsModel", name := "waitSafe", desc := "(III)I" } : Jvm.MethodName) prog_13_method_111_code (5 : Nat) (Option.some Jvm.ClassFile.FieldType.int)) ∈ wA := wA_of 1947 rfl rfl
set_option maxRecDepth 100000 in
theorem wd_1948 : (Jvm.Cond.methodLink "LateFallsModel" (487 : Nat) ({ cls := "LateFallsModel", name := "walkersIn", desc := "(II)I" } : Jvm.MethodName)) ∈ wA := wA_of 1948 rfl rfl
set_option maxRecDepth 100000 in
theorem wd_1950 : (Jvm.Cond.instanceMethod ({ cls := "LateFallsModel", name := "walkersIn", desc := "(II)I" } : Jvm.MethodName)) ∈ wA := wA_of 1950 rfl rfl
set_option maxRecDepth 100000 in
theorem wd_1951 : (Jvm.Cond.code ({ cls := "LateFallsModel", name := "walkersIn", desc := "(II)I" } : Jvm.MethodName) prog_13_method_107_code (5 : Nat) (Option.some Jvm.ClassFile.FieldType.int)) ∈ wA := wA_of 1951 rfl rfl
set_option maxRecDepth 100000 in
theorem wd_1952 : (Jvm.Cond.methodLink "LateFallsLaw" (249 : Nat) ({ cls := "LateFallsModel", name := "waitHurt", desc := "(IIII)I" } : Jvm.MethodName)) ∈ wA := wA_of 1952 rfl rfl
set_option maxRecDepth 100000 in
theorem wd_1953 : (Jvm.Cond.instanceMethod ({ cls := "LateFallsModel", name := "waitHurt", desc := "(IIII)I" } : Jvm.MethodName)) ∈ wA := wA_of 1953 rfl rfl
set_option maxRecDepth 100000 in
theorem wd_1954 : (Jvm.Cond.selects "LateFallsModel" ({ cls := "LateFallsModel", name := "waitHurt", desc := "(IIII)I" } : Jvm.MethodName) ({ cls := "LateFallsModel", name := "waitHurt", desc := "(IIII)I" } : Jvm.MethodName)) ∈ wA := wA_of 1954 rfl rfl
set_option maxRecDepth 100000 in
theorem wd_1955 : (Jvm.Cond.code ({ cls := "LateFallsModel", name := "waitHurt", desc := "(IIII)I" } : Jvm.MethodName) prog_13_method_112_code (6 : Nat) (Option.some Jvm.ClassFile.FieldType.int)) ∈ wA := wA_of 1955 rfl rfl
set_option maxRecDepth 100000 in
theorem wd_1956 : (Jvm.Cond.methodLink "LateFallsLaw" (253 : Nat) ({ cls := "LateFallsModel", name := "place", desc := "(IZ)I" } : Jvm.MethodName)) ∈ wA := wA_of 1956 rfl rfl
set_option maxRecDepth 100000 in
theorem wd_1957 : (Jvm.Cond.instanceMethod ({ cls := "LateFallsModel", name := "place", desc := "(IZ)I" } : Jvm.MethodName)) ∈ wA := wA_of 1957 rfl rfl
set_option maxRecDepth 100000 in
theorem wd_1958 : (Jvm.Cond.selects "LateFallsModel" ({ cls := "LateFallsModel", name := "place", desc := "(IZ)I" } : Jvm.MethodName) ({ cls := "LateFallsModel", name := "place", desc := "(IZ)I" } : Jvm.MethodName)) ∈ wA := wA_of 1958 rfl rfl
set_option maxRecDepth 100000 in
theorem wd_1959 : (Jvm.Cond.code ({ cls := "LateFallsModel", name := "place", desc := "(IZ)I" } : Jvm.MethodName) prog_13_method_113_code (7 : Nat) (Option.some Jvm.ClassFile.FieldType.int)) ∈ wA := wA_of 1959 rfl rfl
set_option maxRecDepth 100000 in
theorem wd_1960 : (Jvm.Cond.methodLink "LateFallsLaw" (256 : Nat) ({ cls := "LateFallsModel", name := "worst", desc := "(II)I" } : Jvm.MethodName)) ∈ wA := wA_of 1960 rfl rfl
set_option maxRecDepth 100000 in
theorem wd_1961 : (Jvm.Cond.instanceMethod ({ cls := "LateFallsModel", name := "worst", desc := "(II)I" } : Jvm.MethodName)) ∈ wA := wA_of 1961 rfl rfl
set_option maxRecDepth 100000 in
theorem wd_1962 : (Jvm.Cond.selects "LateFallsModel" ({ cls := "LateFallsModel", name := "worst", desc := "(II)I" } : Jvm.MethodName) ({ cls := "LateFallsModel", name := "worst", desc := "(II)I" } : Jvm.MethodName)) ∈ wA := wA_of 1962 rfl rfl
set_option maxRecDepth 100000 in
theorem wd_1963 : (Jvm.Cond.code ({ cls := "LateFallsModel", name := "worst", desc := "(II)I" } : Jvm.MethodName) prog_13_method_114_code (8 : Nat) (Option.some Jvm.ClassFile.FieldType.int)) ∈ wA := wA_of 1963 rfl rfl
set_option maxRecDepth 100000 in
theorem wd_1964 : (Jvm.Cond.methodLink "LateFallsLaw" (260 : Nat) ({ cls := "LateFallsModel", name := "both", desc := "(IIIIII)I" } : Jvm.MethodName)) ∈ wA := wA_of 1964 rfl rfl
set_option maxRecDepth 100000 in
theorem wd_1965 : (Jvm.Cond.instanceMethod ({ cls := "LateFallsModel", name := "both", desc := "(IIIIII)I" } : Jvm.MethodName)) ∈ wA := wA_of 1965 rfl rfl
set_option maxRecDepth 100000 in
theorem wd_1966 : (Jvm.Cond.selects "LateFallsModel" ({ cls := "LateFallsModel", name := "both", desc := "(IIIIII)I" } : Jvm.MethodName) ({ cls := "LateFallsModel", name := "both", desc := "(IIIIII)I" } : Jvm.MethodName)) ∈ wA := wA_of 1966 rfl rfl
set_option maxRecDepth 100000 in
theorem wd_1967 : (Jvm.Cond.code ({ cls := "LateFallsModel", name := "both", desc := "(IIIIII)I" } : Jvm.MethodName) prog_13_method_115_code (12 : Nat) (Option.some Jvm.ClassFile.FieldType.int)) ∈ wA := wA_of 1967 rfl rfl
set_option maxRecDepth 100000 in
theorem wd_1968 : (Jvm.Cond.methodLink "LateFallsLaw" (263 : Nat) ({ cls := "LateFallsModel", name := "safeWay", desc := "(III)I" } : Jvm.MethodName)) ∈ wA := wA_of 1968 rfl rfl
set_option maxRecDepth 100000 in
theorem wd_1969 : (Jvm.Cond.instanceMethod ({ cls := "LateFallsModel", name := "safeWay", desc := "(III)I" } : Jvm.MethodName)) ∈ wA := wA_of 1969 rfl rfl
set_option maxRecDepth 100000 in
theorem wd_1970 : (Jvm.Cond.selects "LateFallsModel" ({ cls := "LateFallsModel", name := "safeWay", desc := "(III)I" } : Jvm.MethodName) ({ cls := "LateFallsModel", name := "safeWay", desc := "(III)I" } : Jvm.MethodName)) ∈ wA := wA_of 1970 rfl rfl
set_option maxRecDepth 100000 in
theorem wd_1971 : (Jvm.Cond.code ({ cls := "LateFallsModel", name := "safeWay", desc := "(III)I" } : Jvm.MethodName) prog_13_method_121_code (5 : Nat) (Option.some Jvm.ClassFile.FieldType.int)) ∈ wA := wA_of 1971 rfl rfl
set_option maxRecDepth 100000 in
theorem wd_1972 : (Jvm.Cond.constantLong "LateFallsModel" (502 : Nat) (70 : Int64)) ∈ wA := wA_of 1972 rfl rfl
set_option maxRecDepth 100000 in
theorem wd_1973 : (Jvm.Cond.methodLink "LateFallsModel" (504 : Nat) ({ cls := "LateFallsModel", name := "laysWay", desc := "(II)I" } : Jvm.MethodName)) ∈ wA := wA_of 1973 rfl rfl
set_option maxRecDepth 100000 in
theorem wd_1975 : (Jvm.Cond.instanceMethod ({ cls := "LateFallsModel", name := "laysWay", desc := "(II)I" } : Jvm.MethodName)) ∈ wA := wA_of 1975 rfl rfl
set_option maxRecDepth 100000 in
theorem wd_1976 : (Jvm.Cond.code ({ cls := "LateFallsModel", name := "laysWay", desc := "(II)I" } : Jvm.MethodName) prog_13_method_120_code (7 : Nat) (Option.some Jvm.ClassFile.FieldType.int)) ∈ wA := wA_of 1976 rfl rfl
set_option maxRecDepth 100000 in
theorem wd_1977 : (Jvm.Cond.methodLink "LateFallsModel" (499 : Nat) ({ cls := "LateFallsModel", name := "laysComes", desc := "(I)V" } : Jvm.MethodName)) ∈ wA := wA_of 1977 rfl rfl
set_option maxRecDepth 100000 in
theorem wd_1979 : (Jvm.Cond.instanceMethod ({ cls := "LateFallsModel", name := "laysComes", desc := "(I)V" } : Jvm.MethodName)) ∈ wA := wA_of 1979 rfl rfl
set_option maxRecDepth 100000 in
theorem wd_1980 : (Jvm.Cond.code ({ cls := "LateFallsModel", name := "laysComes", desc := "(I)V" } : Jvm.MethodName) prog_13_method_119_code (3 : Nat) (Option.none : Option Jvm.ClassFile.FieldType)) ∈ wA := wA_of 1980 rfl rfl
set_option maxRecDepth 100000 in
theorem wd_1981 : (Jvm.Cond.methodLink "LateFallsModel" (493 : Nat) ({ cls := "LateFallsModel", name := "laysFalling", desc := "()V" } : Jvm.MethodName)) ∈ wA := wA_of 1981 rfl rfl
set_option maxRecDepth 100000 in
theorem wd_1983 : (Jvm.Cond.instanceMethod ({ cls := "LateFallsModel", name := "laysFalling", desc := "()V" } : Jvm.MethodName)) ∈ wA := wA_of 1983 rfl rfl
set_option maxRecDepth 100000 in
theorem wd_1984 : (Jvm.Cond.code ({ cls := "LateFallsModel", name := "laysFalling", desc := "()V" } : Jvm.MethodName) prog_13_method_116_code (2 : Nat) (Option.none : Option Jvm.ClassFile.FieldType)) ∈ wA := wA_of 1984 rfl rfl
set_option maxRecDepth 100000 in
theorem wd_1985 : (Jvm.Cond.methodLink "LateFallsModel" (496 : Nat) ({ cls := "LateFallsModel", name := "beside", desc := "(I)I" } : Jvm.MethodName)) ∈ wA := wA_of 1985 rfl rfl
set_option maxRecDepth 100000 in
theorem wd_1987 : (Jvm.Cond.instanceMethod ({ cls := "LateFallsModel", name := "beside", desc := "(I)I" } : Jvm.MethodName)) ∈ wA := wA_of 1987 rfl rfl
set_option maxRecDepth 100000 in
theorem wd_1988 : (Jvm.Cond.code ({ cls := "LateFallsModel", name := "beside", desc := "(I)I" } : Jvm.MethodName) prog_13_method_118_code (2 : Nat) (Option.some Jvm.ClassFile.FieldType.int)) ∈ wA := wA_of 1988 rfl rfl
set_option maxRecDepth 100000 in
theorem wd_1989 : (Jvm.Cond.methodLink "LateFallsModel" (490 : Nat) ({ cls := "LateFallsModel", name := "allColumns", desc := "()I" } : Jvm.MethodName)) ∈ wA := wA_of 1989 rfl rfl
set_option maxRecDepth 100000 in
theorem wd_1991 : (Jvm.Cond.instanceMethod ({ cls := "LateFallsModel", name := "allColumns", desc := "()I" } : Jvm.MethodName)) ∈ wA := wA_of 1991 rfl rfl
set_option maxRecDepth 100000 in
theorem wd_1992 : (Jvm.Cond.code ({ cls := "LateFallsModel", name := "allColumns", desc := "()I" } : Jvm.MethodName) prog_13_method_117_code (1 : Nat) (Option.some Jvm.ClassFile.FieldType.int)) ∈ wA := wA_of 1992 rfl rfl
set_option maxRecDepth 100000 in
theorem wd_1993 : (Jvm.Cond.methodLink "LateFallsLaw" (266 : Nat) ({ cls := "LateFallsModel", name := "safeWays", desc := "(III)J" } : Jvm.MethodName)) ∈ wA := wA_of 1993 rfl rfl
set_option maxRecDepth 100000 in
theorem wd_1994 : (Jvm.Cond.instanceMethod ({ cls := "LateFallsModel", name := "safeWays", desc := "(III)J" } : Jvm.MethodName)) ∈ wA := wA_of 1994 rfl rfl
set_option maxRecDepth 100000 in
theorem wd_1995 : (Jvm.Cond.selects "LateFallsModel" ({ cls := "LateFallsModel", name := "safeWays", desc := "(III)J" } : Jvm.MethodName) ({ cls := "LateFallsModel", name := "safeWays", desc := "(III)J" } : Jvm.MethodName)) ∈ wA := wA_of 1995 rfl rfl
set_option maxRecDepth 100000 in
theorem wd_1996 : (Jvm.Cond.code ({ cls := "LateFallsModel", name := "safeWays", desc := "(III)J" } : Jvm.MethodName) prog_13_method_122_code (5 : Nat) (Option.some Jvm.ClassFile.FieldType.long)) ∈ wA := wA_of 1996 rfl rfl
set_option maxRecDepth 100000 in
theorem wd_1997 : (Jvm.Cond.constantLong "LateFallsModel" (507 : Nat) (20 : Int64)) ∈ wA := wA_of 1997 rfl rfl
set_option maxRecDepth 100000 in
theorem wd_1998 : (Jvm.Cond.methodLink "LateFallsModel" (509 : Nat) ({ cls := "LateFallsModel", name := "countsOn", desc := "(I)V" } : Jvm.MethodName)) ∈ wA := wA_of 1998 rfl rfl
set_option maxRecDepth 100000 in
theorem wd_2000 : (Jvm.Cond.instanceMethod ({ cls := "LateFallsModel", name := "countsOn", desc := "(I)V" } : Jvm.MethodName)) ∈ wA := wA_of 2000 rfl rfl
set_option maxRecDepth 100000 in
theorem wd_2001 : (Jvm.Cond.code ({ cls := "LateFallsModel", name := "countsOn", desc := "(I)V" } : Jvm.MethodName) prog_13_method_123_code (4 : Nat) (Option.none : Option Jvm.ClassFile.FieldType)) ∈ wA := wA_of 2001 rfl rfl
set_option maxRecDepth 100000 in
theorem wd_2002 : (Jvm.Cond.methodLink "LateFallsLaw" (269 : Nat) ({ cls := "LateFallsModel", name := "safeIn", desc := "(II)I" } : Jvm.MethodName)) ∈ wA := wA_of 2002 rfl rfl
set_option maxRecDepth 100000 in
theorem wd_2003 : (Jvm.Cond.instanceMethod ({ cls := "LateFallsModel", name := "safeIn", desc := "(II)I" } : Jvm.MethodName)) ∈ wA := wA_of 2003 rfl rfl
set_option maxRecDepth 100000 in
theorem wd_2004 : (Jvm.Cond.selects "LateFallsModel" ({ cls := "LateFallsModel", name := "safeIn", desc := "(II)I" } : Jvm.MethodName) ({ cls := "LateFallsModel", name := "safeIn", desc := "(II)I" } : Jvm.MethodName)) ∈ wA := wA_of 2004 rfl rfl
set_option maxRecDepth 100000 in
theorem wd_2005 : (Jvm.Cond.code ({ cls := "LateFallsModel", name := "safeIn", desc := "(II)I" } : Jvm.MethodName) prog_13_method_124_code (3 : Nat) (Option.some Jvm.ClassFile.FieldType.int)) ∈ wA := wA_of 2005 rfl rfl
set_option maxRecDepth 100000 in
theorem wd_2006 : (Jvm.Cond.methodLink "LateFallsLaw" (273 : Nat) ({ cls := "LateFallsModel", name := "shelter", desc := "()I" } : Jvm.MethodName)) ∈ wA := wA_of 2006 rfl rfl
set_option maxRecDepth 100000 in
theorem wd_2007 : (Jvm.Cond.instanceMethod ({ cls := "LateFallsModel", name := "shelter", desc := "()I" } : Jvm.MethodName)) ∈ wA := wA_of 2007 rfl rfl
set_option maxRecDepth 100000 in
theorem wd_2008 : (Jvm.Cond.selects "LateFallsModel" ({ cls := "LateFallsModel", name := "shelter", desc := "()I" } : Jvm.MethodName) ({ cls := "LateFallsModel", name := "shelter", desc := "()I" } : Jvm.MethodName)) ∈ wA := wA_of 2008 rfl rfl
set_option maxRecDepth 100000 in
theorem wd_2009 : (Jvm.Cond.code ({ cls := "LateFallsModel", name := "shelter", desc := "()I" } : Jvm.MethodName) prog_13_method_125_code (5 : Nat) (Option.some Jvm.ClassFile.FieldType.int)) ∈ wA := wA_of 2009 rfl rfl
set_option maxRecDepth 100000 in
theorem wd_2010 : (Jvm.Cond.methodLink "LateFallsLaw" (276 : Nat) ({ cls := "LateFallsModel", name := "later", desc := "(II)I" } : Jvm.MethodName)) ∈ wA := wA_of 2010 rfl rfl
set_option maxRecDepth 100000 in
theorem wd_2011 : (Jvm.Cond.instanceMethod ({ cls := "LateFallsModel", name := "later", desc := "(II)I" } : Jvm.MethodName)) ∈ wA := wA_of 2011 rfl rfl
set_option maxRecDepth 100000 in
theorem wd_2012 : (Jvm.Cond.selects "LateFallsModel" ({ cls := "LateFallsModel", name := "later", desc := "(II)I" } : Jvm.MethodName) ({ cls := "LateFallsModel", name := "later", desc := "(II)I" } : Jvm.MethodName)) ∈ wA := wA_of 2012 rfl rfl
set_option maxRecDepth 100000 in
theorem wd_2013 : (Jvm.Cond.code ({ cls := "LateFallsModel", name := "later", desc := "(II)I" } : Jvm.MethodName) prog_13_method_126_code (5 : Nat) (Option.some Jvm.ClassFile.FieldType.int)) ∈ wA := wA_of 2013 rfl rfl
set_option maxRecDepth 100000 in
theorem wd_2014 : (Jvm.Cond.constantLong "LateFallsModel" (512 : Nat) (8 : Int64)) ∈ wA := wA_of 2014 rfl rfl
set_option maxRecDepth 100000 in
theorem wd_2015 : (Jvm.Cond.methodLink "LateFallsLaw" (279 : Nat) ({ cls := "LateFallsModel", name := "letGoBy", desc := "(III)I" } : Jvm.MethodName)) ∈ wA := wA_of 2015 rfl rfl
set_option maxRecDepth 100000 in
theorem wd_2016 : (Jvm.Cond.instanceMethod ({ cls := "LateFallsModel", name := "letGoBy", desc := "(III)I" } : Jvm.MethodName)) ∈ wA := wA_of 2016 rfl rfl
set_option maxRecDepth 100000 in
theorem wd_2017 : (Jvm.Cond.selects "LateFallsModel" ({ cls := "LateFallsModel", name := "letGoBy", desc := "(III)I" } : Jvm.MethodName) ({ cls := "LateFallsModel", name := "letGoBy", desc := "(III)I" } : Jvm.MethodName)) ∈ wA := wA_of 2017 rfl rfl
set_option maxRecDepth 100000 in
theorem wd_2018 : (Jvm.Cond.code ({ cls := "LateFallsModel", name := "letGoBy", desc := "(III)I" } : Jvm.MethodName) prog_13_method_130_code (4 : Nat) (Option.some Jvm.ClassFile.FieldType.int)) ∈ wA := wA_of 2018 rfl rfl
set_option maxRecDepth 100000 in
theorem wd_2019 : (Jvm.Cond.methodLink "LateFallsModel" (521 : Nat) ({ cls := "LateFallsModel", name := "isGoneOut", desc := "(III)Z" } : Jvm.MethodName)) ∈ wA := wA_of 2019 rfl rfl
set_option maxRecDepth 100000 in
theorem wd_2021 : (Jvm.Cond.instanceMethod ({ cls := "LateFallsModel", name := "isGoneOut", desc := "(III)Z" } : Jvm.MethodName)) ∈ wA := wA_of 2021 rfl rfl
set_option maxRecDepth 100000 in
theorem wd_2022 : (Jvm.Cond.code ({ cls := "LateFallsModel", name := "isGoneOut", desc := "(III)Z" } : Jvm.MethodName) prog_13_method_128_code (4 : Nat) (Option.some Jvm.ClassFile.FieldType.boolean)) ∈ wA := wA_of 2022 rfl rfl
set_option maxRecDepth 100000 in
theorem wd_2023 : (Jvm.Cond.methodLink "LateFallsModel" (524 : Nat) ({ cls := "LateFallsModel", name := "laysLet", desc := "(IIII)I" } : Jvm.MethodName)) ∈ wA := wA_of 2023 rfl rfl
set_option maxRecDepth 100000 in
theorem wd_2025 : (Jvm.Cond.instanceMethod ({ cls := "LateFallsModel", name := "laysLet", desc := "(IIII)I" } : Jvm.MethodName)) ∈ wA := wA_of 2025 rfl rfl
set_option maxRecDepth 100000 in
theorem wd_2026 : (Jvm.Cond.code ({ cls := "LateFallsModel", name := "laysLet", desc := "(IIII)I" } : Jvm.MethodName) prog_13_method_129_code (8 : Nat) (Option.some Jvm.ClassFile.FieldType.int)) ∈ wA := wA_of 2026 rfl rfl
set_option maxRecDepth 100000 in
theorem wd_2027 : (Jvm.Cond.methodLink "LateFallsModel" (517 : Nat) ({ cls := "LateFallsModel", name := "isJust", desc := "(IIIII)Z" } : Jvm.MethodName)) ∈ wA := wA_of 2027 rfl rfl
set_option maxRecDepth 100000 in
theorem wd_2029 : (Jvm.Cond.instanceMethod ({ cls := "LateFallsModel", name := "isJust", desc := "(IIIII)Z" } : Jvm.MethodName)) ∈ wA := wA_of 2029 rfl rfl
set_option maxRecDepth 100000 in
theorem wd_2030 : (Jvm.Cond.code ({ cls := "LateFallsModel", name := "isJust", desc := "(IIIII)Z" } : Jvm.MethodName) prog_13_method_127_code (6 : Nat) (Option.some Jvm.ClassFile.FieldType.boolean)) ∈ wA := wA_of 2030 rfl rfl
set_option maxRecDepth 100000 in
theorem wd_2031 : (Jvm.Cond.methodLink "LateFallsLaw" (282 : Nat) ({ cls := "LateFallsModel", name := "letGoAt", desc := "(IIII)I" } : Jvm.MethodName)) ∈ wA := wA_of 2031 rfl rfl
set_option maxRecDepth 100000 in
theorem wd_2032 : (Jvm.Cond.instanceMethod ({ cls := "LateFallsModel", name := "letGoAt", desc := "(IIII)I" } : Jvm.MethodName)) ∈ wA := wA_of 2032 rfl rfl
set_option maxRecDepth 100000 in
theorem wd_2033 : (Jvm.Cond.selects "LateFallsModel" ({ cls := "LateFallsModel", name := "letGoAt", desc := "(IIII)I" } : Jvm.MethodName) ({ cls := "LateFallsModel", name := "letGoAt", desc := "(IIII)I" } : Jvm.MethodName)) ∈ wA := wA_of 2033 rfl rfl
set_option maxRecDepth 100000 in
theorem wd_2034 : (Jvm.Cond.code ({ cls := "LateFallsModel", name := "letGoAt", desc := "(IIII)I" } : Jvm.MethodName) prog_13_method_131_code (5 : Nat) (Option.some Jvm.ClassFile.FieldType.int)) ∈ wA := wA_of 2034 rfl rfl
set_option maxRecDepth 100000 in
theorem wd_2035 : (Jvm.Cond.methodLink "LateFallsLaw" (285 : Nat) ({ cls := "LateFallsModel", name := "levels", desc := "(IIII)I" } : Jvm.MethodName)) ∈ wA := wA_of 2035 rfl rfl
set_option maxRecDepth 100000 in
theorem wd_2036 : (Jvm.Cond.instanceMethod ({ cls := "LateFallsModel", name := "levels", desc := "(IIII)I" } : Jvm.MethodName)) ∈ wA := wA_of 2036 rfl rfl
set_option maxRecDepth 100000 in
theorem wd_2037 : (Jvm.Cond.selects "LateFallsModel" ({ cls := "LateFallsModel", name := "levels", desc := "(IIII)I" } : Jvm.MethodName) ({ cls := "LateFallsModel", name := "levels", desc := "(IIII)I" } : Jvm.MethodName)) ∈ wA := wA_of 2037 rfl rfl
set_option maxRecDepth 100000 in
theorem wd_2038 : (Jvm.Cond.code ({ cls := "LateFallsModel", name := "levels", desc := "(IIII)I" } : Jvm.MethodName) prog_13_method_132_code (7 : Nat) (Option.some Jvm.ClassFile.FieldType.int)) ∈ wA := wA_of 2038 rfl rfl
set_option maxRecDepth 100000 in
theorem wd_2039 : (Jvm.Cond.methodLink "LateFallsLaw" (289 : Nat) ({ cls := "LateFallsModel", name := "tray", desc := "(III)V" } : Jvm.MethodName)) ∈ wA := wA_of 2039 rfl rfl
set_option maxRecDepth 100000 in
theorem wd_2040 : (Jvm.Cond.instanceMethod ({ cls := "LateFallsModel", name := "tray", desc := "(III)V" } : Jvm.MethodName)) ∈ wA := wA_of 2040 rfl rfl
set_option maxRecDepth 100000 in
theorem wd_2041 : (Jvm.Cond.selects "LateFallsModel" ({ cls := "LateFallsModel", name := "tray", desc := "(III)V" } : Jvm.MethodName) ({ cls := "LateFallsModel", name := "tray", desc := "(III)V" } : Jvm.MethodName)) ∈ wA := wA_of 2041 rfl rfl
set_option maxRecDepth 100000 in
theorem wd_2042 : (Jvm.Cond.code ({ cls := "LateFallsModel", name := "tray", desc := "(III)V" } : Jvm.MethodName) prog_13_method_134_code (5 : Nat) (Option.none : Option Jvm.ClassFile.FieldType)) ∈ wA := wA_of 2042 rfl rfl
set_option maxRecDepth 100000 in
theorem wd_2043 : (Jvm.Cond.methodLink "LateFallsLaw" (298 : Nat) ({ cls := "LateFallsModel", name := "write", desc := "(IIJ)J" } : Jvm.MethodName)) ∈ wA := wA_of 2043 rfl rfl
set_option maxRecDepth 100000 in
theorem wd_2044 : (Jvm.Cond.instanceMethod ({ cls := "LateFallsModel", name := "write", desc := "(IIJ)J" } : Jvm.MethodName)) ∈ wA := wA_of 2044 rfl rfl
set_option maxRecDepth 100000 in
theorem wd_2045 : (Jvm.Cond.selects "LateFallsModel" ({ cls := "LateFallsModel", name := "write", desc := "(IIJ)J" } : Jvm.MethodName) ({ cls := "LateFallsModel", name := "write", desc := "(IIJ)J" } : Jvm.MethodName)) ∈ wA := wA_of 2045 rfl rfl
set_option maxRecDepth 100000 in
theorem wd_2046 : (Jvm.Cond.code ({ cls := "LateFallsModel", name := "write", desc := "(IIJ)J" } : Jvm.MethodName) prog_13_method_136_code (5 : Nat) (Option.some Jvm.ClassFile.FieldType.long)) ∈ wA := wA_of 2046 rfl rfl
set_option maxRecDepth 100000 in
theorem wd_2047 : (Jvm.Cond.methodLink "LateFallsModel" (527 : Nat) ({ cls := "LateFallsModel", name := "cut", desc := "(IIJ)J" } : Jvm.MethodName)) ∈ wA := wA_of 2047 rfl rfl
set_option maxRecDepth 100000 in
theorem wd_2049 : (Jvm.Cond.instanceMethod ({ cls := "LateFallsModel", name := "cut", desc := "(IIJ)J" } : Jvm.MethodName)) ∈ wA := wA_of 2049 rfl rfl
set_option maxRecDepth 100000 in
theorem wd_2050 : (Jvm.Cond.code ({ cls := "LateFallsModel", name := "cut", desc := "(IIJ)J" } : Jvm.MethodName) prog_13_method_135_code (6 : Nat) (Option.some Jvm.ClassFile.FieldType.long)) ∈ wA := wA_of 2050 rfl rfl
set_option maxRecDepth 100000 in
theorem wd_2051 : (Jvm.Cond.methodLink "LateFallsLaw" (301 : Nat) ({ cls := "LateFallsModel", name := "copy", desc := "(I)I" } : Jvm.MethodName)) ∈ wA := wA_of 2051 rfl rfl
set_option maxRecDepth 100000 in
theorem wd_2052 : (Jvm.Cond.instanceMethod ({ cls := "LateFallsModel", name := "copy", desc := "(I)I" } : Jvm.MethodName)) ∈ wA := wA_of 2052 rfl rfl
set_option maxRecDepth 100000 in
theorem wd_2053 : (Jvm.Cond.selects "LateFallsModel" ({ cls := "LateFallsModel", name := "copy", desc := "(I)I" } : Jvm.MethodName) ({ cls := "LateFallsModel", name := "copy", desc := "(I)I" } : Jvm.MethodName)) ∈ wA := wA_of 2053 rfl rfl
set_option maxRecDepth 100000 in
theorem wd_2054 : (Jvm.Cond.code ({ cls := "LateFallsModel", name := "copy", desc := "(I)I" } : Jvm.MethodName) prog_13_method_137_code (4 : Nat) (Option.some Jvm.ClassFile.FieldType.int)) ∈ wA := wA_of 2054 rfl rfl
set_option maxRecDepth 100000 in
theorem wd_2055 : (Jvm.Cond.methodLink "LateFallsLaw" (305 : Nat) ({ cls := "LateFallsModel", name := "image", desc := "(I)V" } : Jvm.MethodName)) ∈ wA := wA_of 2055 rfl rfl
set_option maxRecDepth 100000 in
theorem wd_2056 : (Jvm.Cond.instanceMethod ({ cls := "LateFallsModel", name := "image", desc := "(I)V" } : Jvm.MethodName)) ∈ wA := wA_of 2056 rfl rfl
set_option maxRecDepth 100000 in
theorem wd_2057 : (Jvm.Cond.selects "LateFallsModel" ({ cls := "LateFallsModel", name := "image", desc := "(I)V" } : Jvm.MethodName) ({ cls := "LateFallsModel", name := "image", desc := "(I)V" } : Jvm.MethodName)) ∈ wA := wA_of 2057 rfl rfl
set_option maxRecDepth 100000 in
theorem wd_2058 : (Jvm.Cond.code ({ cls := "LateFallsModel", name := "image", desc := "(I)V" } : Jvm.MethodName) prog_13_method_138_code (3 : Nat) (Option.none : Option Jvm.ClassFile.FieldType)) ∈ wA := wA_of 2058 rfl rfl
set_option maxRecDepth 100000 in
theorem wd_2059 : (Jvm.Cond.methodLink "LateFallsLaw" (308 : Nat) ({ cls := "LateFallsModel", name := "restore", desc := "(I)V" } : Jvm.MethodName)) ∈ wA := wA_of 2059 rfl rfl
set_option maxRecDepth 100000 in
theorem wd_2060 : (Jvm.Cond.instanceMethod ({ cls := "LateFallsModel", name := "restore", desc := "(I)V" } : Jvm.MethodName)) ∈ wA := wA_of 2060 rfl rfl
set_option maxRecDepth 100000 in
theorem wd_2061 : (Jvm.Cond.selects "LateFallsModel" ({ cls := "LateFallsModel", name := "restore", desc := "(I)V" } : Jvm.MethodName) ({ cls := "LateFallsModel", name := "restore", desc := "(I)V" } : Jvm.MethodName)) ∈ wA := wA_of 2061 rfl rfl
set_option maxRecDepth 100000 in
theorem wd_2062 : (Jvm.Cond.code ({ cls := "LateFallsModel", name := "restore", desc := "(I)V" } : Jvm.MethodName) prog_13_method_139_code (3 : Nat) (Option.none : Option Jvm.ClassFile.FieldType)) ∈ wA := wA_of 2062 rfl rfl
set_option maxRecDepth 100000 in
theorem wd_2063 : (Jvm.Cond.methodLink "LateFallsLaw" (312 : Nat) ({ cls := "LateFallsModel", name := "count", desc := "(I)I" } : Jvm.MethodName)) ∈ wA := wA_of 2063 rfl rfl
set_option maxRecDepth 100000 in
theorem wd_2064 : (Jvm.Cond.instanceMethod ({ cls := "LateFallsModel", name := "count", desc := "(I)I" } : Jvm.MethodName)) ∈ wA := wA_of 2064 rfl rfl
set_option maxRecDepth 100000 in
theorem wd_2065 : (Jvm.Cond.selects "LateFallsModel" ({ cls := "LateFallsModel", name := "count", desc := "(I)I" } : Jvm.MethodName) ({ cls := "LateFallsModel", name := "count", desc := "(I)I" } : Jvm.MethodName)) ∈ wA := wA_of 2065 rfl rfl
set_option maxRecDepth 100000 in
theorem wd_2066 : (Jvm.Cond.code ({ cls := "LateFallsModel", name := "count", desc := "(I)I" } : Jvm.MethodName) prog_13_method_141_code (2 : Nat) (Option.some Jvm.ClassFile.FieldType.int)) ∈ wA := wA_of 2066 rfl rfl
set_option maxRecDepth 100000 in
theorem wd_2067 : (Jvm.Cond.methodLink "LateFallsModel" (531 : Nat) ({ cls := "LateFallsModel", name := "allThat", desc := "(I)I" } : Jvm.MethodName)) ∈ wA := wA_of 2067 rfl rfl
set_option maxRecDepth 100000 in
theorem wd_2069 : (Jvm.Cond.instanceMethod ({ cls := "LateFallsModel", name := "allThat", desc := "(I)I" } : Jvm.MethodName)) ∈ wA := wA_of 2069 rfl rfl
set_option maxRecDepth 100000 in
theorem wd_2070 : (Jvm.Cond.code ({ cls := "LateFallsModel", name := "allThat", desc := "(I)I" } : Jvm.MethodName) prog_13_method_140_code (4 : Nat) (Option.some Jvm.ClassFile.FieldType.int)) ∈ wA := wA_of 2070 rfl rfl
set_option maxRecDepth 100000 in
theorem wd_2071 : (Jvm.Cond.constantLong "LateFallsLaw" (293 : Nat) (4294967295 : Int64)) ∈ wA := wA_of 2071 rfl rfl
set_option maxRecDepth 100000 in
theorem wd_2091 : (Jvm.Cond.fieldLink "java/lang/String" (9 : Nat) "java/lang/String" "value" "[B") ∈ wA := wA_of 2091 rfl rfl
set_option maxRecDepth 100000 in
theorem wd_2092 : (Jvm.Cond.fieldLink "java/lang/String" (15 : Nat) "java/lang/String" "coder" "B") ∈ wA := wA_of 2092 rfl rfl
set_option maxRecDepth 100000 in
theorem wp_0 : (Jvm.Cond.selects "LateFalls" ({ cls := "LateFalls", name := "putBytes", desc := "(I)V" } : Jvm.MethodName) ({ cls := "LateFalls", name := "putBytes", desc := "(I)V" } : Jvm.MethodName)) ∈ wA := wA_ofP 0 rfl rfl
set_option maxRecDepth 100000 in
theorem wp_1 : (Jvm.Cond.selects "LateFalls$Scene" ({ cls := "LateFalls$Scene", name := "drop", desc := "(II)V" } : Jvm.MethodName) ({ cls := "LateFalls$Scene", name := "drop", desc := "(II)V" } : Jvm.MethodName)) ∈ wA := wA_ofP 1 rfl rfl
set_option maxRecDepth 100000 in
theorem wp_2 : (Jvm.Cond.selects "LateFalls$Scene" ({ cls := "LateFalls$Scene", name := "isFreed", desc := "(II)Z" } : Jvm.MethodName) ({ cls := "LateFalls$Scene", name := "isFreed", desc := "(II)Z" } : Jvm.MethodName)) ∈ wA := wA_ofP 2 rfl rfl
set_option maxRecDepth 100000 in
theorem wp_3 : (Jvm.Cond.selects "LateFalls$Scene" ({ cls := "LateFalls$Scene", name := "dueIn", desc := "(II)I" } : Jvm.MethodName) ({ cls := "LateFalls$Scene", name := "dueIn", desc := "(II)I" } : Jvm.MethodName)) ∈ wA := wA_ofP 3 rfl rfl
set_option maxRecDepth 100000 in
theorem wp_4 : (Jvm.Cond.selects "java/lang/Throwable" ({ cls := "java/lang/Throwable", name := "fillInStackTrace", desc := "(I)Ljava/lang/Throwable;" } : Jvm.MethodName) ({ cls := "java/lang/Throwable", name := "fillInStackTrace", desc := "(I)Ljava/lang/Throwable;" } : Jvm.MethodName)) ∈ wA := wA_ofP 4 rfl rfl
set_option maxRecDepth 100000 in
theorem wp_5 : (Jvm.Cond.selects "LateFalls$Tokens" ({ cls := "LateFalls$Tokens", name := "append", desc := "(II)V" } : Jvm.MethodName) ({ cls := "LateFalls$Tokens", name := "append", desc := "(II)V" } : Jvm.MethodName)) ∈ wA := wA_ofP 5 rfl rfl
set_option maxRecDepth 100000 in
theorem wp_6 : (Jvm.Cond.selects "LateFalls$Reader" ({ cls := "LateFalls$Reader", name := "fallLine", desc := "()V" } : Jvm.MethodName) ({ cls := "LateFalls$Reader", name := "fallLine", desc := "()V" } : Jvm.MethodName)) ∈ wA := wA_ofP 6 rfl rfl
set_option maxRecDepth 100000 in
theorem wp_7 : (Jvm.Cond.selects "LateFalls$Reader" ({ cls := "LateFalls$Reader", name := "expect", desc := "(I)V" } : Jvm.MethodName) ({ cls := "LateFalls$Reader", name := "expect", desc := "(I)V" } : Jvm.MethodName)) ∈ wA := wA_ofP 7 rfl rfl
set_option maxRecDepth 100000 in
theorem wp_8 : (Jvm.Cond.selects "LateFalls$Reader" ({ cls := "LateFalls$Reader", name := "refuse", desc := "(I)V" } : Jvm.MethodName) ({ cls := "LateFalls$Reader", name := "refuse", desc := "(I)V" } : Jvm.MethodName)) ∈ wA := wA_ofP 8 rfl rfl
set_option maxRecDepth 100000 in
theorem wp_9 : (Jvm.Cond.selects "LateFalls$Reader" ({ cls := "LateFalls$Reader", name := "number", desc := "(II)I" } : Jvm.MethodName) ({ cls := "LateFalls$Reader", name := "number", desc := "(II)I" } : Jvm.MethodName)) ∈ wA := wA_ofP 9 rfl rfl
set_option maxRecDepth 100000 in
theorem wp_10 : (Jvm.Cond.selects "LateFalls$Reader" ({ cls := "LateFalls$Reader", name := "lineEnd", desc := "()V" } : Jvm.MethodName) ({ cls := "LateFalls$Reader", name := "lineEnd", desc := "()V" } : Jvm.MethodName)) ∈ wA := wA_ofP 10 rfl rfl
set_option maxRecDepth 100000 in
theorem wp_11 : (Jvm.Cond.selects "LateFalls$Reader" ({ cls := "LateFalls$Reader", name := "thingLine", desc := "()V" } : Jvm.MethodName) ({ cls := "LateFalls$Reader", name := "thingLine", desc := "()V" } : Jvm.MethodName)) ∈ wA := wA_ofP 11 rfl rfl
set_option maxRecDepth 100000 in
theorem wp_12 : (Jvm.Cond.selects "LateFalls$Reader" ({ cls := "LateFalls$Reader", name := "heldThing", desc := "(I)V" } : Jvm.MethodName) ({ cls := "LateFalls$Reader", name := "heldThing", desc := "(I)V" } : Jvm.MethodName)) ∈ wA := wA_ofP 12 rfl rfl
set_option maxRecDepth 100000 in
theorem wp_13 : (Jvm.Cond.selects "LateFalls$Reader" ({ cls := "LateFalls$Reader", name := "hangingThing", desc := "(I)V" } : Jvm.MethodName) ({ cls := "LateFalls$Reader", name := "hangingThing", desc := "(I)V" } : Jvm.MethodName)) ∈ wA := wA_ofP 13 rfl rfl
set_option maxRecDepth 100000 in
theorem wp_14 : (Jvm.Cond.selects "LateFalls$Reader" ({ cls := "LateFalls$Reader", name := "lyingThing", desc := "(I)V" } : Jvm.MethodName) ({ cls := "LateFalls$Reader", name := "lyingThing", desc := "(I)V" } : Jvm.MethodName)) ∈ wA := wA_ofP 14 rfl rfl
set_option maxRecDepth 100000 in
theorem wp_15 : (Jvm.Cond.selects "LateFalls$Reader" ({ cls := "LateFalls$Reader", name := "walkerLine", desc := "()V" } : Jvm.MethodName) ({ cls := "LateFalls$Reader", name := "walkerLine", desc := "()V" } : Jvm.MethodName)) ∈ wA := wA_ofP 15 rfl rfl
set_option maxRecDepth 100000 in
theorem wp_16 : (Jvm.Cond.selects "LateFalls$Reader" ({ cls := "LateFalls$Reader", name := "hangsLine", desc := "()V" } : Jvm.MethodName) ({ cls := "LateFalls$Reader", name := "hangsLine", desc := "()V" } : Jvm.MethodName)) ∈ wA := wA_ofP 16 rfl rfl
set_option maxRecDepth 100000 in
theorem wp_17 : (Jvm.Cond.selects "LateFalls$Reader" ({ cls := "LateFalls$Reader", name := "sum", desc := "(I)V" } : Jvm.MethodName) ({ cls := "LateFalls$Reader", name := "sum", desc := "(I)V" } : Jvm.MethodName)) ∈ wA := wA_ofP 17 rfl rfl
set_option maxRecDepth 100000 in
theorem wp_18 : (Jvm.Cond.selects "LateFalls$Reader" ({ cls := "LateFalls$Reader", name := "atom", desc := "(I)V" } : Jvm.MethodName) ({ cls := "LateFalls$Reader", name := "atom", desc := "(I)V" } : Jvm.MethodName)) ∈ wA := wA_ofP 18 rfl rfl
set_option maxRecDepth 100000 in
theorem wp_19 : (Jvm.Cond.selects "LateFalls$Reader" ({ cls := "LateFalls$Reader", name := "isTooDeep", desc := "(I)Z" } : Jvm.MethodName) ({ cls := "LateFalls$Reader", name := "isTooDeep", desc := "(I)Z" } : Jvm.MethodName)) ∈ wA := wA_ofP 19 rfl rfl
set_option maxRecDepth 100000 in
theorem wp_20 : (Jvm.Cond.selects "LateFalls$Reader" ({ cls := "LateFalls$Reader", name := "given", desc := "(I)I" } : Jvm.MethodName) ({ cls := "LateFalls$Reader", name := "given", desc := "(I)I" } : Jvm.MethodName)) ∈ wA := wA_ofP 20 rfl rfl
set_option maxRecDepth 100000 in
theorem wp_21 : (Jvm.Cond.selects "LateFalls$Reader" ({ cls := "LateFalls$Reader", name := "emit", desc := "(I)V" } : Jvm.MethodName) ({ cls := "LateFalls$Reader", name := "emit", desc := "(I)V" } : Jvm.MethodName)) ∈ wA := wA_ofP 21 rfl rfl
set_option maxRecDepth 100000 in
theorem wp_22 : (Jvm.Cond.selects "LateFalls$Reader" ({ cls := "LateFalls$Reader", name := "freesLine", desc := "()V" } : Jvm.MethodName) ({ cls := "LateFalls$Reader", name := "freesLine", desc := "()V" } : Jvm.MethodName)) ∈ wA := wA_ofP 22 rfl rfl
set_option maxRecDepth 100000 in
theorem wp_23 : (Jvm.Cond.selects "LateFalls$Reader" ({ cls := "LateFalls$Reader", name := "truth", desc := "(I)V" } : Jvm.MethodName) ({ cls := "LateFalls$Reader", name := "truth", desc := "(I)V" } : Jvm.MethodName)) ∈ wA := wA_ofP 23 rfl rfl
set_option maxRecDepth 100000 in
theorem wp_24 : (Jvm.Cond.selects "LateFalls$Reader" ({ cls := "LateFalls$Reader", name := "unit", desc := "(I)V" } : Jvm.MethodName) ({ cls := "LateFalls$Reader", name := "unit", desc := "(I)V" } : Jvm.MethodName)) ∈ wA := wA_ofP 24 rfl rfl
set_option maxRecDepth 100000 in
theorem wp_25 : (Jvm.Cond.selects "LateFalls$Reader" ({ cls := "LateFalls$Reader", name := "countFromHour", desc := "()V" } : Jvm.MethodName) ({ cls := "LateFalls$Reader", name := "countFromHour", desc := "()V" } : Jvm.MethodName)) ∈ wA := wA_ofP 25 rfl rfl
set_option maxRecDepth 100000 in
theorem wp_26 : (Jvm.Cond.selects "LateFalls" ({ cls := "LateFalls", name := "needThing", desc := "(I)V" } : Jvm.MethodName) ({ cls := "LateFalls", name := "needThing", desc := "(I)V" } : Jvm.MethodName)) ∈ wA := wA_ofP 26 rfl rfl
set_option maxRecDepth 100000 in
theorem wp_27 : (Jvm.Cond.selects "LateFalls" ({ cls := "LateFalls", name := "needWalker", desc := "(I)V" } : Jvm.MethodName) ({ cls := "LateFalls", name := "needWalker", desc := "(I)V" } : Jvm.MethodName)) ∈ wA := wA_ofP 27 rfl rfl
set_option maxRecDepth 100000 in
theorem wp_28 : (Jvm.Cond.selects "LateFalls" ({ cls := "LateFalls", name := "needColumn", desc := "(I)V" } : Jvm.MethodName) ({ cls := "LateFalls", name := "needColumn", desc := "(I)V" } : Jvm.MethodName)) ∈ wA := wA_ofP 28 rfl rfl
set_option maxRecDepth 100000 in
theorem wp_29 : (Jvm.Cond.selects "LateFalls" ({ cls := "LateFalls", name := "needPlace", desc := "(II)V" } : Jvm.MethodName) ({ cls := "LateFalls", name := "needPlace", desc := "(II)V" } : Jvm.MethodName)) ∈ wA := wA_ofP 29 rfl rfl
set_option maxRecDepth 100000 in
theorem wp_30 : (Jvm.Cond.selects "LateFalls" ({ cls := "LateFalls", name := "filledTray", desc := "(I)LLateFalls$Tray;" } : Jvm.MethodName) ({ cls := "LateFalls", name := "filledTray", desc := "(I)LLateFalls$Tray;" } : Jvm.MethodName)) ∈ wA := wA_ofP 30 rfl rfl
set_option maxRecDepth 100000 in
theorem wp_31 : (Jvm.Cond.selects "LateFalls" ({ cls := "LateFalls", name := "anyTray", desc := "(I)LLateFalls$Tray;" } : Jvm.MethodName) ({ cls := "LateFalls", name := "anyTray", desc := "(I)LLateFalls$Tray;" } : Jvm.MethodName)) ∈ wA := wA_ofP 31 rfl rfl
set_option maxRecDepth 100000 in
theorem wp_32 : (Jvm.Cond.selects "LateFalls" ({ cls := "LateFalls", name := "drawDeed", desc := "()I" } : Jvm.MethodName) ({ cls := "LateFalls", name := "drawDeed", desc := "()I" } : Jvm.MethodName)) ∈ wA := wA_ofP 32 rfl rfl
set_option maxRecDepth 100000 in
theorem wp_33 : (Jvm.Cond.selects "LateFalls" ({ cls := "LateFalls", name := "draw", desc := "(I)I" } : Jvm.MethodName) ({ cls := "LateFalls", name := "draw", desc := "(I)I" } : Jvm.MethodName)) ∈ wA := wA_ofP 33 rfl rfl
set_option maxRecDepth 100000 in
theorem wp_34 : (Jvm.Cond.selects "LateFalls" ({ cls := "LateFalls", name := "needHeldAndPlace", desc := "(III)V" } : Jvm.MethodName) ({ cls := "LateFalls", name := "needHeldAndPlace", desc := "(III)V" } : Jvm.MethodName)) ∈ wA := wA_ofP 34 rfl rfl
set_option maxRecDepth 100000 in
theorem wp_35 : (Jvm.Cond.selects "LateFalls" ({ cls := "LateFalls", name := "needHeld", desc := "(I)V" } : Jvm.MethodName) ({ cls := "LateFalls", name := "needHeld", desc := "(I)V" } : Jvm.MethodName)) ∈ wA := wA_ofP 35 rfl rfl
set_option maxRecDepth 100000 in
theorem wp_36 : (Jvm.Cond.selects "LateFalls" ({ cls := "LateFalls", name := "firstWaitFor", desc := "(I)I" } : Jvm.MethodName) ({ cls := "LateFalls", name := "firstWaitFor", desc := "(I)I" } : Jvm.MethodName)) ∈ wA := wA_ofP 36 rfl rfl
set_option maxRecDepth 100000 in
theorem wp_37 : (Jvm.Cond.selects "LateFalls$Ways" ({ cls := "LateFalls$Ways", name := "near", desc := "(I)I" } : Jvm.MethodName) ({ cls := "LateFalls$Ways", name := "near", desc := "(I)I" } : Jvm.MethodName)) ∈ wA := wA_ofP 37 rfl rfl
set_option maxRecDepth 100000 in
theorem wp_38 : (Jvm.Cond.selects "LateFalls$Ways" ({ cls := "LateFalls$Ways", name := "beside", desc := "(I)J" } : Jvm.MethodName) ({ cls := "LateFalls$Ways", name := "beside", desc := "(I)J" } : Jvm.MethodName)) ∈ wA := wA_ofP 38 rfl rfl
set_option maxRecDepth 100000 in
theorem wp_39 : (Jvm.Cond.selects "LateFalls" ({ cls := "LateFalls", name := "isLetGoBy", desc := "(IIIII)Z" } : Jvm.MethodName) ({ cls := "LateFalls", name := "isLetGoBy", desc := "(IIIII)Z" } : Jvm.MethodName)) ∈ wA := wA_ofP 39 rfl rfl
set_option maxRecDepth 100000 in
theorem wp_40 : (Jvm.Cond.selects "LateFalls$Tray" ({ cls := "LateFalls$Tray", name := "cut", desc := "(J)J" } : Jvm.MethodName) ({ cls := "LateFalls$Tray", name := "cut", desc := "(J)J" } : Jvm.MethodName)) ∈ wA := wA_ofP 40 rfl rfl
set_option maxRecDepth 100000 in
theorem wp_41 : (Jvm.Cond.selects "LateFallsModel" ({ cls := "LateFallsModel", name := "fails", desc := "(I)I" } : Jvm.MethodName) ({ cls := "LateFallsModel", name := "fails", desc := "(I)I" } : Jvm.MethodName)) ∈ wA := wA_ofP 41 rfl rfl
set_option maxRecDepth 100000 in
theorem wp_42 : (Jvm.Cond.selects "LateFallsModel" ({ cls := "LateFallsModel", name := "readsOn", desc := "()V" } : Jvm.MethodName) ({ cls := "LateFallsModel", name := "readsOn", desc := "()V" } : Jvm.MethodName)) ∈ wA := wA_ofP 42 rfl rfl
set_option maxRecDepth 100000 in
theorem wp_43 : (Jvm.Cond.selects "LateFallsModel" ({ cls := "LateFallsModel", name := "see", desc := "(I)I" } : Jvm.MethodName) ({ cls := "LateFallsModel", name := "see", desc := "(I)I" } : Jvm.MethodName)) ∈ wA := wA_ofP 43 rfl rfl
set_option maxRecDepth 100000 in
theorem wp_44 : (Jvm.Cond.selects "LateFallsModel" ({ cls := "LateFallsModel", name := "mustWord", desc := "(Ljava/lang/String;)V" } : Jvm.MethodName) ({ cls := "LateFallsModel", name := "mustWord", desc := "(Ljava/lang/String;)V" } : Jvm.MethodName)) ∈ wA := wA_ofP 44 rfl rfl
set_option maxRecDepth 100000 in
theorem wp_45 : (Jvm.Cond.selects "LateFallsModel" ({ cls := "LateFallsModel", name := "took", desc := "(Ljava/lang/String;)Z" } : Jvm.MethodName) ({ cls := "LateFallsModel", name := "took", desc := "(Ljava/lang/String;)Z" } : Jvm.MethodName)) ∈ wA := wA_ofP 45 rfl rfl
set_option maxRecDepth 100000 in
theorem wp_46 : (Jvm.Cond.selects "LateFallsModel" ({ cls := "LateFallsModel", name := "isWord", desc := "(Ljava/lang/String;)Z" } : Jvm.MethodName) ({ cls := "LateFallsModel", name := "isWord", desc := "(Ljava/lang/String;)Z" } : Jvm.MethodName)) ∈ wA := wA_ofP 46 rfl rfl
set_option maxRecDepth 100000 in
theorem wp_47 : (Jvm.Cond.selects "LateFallsModel" ({ cls := "LateFallsModel", name := "blames", desc := "(I)V" } : Jvm.MethodName) ({ cls := "LateFallsModel", name := "blames", desc := "(I)V" } : Jvm.MethodName)) ∈ wA := wA_ofP 47 rfl rfl
set_option maxRecDepth 100000 in
theorem wp_48 : (Jvm.Cond.selects "LateFallsModel" ({ cls := "LateFallsModel", name := "number", desc := "(II)I" } : Jvm.MethodName) ({ cls := "LateFallsModel", name := "number", desc := "(II)I" } : Jvm.MethodName)) ∈ wA := wA_ofP 48 rfl rfl
set_option maxRecDepth 100000 in
theorem wp_49 : (Jvm.Cond.selects "LateFallsModel" ({ cls := "LateFallsModel", name := "readStop", desc := "()V" } : Jvm.MethodName) ({ cls := "LateFallsModel", name := "readStop", desc := "()V" } : Jvm.MethodName)) ∈ wA := wA_ofP 49 rfl rfl
set_option maxRecDepth 100000 in
theorem wp_50 : (Jvm.Cond.selects "LateFallsModel" ({ cls := "LateFallsModel", name := "mustSign", desc := "(I)V" } : Jvm.MethodName) ({ cls := "LateFallsModel", name := "mustSign", desc := "(I)V" } : Jvm.MethodName)) ∈ wA := wA_ofP 50 rfl rfl
set_option maxRecDepth 100000 in
theorem wp_51 : (Jvm.Cond.selects "LateFallsModel" ({ cls := "LateFallsModel", name := "readLine", desc := "()V" } : Jvm.MethodName) ({ cls := "LateFallsModel", name := "readLine", desc := "()V" } : Jvm.MethodName)) ∈ wA := wA_ofP 51 rfl rfl
set_option maxRecDepth 100000 in
theorem wp_52 : (Jvm.Cond.selects "LateFallsModel" ({ cls := "LateFallsModel", name := "readThing", desc := "()V" } : Jvm.MethodName) ({ cls := "LateFallsModel", name := "readThing", desc := "()V" } : Jvm.MethodName)) ∈ wA := wA_ofP 52 rfl rfl
set_option maxRecDepth 100000 in
theorem wp_53 : (Jvm.Cond.selects "LateFallsModel" ({ cls := "LateFallsModel", name := "begins", desc := "(II)Z" } : Jvm.MethodName) ({ cls := "LateFallsModel", name := "begins", desc := "(II)Z" } : Jvm.MethodName)) ∈ wA := wA_ofP 53 rfl rfl
set_option maxRecDepth 100000 in
theorem wp_54 : (Jvm.Cond.selects "LateFallsModel" ({ cls := "LateFallsModel", name := "lays", desc := "(IIIII)V" } : Jvm.MethodName) ({ cls := "LateFallsModel", name := "lays", desc := "(IIIII)V" } : Jvm.MethodName)) ∈ wA := wA_ofP 54 rfl rfl
set_option maxRecDepth 100000 in
theorem wp_55 : (Jvm.Cond.selects "LateFallsModel" ({ cls := "LateFallsModel", name := "readUp", desc := "(I)V" } : Jvm.MethodName) ({ cls := "LateFallsModel", name := "readUp", desc := "(I)V" } : Jvm.MethodName)) ∈ wA := wA_ofP 55 rfl rfl
set_option maxRecDepth 100000 in
theorem wp_56 : (Jvm.Cond.selects "LateFallsModel" ({ cls := "LateFallsModel", name := "readOn", desc := "(I)V" } : Jvm.MethodName) ({ cls := "LateFallsModel", name := "readOn", desc := "(I)V" } : Jvm.MethodName)) ∈ wA := wA_ofP 56 rfl rfl
set_option maxRecDepth 100000 in
theorem wp_57 : (Jvm.Cond.selects "LateFallsModel" ({ cls := "LateFallsModel", name := "readWalker", desc := "()V" } : Jvm.MethodName) ({ cls := "LateFallsModel", name := "readWalker", desc := "()V" } : Jvm.MethodName)) ∈ wA := wA_ofP 57 rfl rfl
set_option maxRecDepth 100000 in
theorem wp_58 : (Jvm.Cond.selects "LateFallsModel" ({ cls := "LateFallsModel", name := "beginsLaw", desc := "(II)V" } : Jvm.MethodName) ({ cls := "LateFallsModel", name := "beginsLaw", desc := "(II)V" } : Jvm.MethodName)) ∈ wA := wA_ofP 58 rfl rfl
set_option maxRecDepth 100000 in
theorem wp_59 : (Jvm.Cond.selects "LateFallsModel" ({ cls := "LateFallsModel", name := "readSum", desc := "()V" } : Jvm.MethodName) ({ cls := "LateFallsModel", name := "readSum", desc := "()V" } : Jvm.MethodName)) ∈ wA := wA_ofP 59 rfl rfl
set_option maxRecDepth 100000 in
theorem wp_60 : (Jvm.Cond.selects "LateFallsModel" ({ cls := "LateFallsModel", name := "readTerm", desc := "()V" } : Jvm.MethodName) ({ cls := "LateFallsModel", name := "readTerm", desc := "()V" } : Jvm.MethodName)) ∈ wA := wA_ofP 60 rfl rfl
set_option maxRecDepth 100000 in
theorem wp_61 : (Jvm.Cond.selects "LateFallsModel" ({ cls := "LateFallsModel", name := "readAtom", desc := "()V" } : Jvm.MethodName) ({ cls := "LateFallsModel", name := "readAtom", desc := "()V" } : Jvm.MethodName)) ∈ wA := wA_ofP 61 rfl rfl
set_option maxRecDepth 100000 in
theorem wp_62 : (Jvm.Cond.selects "LateFallsModel" ({ cls := "LateFallsModel", name := "lawWord", desc := "()I" } : Jvm.MethodName) ({ cls := "LateFallsModel", name := "lawWord", desc := "()I" } : Jvm.MethodName)) ∈ wA := wA_ofP 62 rfl rfl
set_option maxRecDepth 100000 in
theorem wp_63 : (Jvm.Cond.selects "LateFallsModel" ({ cls := "LateFallsModel", name := "hangWord", desc := "()I" } : Jvm.MethodName) ({ cls := "LateFallsModel", name := "hangWord", desc := "()I" } : Jvm.MethodName)) ∈ wA := wA_ofP 63 rfl rfl
set_option maxRecDepth 100000 in
theorem wp_64 : (Jvm.Cond.selects "LateFallsModel" ({ cls := "LateFallsModel", name := "freeWord", desc := "()I" } : Jvm.MethodName) ({ cls := "LateFallsModel", name := "freeWord", desc := "()I" } : Jvm.MethodName)) ∈ wA := wA_ofP 64 rfl rfl
set_option maxRecDepth 100000 in
theorem wp_65 : (Jvm.Cond.selects "LateFallsModel" ({ cls := "LateFallsModel", name := "laysStep", desc := "(I)V" } : Jvm.MethodName) ({ cls := "LateFallsModel", name := "laysStep", desc := "(I)V" } : Jvm.MethodName)) ∈ wA := wA_ofP 65 rfl rfl
set_option maxRecDepth 100000 in
theorem wp_66 : (Jvm.Cond.selects "LateFallsModel" ({ cls := "LateFallsModel", name := "isSign", desc := "(I)Z" } : Jvm.MethodName) ({ cls := "LateFallsModel", name := "isSign", desc := "(I)Z" } : Jvm.MethodName)) ∈ wA := wA_ofP 66 rfl rfl
set_option maxRecDepth 100000 in
theorem wp_67 : (Jvm.Cond.selects "LateFallsModel" ({ cls := "LateFallsModel", name := "goesIn", desc := "()V" } : Jvm.MethodName) ({ cls := "LateFallsModel", name := "goesIn", desc := "()V" } : Jvm.MethodName)) ∈ wA := wA_ofP 67 rfl rfl
set_option maxRecDepth 100000 in
theorem wp_68 : (Jvm.Cond.selects "LateFallsModel" ({ cls := "LateFallsModel", name := "readTruth", desc := "()V" } : Jvm.MethodName) ({ cls := "LateFallsModel", name := "readTruth", desc := "()V" } : Jvm.MethodName)) ∈ wA := wA_ofP 68 rfl rfl
set_option maxRecDepth 100000 in
theorem wp_69 : (Jvm.Cond.selects "LateFallsModel" ({ cls := "LateFallsModel", name := "readBoth", desc := "()V" } : Jvm.MethodName) ({ cls := "LateFallsModel", name := "readBoth", desc := "()V" } : Jvm.MethodName)) ∈ wA := wA_ofP 69 rfl rfl
set_option maxRecDepth 100000 in
theorem wp_70 : (Jvm.Cond.selects "LateFallsModel" ({ cls := "LateFallsModel", name := "readUnit", desc := "()V" } : Jvm.MethodName) ({ cls := "LateFallsModel", name := "readUnit", desc := "()V" } : Jvm.MethodName)) ∈ wA := wA_ofP 70 rfl rfl
set_option maxRecDepth 100000 in
theorem wp_71 : (Jvm.Cond.selects "LateFallsModel" ({ cls := "LateFallsModel", name := "things", desc := "()I" } : Jvm.MethodName) ({ cls := "LateFallsModel", name := "things", desc := "()I" } : Jvm.MethodName)) ∈ wA := wA_ofP 71 rfl rfl
set_option maxRecDepth 100000 in
theorem wp_72 : (Jvm.Cond.selects "LateFallsModel" ({ cls := "LateFallsModel", name := "is", desc := "(II)Z" } : Jvm.MethodName) ({ cls := "LateFallsModel", name := "is", desc := "(II)Z" } : Jvm.MethodName)) ∈ wA := wA_ofP 72 rfl rfl
set_option maxRecDepth 100000 in
theorem wp_73 : (Jvm.Cond.selects "LateFallsModel" ({ cls := "LateFallsModel", name := "isThing", desc := "(J)Z" } : Jvm.MethodName) ({ cls := "LateFallsModel", name := "isThing", desc := "(J)Z" } : Jvm.MethodName)) ∈ wA := wA_ofP 73 rfl rfl
set_option maxRecDepth 100000 in
theorem wp_74 : (Jvm.Cond.selects "LateFallsModel" ({ cls := "LateFallsModel", name := "isWalker", desc := "(I)Z" } : Jvm.MethodName) ({ cls := "LateFallsModel", name := "isWalker", desc := "(I)Z" } : Jvm.MethodName)) ∈ wA := wA_ofP 74 rfl rfl
set_option maxRecDepth 100000 in
theorem wp_75 : (Jvm.Cond.selects "LateFallsModel" ({ cls := "LateFallsModel", name := "walks", desc := "(II)I" } : Jvm.MethodName) ({ cls := "LateFallsModel", name := "walks", desc := "(II)I" } : Jvm.MethodName)) ∈ wA := wA_ofP 75 rfl rfl
set_option maxRecDepth 100000 in
theorem wp_76 : (Jvm.Cond.selects "LateFallsModel" ({ cls := "LateFallsModel", name := "isColumn", desc := "(J)Z" } : Jvm.MethodName) ({ cls := "LateFallsModel", name := "isColumn", desc := "(J)Z" } : Jvm.MethodName)) ∈ wA := wA_ofP 76 rfl rfl
set_option maxRecDepth 100000 in
theorem wp_77 : (Jvm.Cond.selects "LateFallsModel" ({ cls := "LateFallsModel", name := "lying", desc := "(I)I" } : Jvm.MethodName) ({ cls := "LateFallsModel", name := "lying", desc := "(I)I" } : Jvm.MethodName)) ∈ wA := wA_ofP 77 rfl rfl
set_option maxRecDepth 100000 in
theorem wp_78 : (Jvm.Cond.selects "LateFallsModel" ({ cls := "LateFallsModel", name := "isPlace", desc := "(JJ)Z" } : Jvm.MethodName) ({ cls := "LateFallsModel", name := "isPlace", desc := "(JJ)Z" } : Jvm.MethodName)) ∈ wA := wA_ofP 78 rfl rfl
set_option maxRecDepth 100000 in
theorem wp_79 : (Jvm.Cond.selects "LateFallsModel" ({ cls := "LateFallsModel", name := "hangsFor", desc := "(IIIII)I" } : Jvm.MethodName) ({ cls := "LateFallsModel", name := "hangsFor", desc := "(IIIII)I" } : Jvm.MethodName)) ∈ wA := wA_ofP 79 rfl rfl
set_option maxRecDepth 100000 in
theorem wp_80 : (Jvm.Cond.selects "LateFallsModel" ({ cls := "LateFallsModel", name := "lawOf", desc := "(II)I" } : Jvm.MethodName) ({ cls := "LateFallsModel", name := "lawOf", desc := "(II)I" } : Jvm.MethodName)) ∈ wA := wA_ofP 80 rfl rfl
set_option maxRecDepth 100000 in
theorem wp_81 : (Jvm.Cond.selects "LateFallsModel" ({ cls := "LateFallsModel", name := "whyLet", desc := "(JJJ)I" } : Jvm.MethodName) ({ cls := "LateFallsModel", name := "whyLet", desc := "(JJJ)I" } : Jvm.MethodName)) ∈ wA := wA_ofP 81 rfl rfl
set_option maxRecDepth 100000 in
theorem wp_82 : (Jvm.Cond.selects "LateFallsModel" ({ cls := "LateFallsModel", name := "keeps", desc := "()V" } : Jvm.MethodName) ({ cls := "LateFallsModel", name := "keeps", desc := "()V" } : Jvm.MethodName)) ∈ wA := wA_ofP 82 rfl rfl
set_option maxRecDepth 100000 in
theorem wp_83 : (Jvm.Cond.selects "LateFallsModel" ({ cls := "LateFallsModel", name := "lets", desc := "(III)I" } : Jvm.MethodName) ({ cls := "LateFallsModel", name := "lets", desc := "(III)I" } : Jvm.MethodName)) ∈ wA := wA_ofP 83 rfl rfl
set_option maxRecDepth 100000 in
theorem wp_84 : (Jvm.Cond.selects "LateFallsModel" ({ cls := "LateFallsModel", name := "drops", desc := "(II)V" } : Jvm.MethodName) ({ cls := "LateFallsModel", name := "drops", desc := "(II)V" } : Jvm.MethodName)) ∈ wA := wA_ofP 84 rfl rfl
set_option maxRecDepth 100000 in
theorem wp_85 : (Jvm.Cond.selects "LateFallsModel" ({ cls := "LateFallsModel", name := "fallingWith", desc := "(II)I" } : Jvm.MethodName) ({ cls := "LateFallsModel", name := "fallingWith", desc := "(II)I" } : Jvm.MethodName)) ∈ wA := wA_ofP 85 rfl rfl
set_option maxRecDepth 100000 in
theorem wp_86 : (Jvm.Cond.selects "LateFallsModel" ({ cls := "LateFallsModel", name := "hangsIn", desc := "(II)Z" } : Jvm.MethodName) ({ cls := "LateFallsModel", name := "hangsIn", desc := "(II)Z" } : Jvm.MethodName)) ∈ wA := wA_ofP 86 rfl rfl
set_option maxRecDepth 100000 in
theorem wp_87 : (Jvm.Cond.selects "LateFallsModel" ({ cls := "LateFallsModel", name := "comesToo", desc := "(III)Z" } : Jvm.MethodName) ({ cls := "LateFallsModel", name := "comesToo", desc := "(III)Z" } : Jvm.MethodName)) ∈ wA := wA_ofP 87 rfl rfl
set_option maxRecDepth 100000 in
theorem wp_88 : (Jvm.Cond.selects "LateFallsModel" ({ cls := "LateFallsModel", name := "setsFree", desc := "(II)Z" } : Jvm.MethodName) ({ cls := "LateFallsModel", name := "setsFree", desc := "(II)Z" } : Jvm.MethodName)) ∈ wA := wA_ofP 88 rfl rfl
set_option maxRecDepth 100000 in
theorem wp_89 : (Jvm.Cond.selects "LateFallsModel" ({ cls := "LateFallsModel", name := "whyTake", desc := "(J)I" } : Jvm.MethodName) ({ cls := "LateFallsModel", name := "whyTake", desc := "(J)I" } : Jvm.MethodName)) ∈ wA := wA_ofP 89 rfl rfl
set_option maxRecDepth 100000 in
theorem wp_90 : (Jvm.Cond.selects "LateFallsModel" ({ cls := "LateFallsModel", name := "takes", desc := "(I)V" } : Jvm.MethodName) ({ cls := "LateFallsModel", name := "takes", desc := "(I)V" } : Jvm.MethodName)) ∈ wA := wA_ofP 90 rfl rfl
set_option maxRecDepth 100000 in
theorem wp_91 : (Jvm.Cond.selects "LateFallsModel" ({ cls := "LateFallsModel", name := "quakes", desc := "()I" } : Jvm.MethodName) ({ cls := "LateFallsModel", name := "quakes", desc := "()I" } : Jvm.MethodName)) ∈ wA := wA_ofP 91 rfl rfl
set_option maxRecDepth 100000 in
theorem wp_92 : (Jvm.Cond.selects "LateFallsModel" ({ cls := "LateFallsModel", name := "fallAll", desc := "(Z)V" } : Jvm.MethodName) ({ cls := "LateFallsModel", name := "fallAll", desc := "(Z)V" } : Jvm.MethodName)) ∈ wA := wA_ofP 92 rfl rfl
set_option maxRecDepth 100000 in
theorem wp_93 : (Jvm.Cond.selects "LateFallsModel" ({ cls := "LateFallsModel", name := "hour", desc := "()V" } : Jvm.MethodName) ({ cls := "LateFallsModel", name := "hour", desc := "()V" } : Jvm.MethodName)) ∈ wA := wA_ofP 93 rfl rfl
set_option maxRecDepth 100000 in
theorem wp_94 : (Jvm.Cond.selects "LateFallsModel" ({ cls := "LateFallsModel", name := "goesTo", desc := "(I)V" } : Jvm.MethodName) ({ cls := "LateFallsModel", name := "goesTo", desc := "(I)V" } : Jvm.MethodName)) ∈ wA := wA_ofP 94 rfl rfl
set_option maxRecDepth 100000 in
theorem wp_95 : (Jvm.Cond.selects "LateFallsModel" ({ cls := "LateFallsModel", name := "trayFault", desc := "(I)I" } : Jvm.MethodName) ({ cls := "LateFallsModel", name := "trayFault", desc := "(I)I" } : Jvm.MethodName)) ∈ wA := wA_ofP 95 rfl rfl
set_option maxRecDepth 100000 in
theorem wp_96 : (Jvm.Cond.selects "LateFallsModel" ({ cls := "LateFallsModel", name := "putsAside", desc := "()V" } : Jvm.MethodName) ({ cls := "LateFallsModel", name := "putsAside", desc := "()V" } : Jvm.MethodName)) ∈ wA := wA_ofP 96 rfl rfl
set_option maxRecDepth 100000 in
theorem wp_97 : (Jvm.Cond.selects "LateFallsModel" ({ cls := "LateFallsModel", name := "whyTold", desc := "(J)I" } : Jvm.MethodName) ({ cls := "LateFallsModel", name := "whyTold", desc := "(J)I" } : Jvm.MethodName)) ∈ wA := wA_ofP 97 rfl rfl
set_option maxRecDepth 100000 in
theorem wp_98 : (Jvm.Cond.selects "LateFallsModel" ({ cls := "LateFallsModel", name := "does", desc := "(I)V" } : Jvm.MethodName) ({ cls := "LateFallsModel", name := "does", desc := "(I)V" } : Jvm.MethodName)) ∈ wA := wA_ofP 98 rfl rfl
set_option maxRecDepth 100000 in
theorem wp_99 : (Jvm.Cond.selects "LateFallsModel" ({ cls := "LateFallsModel", name := "lyingAll", desc := "()I" } : Jvm.MethodName) ({ cls := "LateFallsModel", name := "lyingAll", desc := "()I" } : Jvm.MethodName)) ∈ wA := wA_ofP 99 rfl rfl
set_option maxRecDepth 100000 in
theorem wp_100 : (Jvm.Cond.selects "LateFallsModel" ({ cls := "LateFallsModel", name := "hurtAll", desc := "()I" } : Jvm.MethodName) ({ cls := "LateFallsModel", name := "hurtAll", desc := "()I" } : Jvm.MethodName)) ∈ wA := wA_ofP 100 rfl rfl
set_option maxRecDepth 100000 in
theorem wp_101 : (Jvm.Cond.selects "LateFallsModel" ({ cls := "LateFallsModel", name := "putsBack", desc := "()V" } : Jvm.MethodName) ({ cls := "LateFallsModel", name := "putsBack", desc := "()V" } : Jvm.MethodName)) ∈ wA := wA_ofP 101 rfl rfl
set_option maxRecDepth 100000 in
theorem wp_102 : (Jvm.Cond.selects "LateFallsModel" ({ cls := "LateFallsModel", name := "draw", desc := "(I)I" } : Jvm.MethodName) ({ cls := "LateFallsModel", name := "draw", desc := "(I)I" } : Jvm.MethodName)) ∈ wA := wA_ofP 102 rfl rfl
set_option maxRecDepth 100000 in
theorem wp_103 : (Jvm.Cond.selects "LateFallsModel" ({ cls := "LateFallsModel", name := "fallsIn", desc := "(I)I" } : Jvm.MethodName) ({ cls := "LateFallsModel", name := "fallsIn", desc := "(I)I" } : Jvm.MethodName)) ∈ wA := wA_ofP 103 rfl rfl
set_option maxRecDepth 100000 in
theorem wp_104 : (Jvm.Cond.selects "LateFallsModel" ({ cls := "LateFallsModel", name := "nextHour", desc := "()I" } : Jvm.MethodName) ({ cls := "LateFallsModel", name := "nextHour", desc := "()I" } : Jvm.MethodName)) ∈ wA := wA_ofP 104 rfl rfl
set_option maxRecDepth 100000 in
theorem wp_105 : (Jvm.Cond.selects "LateFallsModel" ({ cls := "LateFallsModel", name := "nextFall", desc := "(I)Z" } : Jvm.MethodName) ({ cls := "LateFallsModel", name := "nextFall", desc := "(I)Z" } : Jvm.MethodName)) ∈ wA := wA_ofP 105 rfl rfl
set_option maxRecDepth 100000 in
theorem wp_106 : (Jvm.Cond.selects "LateFallsModel" ({ cls := "LateFallsModel", name := "hurtsOf", desc := "(I)I" } : Jvm.MethodName) ({ cls := "LateFallsModel", name := "hurtsOf", desc := "(I)I" } : Jvm.MethodName)) ∈ wA := wA_ofP 106 rfl rfl
set_option maxRecDepth 100000 in
theorem wp_107 : (Jvm.Cond.selects "LateFallsModel" ({ cls := "LateFallsModel", name := "isWaitOut", desc := "(III)Z" } : Jvm.MethodName) ({ cls := "LateFallsModel", name := "isWaitOut", desc := "(III)Z" } : Jvm.MethodName)) ∈ wA := wA_ofP 107 rfl rfl
set_option maxRecDepth 100000 in
theorem wp_108 : (Jvm.Cond.selects "LateFallsModel" ({ cls := "LateFallsModel", name := "laysWait", desc := "(IIII)V" } : Jvm.MethodName) ({ cls := "LateFallsModel", name := "laysWait", desc := "(IIII)V" } : Jvm.MethodName)) ∈ wA := wA_ofP 108 rfl rfl
set_option maxRecDepth 100000 in
theorem wp_109 : (Jvm.Cond.selects "LateFallsModel" ({ cls := "LateFallsModel", name := "leastWait", desc := "(IIII)I" } : Jvm.MethodName) ({ cls := "LateFallsModel", name := "leastWait", desc := "(IIII)I" } : Jvm.MethodName)) ∈ wA := wA_ofP 109 rfl rfl
set_option maxRecDepth 100000 in
theorem wp_110 : (Jvm.Cond.selects "LateFallsModel" ({ cls := "LateFallsModel", name := "walkersIn", desc := "(II)I" } : Jvm.MethodName) ({ cls := "LateFallsModel", name := "walkersIn", desc := "(II)I" } : Jvm.MethodName)) ∈ wA := wA_ofP 110 rfl rfl
set_option maxRecDepth 100000 in
theorem wp_111 : (Jvm.Cond.selects "LateFallsModel" ({ cls := "LateFallsModel", name := "laysWay", desc := "(II)I" } : Jvm.MethodName) ({ cls := "LateFallsModel", name := "laysWay", desc := "(II)I" } : Jvm.MethodName)) ∈ wA := wA_ofP 111 rfl rfl
set_option maxRecDepth 100000 in
theorem wp_112 : (Jvm.Cond.selects "LateFallsModel" ({ cls := "LateFallsModel", name := "laysComes", desc := "(I)V" } : Jvm.MethodName) ({ cls := "LateFallsModel", name := "laysComes", desc := "(I)V" } : Jvm.MethodName)) ∈ wA := wA_ofP 112 rfl rfl
set_option maxRecDepth 100000 in
theorem wp_113 : (Jvm.Cond.selects "LateFallsModel" ({ cls := "LateFallsModel", name := "laysFalling", desc := "()V" } : Jvm.MethodName) ({ cls := "LateFallsModel", name := "laysFalling", desc := "()V" } : Jvm.MethodName)) ∈ wA := wA_ofP 113 rfl rfl
set_option maxRecDepth 100000 in
theorem wp_114 : (Jvm.Cond.selects "LateFallsModel" ({ cls := "LateFallsModel", name := "beside", desc := "(I)I" } : Jvm.MethodName) ({ cls := "LateFallsModel", name := "beside", desc := "(I)I" } : Jvm.MethodName)) ∈ wA := wA_ofP 114 rfl rfl
set_option maxRecDepth 100000 in
theorem wp_115 : (Jvm.Cond.selects "LateFallsModel" ({ cls := "LateFallsModel", name := "allColumns", desc := "()I" } : Jvm.MethodName) ({ cls := "LateFallsModel", name := "allColumns", desc := "()I" } : Jvm.MethodName)) ∈ wA := wA_ofP 115 rfl rfl
set_option maxRecDepth 100000 in
theorem wp_116 : (Jvm.Cond.selects "LateFallsModel" ({ cls := "LateFallsModel", name := "countsOn", desc := "(I)V" } : Jvm.MethodName) ({ cls := "LateFallsModel", name := "countsOn", desc := "(I)V" } : Jvm.MethodName)) ∈ wA := wA_ofP 116 rfl rfl
set_option maxRecDepth 100000 in
theorem wp_117 : (Jvm.Cond.selects "LateFallsModel" ({ cls := "LateFallsModel", name := "isGoneOut", desc := "(III)Z" } : Jvm.MethodName) ({ cls := "LateFallsModel", name := "isGoneOut", desc := "(III)Z" } : Jvm.MethodName)) ∈ wA := wA_ofP 117 rfl rfl
set_option maxRecDepth 100000 in
theorem wp_118 : (Jvm.Cond.selects "LateFallsModel" ({ cls := "LateFallsModel", name := "laysLet", desc := "(IIII)I" } : Jvm.MethodName) ({ cls := "LateFallsModel", name := "laysLet", desc := "(IIII)I" } : Jvm.MethodName)) ∈ wA := wA_ofP 118 rfl rfl
set_option maxRecDepth 100000 in
theorem wp_119 : (Jvm.Cond.selects "LateFallsModel" ({ cls := "LateFallsModel", name := "isJust", desc := "(IIIII)Z" } : Jvm.MethodName) ({ cls := "LateFallsModel", name := "isJust", desc := "(IIIII)Z" } : Jvm.MethodName)) ∈ wA := wA_ofP 119 rfl rfl
set_option maxRecDepth 100000 in
theorem wp_120 : (Jvm.Cond.selects "LateFallsModel" ({ cls := "LateFallsModel", name := "cut", desc := "(IIJ)J" } : Jvm.MethodName) ({ cls := "LateFallsModel", name := "cut", desc := "(IIJ)J" } : Jvm.MethodName)) ∈ wA := wA_ofP 120 rfl rfl
set_option maxRecDepth 100000 in
theorem wp_121 : (Jvm.Cond.selects "LateFallsModel" ({ cls := "LateFallsModel", name := "allThat", desc := "(I)I" } : Jvm.MethodName) ({ cls := "LateFallsModel", name := "allThat", desc := "(I)I" } : Jvm.MethodName)) ∈ wA := wA_ofP 121 rfl rfl
