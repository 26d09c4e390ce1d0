set_option maxRecDepth 100000 in
theorem wd_1000 : (Jvm.Cond.constantLong "LateFalls" (279 : Nat) (800 : Int64)) ∈ wA := wA_of 1000 rfl rfl
set_option maxRecDepth 100000 in
theorem wd_1001 : (Jvm.Cond.constantLong "LateFalls" (281 : Nat) (1000 : Int64)) ∈ wA := wA_of 1001 rfl rfl
set_option maxRecDepth 100000 in
theorem wd_1006 : (Jvm.Cond.methodLink "LateFalls" (285 : Nat) ({ cls := "LateFalls$Scene", name := "nextFall", desc := "(I)Z" } : Jvm.MethodName)) ∈ wA := wA_of 1006 rfl rfl
set_option maxRecDepth 100000 in
theorem wd_1029 : (Jvm.Cond.constant "LateFalls" (274 : Nat) (1103515245 : Int32)) ∈ wA := wA_of 1029 rfl rfl
set_option maxRecDepth 100000 in
theorem wd_1205 : (Jvm.Cond.instanceMethod ({ cls := "LateFalls", name := "safeWays", desc := "(III)J" } : Jvm.MethodName)) ∈ wA := wA_of 1205 rfl rfl
set_option maxRecDepth 100000 in
theorem wd_1206 : (Jvm.Cond.selects "LateFalls" ({ cls := "LateFalls", name := "safeWays", desc := "(III)J" } : Jvm.MethodName) ({ cls := "LateFalls", name := "safeWays", desc := "(III)J" } : Jvm.MethodName)) ∈ wA := wA_of 1206 rfl rfl
set_option maxRecDepth 100000 in
theorem wd_1207 : (Jvm.Cond.code ({ cls := "LateFalls", name := "safeWays", desc := "(III)J" } : Jvm.MethodName) prog_1_method_49_code (4 : Nat) (Option.some Jvm.ClassFile.FieldType.long)) ∈ wA := wA_of 1207 rfl rfl
set_option maxRecDepth 100000 in
theorem wd_1311 : (Jvm.Cond.instanceMethod ({ cls := "LateFalls", name := "image", desc := "(I)V" } : Jvm.MethodName)) ∈ wA := wA_of 1311 rfl rfl
set_option maxRecDepth 100000 in
theorem wd_1312 : (Jvm.Cond.selects "LateFalls" ({ cls := "LateFalls", name := "image", desc := "(I)V" } : Jvm.MethodName) ({ cls := "LateFalls", name := "image", desc := "(I)V" } : Jvm.MethodName)) ∈ wA := wA_of 1312 rfl rfl
set_option maxRecDepth 100000 in
theorem wd_1313 : (Jvm.Cond.code ({ cls := "LateFalls", name := "image", desc := "(I)V" } : Jvm.MethodName) prog_1_method_60_code (2 : Nat) (Option.none : Option Jvm.ClassFile.FieldType)) ∈ wA := wA_of 1313 rfl rfl
set_option maxRecDepth 100000 in
theorem wd_1349 : (Jvm.Cond.instantiable "LateFallsModel" (39 : Nat)) ∈ wA := wA_of 1349 rfl rfl
set_option maxRecDepth 100000 in
theorem wd_1351 : (Jvm.Cond.instanceMethod ({ cls := "LateFallsModel", name := "<init>", desc := "()V" } : Jvm.MethodName)) ∈ wA := wA_of 1351 rfl rfl
set_option maxRecDepth 100000 in
theorem wd_1352 : (Jvm.Cond.code ({ cls := "LateFallsModel", name := "<init>", desc := "()V" } : Jvm.MethodName) prog_13_method_1_code (1 : Nat) (Option.none : Option Jvm.ClassFile.FieldType)) ∈ wA := wA_of 1352 rfl rfl
set_option maxRecDepth 100000 in
theorem wd_1378 : (Jvm.Cond.fieldLink "LateFallsModel" (444 : Nat) "LateFallsModel" "state" "I") ∈ wA := wA_of 1378 rfl rfl
set_option maxRecDepth 100000 in
theorem wd_1474 : (Jvm.Cond.instanceMethod ({ cls := "LateFallsModel", name := "thrown", desc := "()I" } : Jvm.MethodName)) ∈ wA := wA_of 1474 rfl rfl
set_option maxRecDepth 100000 in
theorem wd_1475 : (Jvm.Cond.selects "LateFallsModel" ({ cls := "LateFallsModel", name := "thrown", desc := "()I" } : Jvm.MethodName) ({ cls := "LateFallsModel", name := "thrown", desc := "()I" } : Jvm.MethodName)) ∈ wA := wA_of 1475 rfl rfl
set_option maxRecDepth 100000 in
theorem wd_1476 : (Jvm.Cond.code ({ cls := "LateFallsModel", name := "thrown", desc := "()I" } : Jvm.MethodName) prog_13_method_2_code (1 : Nat) (Option.some Jvm.ClassFile.FieldType.int)) ∈ wA := wA_of 1476 rfl rfl
set_option maxRecDepth 100000 in
theorem wd_1478 : (Jvm.Cond.instanceMethod ({ cls := "LateFallsModel", name := "feed", desc := "(IIIII)I" } : Jvm.MethodName)) ∈ wA := wA_of 1478 rfl rfl
set_option maxRecDepth 100000 in
theorem wd_1479 : (Jvm.Cond.selects "LateFallsModel" ({ cls := "LateFallsModel", name := "feed", desc := "(IIIII)I" } : Jvm.MethodName) ({ cls := "LateFallsModel", name := "feed", desc := "(IIIII)I" } : Jvm.MethodName)) ∈ wA := wA_of 1479 rfl rfl
set_option maxRecDepth 100000 in
theorem wd_1480 : (Jvm.Cond.code ({ cls := "LateFallsModel", name := "feed", desc := "(IIIII)I" } : Jvm.MethodName) prog_13_method_7_code (8 : Nat) (Option.some Jvm.ClassFile.FieldType.int)) ∈ wA := wA_of 1480 rfl rfl
set_option maxRecDepth 100000 in
theorem wd_1482 : (Jvm.Cond.instanceMethod ({ cls := "LateFallsModel", name := "district", desc := "(I)I" } : Jvm.MethodName)) ∈ wA := wA_of 1482 rfl rfl
set_option maxRecDepth 100000 in
theorem wd_1483 : (Jvm.Cond.selects "LateFallsModel" ({ cls := "LateFallsModel", name := "district", desc := "(I)I" } : Jvm.MethodName) ({ cls := "LateFallsModel", name := "district", desc := "(I)I" } : Jvm.MethodName)) ∈ wA := wA_of 1483 rfl rfl
set_option maxRecDepth 100000 in
theorem wd_1484 : (Jvm.Cond.code ({ cls := "LateFallsModel", name := "district", desc := "(I)I" } : Jvm.MethodName) prog_13_method_40_code (3 : Nat) (Option.some Jvm.ClassFile.FieldType.int)) ∈ wA := wA_of 1484 rfl rfl
set_option maxRecDepth 100000 in
theorem wd_1655 : (Jvm.Cond.instanceMethod ({ cls := "LateFallsModel", name := "fault", desc := "(I)I" } : Jvm.MethodName)) ∈ wA := wA_of 1655 rfl rfl
set_option maxRecDepth 100000 in
theorem wd_1656 : (Jvm.Cond.selects "LateFallsModel" ({ cls := "LateFallsModel", name := "fault", desc := "(I)I" } : Jvm.MethodName) ({ cls := "LateFallsModel", name := "fault", desc := "(I)I" } : Jvm.MethodName)) ∈ wA := wA_of 1656 rfl rfl
set_option maxRecDepth 100000 in
theorem wd_1657 : (Jvm.Cond.code ({ cls := "LateFallsModel", name := "fault", desc := "(I)I" } : Jvm.MethodName) prog_13_method_41_code (2 : Nat) (Option.some Jvm.ClassFile.FieldType.int)) ∈ wA := wA_of 1657 rfl rfl
set_option maxRecDepth 100000 in
theorem wd_1659 : (Jvm.Cond.instanceMethod ({ cls := "LateFallsModel", name := "thing", desc := "(II)I" } : Jvm.MethodName)) ∈ wA := wA_of 1659 rfl rfl
set_option maxRecDepth 100000 in
theorem wd_1660 : (Jvm.Cond.selects "LateFallsModel" ({ cls := "LateFallsModel", name := "thing", desc := "(II)I" } : Jvm.MethodName) ({ cls := "LateFallsModel", name := "thing", desc := "(II)I" } : Jvm.MethodName)) ∈ wA := wA_of 1660 rfl rfl
set_option maxRecDepth 100000 in
theorem wd_1661 : (Jvm.Cond.code ({ cls := "LateFallsModel", name := "thing", desc := "(II)I" } : Jvm.MethodName) prog_13_method_66_code (3 : Nat) (Option.some Jvm.ClassFile.FieldType.int)) ∈ wA := wA_of 1661 rfl rfl
set_option maxRecDepth 100000 in
theorem wd_1668 : (Jvm.Cond.instanceMethod ({ cls := "LateFallsModel", name := "walker", desc := "(II)I" } : Jvm.MethodName)) ∈ wA := wA_of 1668 rfl rfl
set_option maxRecDepth 100000 in
theorem wd_1669 : (Jvm.Cond.selects "LateFallsModel" ({ cls := "LateFallsModel", name := "walker", desc := "(II)I" } : Jvm.MethodName) ({ cls := "LateFallsModel", name := "walker", desc := "(II)I" } : Jvm.MethodName)) ∈ wA := wA_of 1669 rfl rfl
set_option maxRecDepth 100000 in
theorem wd_1670 : (Jvm.Cond.code ({ cls := "LateFallsModel", name := "walker", desc := "(II)I" } : Jvm.MethodName) prog_13_method_67_code (3 : Nat) (Option.some Jvm.ClassFile.FieldType.int)) ∈ wA := wA_of 1670 rfl rfl
set_option maxRecDepth 100000 in
theorem wd_1681 : (Jvm.Cond.instanceMethod ({ cls := "LateFallsModel", name := "height", desc := "(I)I" } : Jvm.MethodName)) ∈ wA := wA_of 1681 rfl rfl
set_option maxRecDepth 100000 in
theorem wd_1682 : (Jvm.Cond.selects "LateFallsModel" ({ cls := "LateFallsModel", name := "height", desc := "(I)I" } : Jvm.MethodName) ({ cls := "LateFallsModel", name := "height", desc := "(I)I" } : Jvm.MethodName)) ∈ wA := wA_of 1682 rfl rfl
set_option maxRecDepth 100000 in
theorem wd_1683 : (Jvm.Cond.code ({ cls := "LateFallsModel", name := "height", desc := "(I)I" } : Jvm.MethodName) prog_13_method_68_code (2 : Nat) (Option.some Jvm.ClassFile.FieldType.int)) ∈ wA := wA_of 1683 rfl rfl
set_option maxRecDepth 100000 in
theorem wd_1693 : (Jvm.Cond.instanceMethod ({ cls := "LateFallsModel", name := "at", desc := "(II)I" } : Jvm.MethodName)) ∈ wA := wA_of 1693 rfl rfl
set_option maxRecDepth 100000 in
theorem wd_1694 : (Jvm.Cond.selects "LateFallsModel" ({ cls := "LateFallsModel", name := "at", desc := "(II)I" } : Jvm.MethodName) ({ cls := "LateFallsModel", name := "at", desc := "(II)I" } : Jvm.MethodName)) ∈ wA := wA_of 1694 rfl rfl
set_option maxRecDepth 100000 in
theorem wd_1695 : (Jvm.Cond.code ({ cls := "LateFallsModel", name := "at", desc := "(II)I" } : Jvm.MethodName) prog_13_method_69_code (4 : Nat) (Option.some Jvm.ClassFile.FieldType.int)) ∈ wA := wA_of 1695 rfl rfl
set_option maxRecDepth 100000 in
theorem wd_1701 : (Jvm.Cond.instanceMethod ({ cls := "LateFallsModel", name := "hanging", desc := "(IIII)I" } : Jvm.MethodName)) ∈ wA := wA_of 1701 rfl rfl
set_option maxRecDepth 100000 in
theorem wd_1702 : (Jvm.Cond.selects "LateFallsModel" ({ cls := "LateFallsModel", name := "hanging", desc := "(IIII)I" } : Jvm.MethodName) ({ cls := "LateFallsModel", name := "hanging", desc := "(IIII)I" } : Jvm.MethodName)) ∈ wA := wA_of 1702 rfl rfl
set_option maxRecDepth 100000 in
theorem wd_1703 : (Jvm.Cond.code ({ cls := "LateFallsModel", name := "hanging", desc := "(IIII)I" } : Jvm.MethodName) prog_13_method_70_code (5 : Nat) (Option.some Jvm.ClassFile.FieldType.int)) ∈ wA := wA_of 1703 rfl rfl
set_option maxRecDepth 100000 in
theorem wd_1726 : (Jvm.Cond.instanceMethod ({ cls := "LateFallsModel", name := "letGo", desc := "(III)I" } : Jvm.MethodName)) ∈ wA := wA_of 1726 rfl rfl
set_option maxRecDepth 100000 in
theorem wd_1727 : (Jvm.Cond.selects "LateFallsModel" ({ cls := "LateFallsModel", name := "letGo", desc := "(III)I" } : Jvm.MethodName) ({ cls := "LateFallsModel", name := "letGo", desc := "(III)I" } : Jvm.MethodName)) ∈ wA := wA_of 1727 rfl rfl
set_option maxRecDepth 100000 in
theorem wd_1728 : (Jvm.Cond.code ({ cls := "LateFallsModel", name := "letGo", desc := "(III)I" } : Jvm.MethodName) prog_13_method_77_code (5 : Nat) (Option.some Jvm.ClassFile.FieldType.int)) ∈ wA := wA_of 1728 rfl rfl
set_option maxRecDepth 100000 in
theorem wd_1768 : (Jvm.Cond.instanceMethod ({ cls := "LateFallsModel", name := "take", desc := "(I)I" } : Jvm.MethodName)) ∈ wA := wA_of 1768 rfl rfl
set_option maxRecDepth 100000 in
theorem wd_1769 : (Jvm.Cond.selects "LateFallsModel" ({ cls := "LateFallsModel", name := "take", desc := "(I)I" } : Jvm.MethodName) ({ cls := "LateFallsModel", name := "take", desc := "(I)I" } : Jvm.MethodName)) ∈ wA := wA_of 1769 rfl rfl
set_option maxRecDepth 100000 in
theorem wd_1770 : (Jvm.Cond.code ({ cls := "LateFallsModel", name := "take", desc := "(I)I" } : Jvm.MethodName) prog_13_method_78_code (3 : Nat) (Option.some Jvm.ClassFile.FieldType.int)) ∈ wA := wA_of 1770 rfl rfl
set_option maxRecDepth 100000 in
theorem wd_1780 : (Jvm.Cond.instanceMethod ({ cls := "LateFallsModel", name := "quake", desc := "()I" } : Jvm.MethodName)) ∈ wA := wA_of 1780 rfl rfl
set_option maxRecDepth 100000 in
theorem wd_1781 : (Jvm.Cond.selects "LateFallsModel" ({ cls := "LateFallsModel", name := "quake", desc := "()I" } : Jvm.MethodName) ({ cls := "LateFallsModel", name := "quake", desc := "()I" } : Jvm.MethodName)) ∈ wA := wA_of 1781 rfl rfl
set_option maxRecDepth 100000 in
theorem wd_1782 : (Jvm.Cond.code ({ cls := "LateFallsModel", name := "quake", desc := "()I" } : Jvm.MethodName) prog_13_method_80_code (1 : Nat) (Option.some Jvm.ClassFile.FieldType.int)) ∈ wA := wA_of 1782 rfl rfl
set_option maxRecDepth 100000 in
theorem wd_1792 : (Jvm.Cond.instanceMethod ({ cls := "LateFallsModel", name := "hours", desc := "(I)I" } : Jvm.MethodName)) ∈ wA := wA_of 1792 rfl rfl
set_option maxRecDepth 100000 in
theorem wd_1793 : (Jvm.Cond.selects "LateFallsModel" ({ cls := "LateFallsModel", name := "hours", desc := "(I)I" } : Jvm.MethodName) ({ cls := "LateFallsModel", name := "hours", desc := "(I)I" } : Jvm.MethodName)) ∈ wA := wA_of 1793 rfl rfl
set_option maxRecDepth 100000 in
theorem wd_1794 : (Jvm.Cond.code ({ cls := "LateFallsModel", name := "hours", desc := "(I)I" } : Jvm.MethodName) prog_13_method_81_code (4 : Nat) (Option.some Jvm.ClassFile.FieldType.int)) ∈ wA := wA_of 1794 rfl rfl
set_option maxRecDepth 100000 in
theorem wd_1805 : (Jvm.Cond.instanceMethod ({ cls := "LateFallsModel", name := "undo", desc := "(I)I" } : Jvm.MethodName)) ∈ wA := wA_of 1805 rfl rfl
set_option maxRecDepth 100000 in
theorem wd_1806 : (Jvm.Cond.selects "LateFallsModel" ({ cls := "LateFallsModel", name := "undo", desc := "(I)I" } : Jvm.MethodName) ({ cls := "LateFallsModel", name := "undo", desc := "(I)I" } : Jvm.MethodName)) ∈ wA := wA_of 1806 rfl rfl
set_option maxRecDepth 100000 in
theorem wd_1807 : (Jvm.Cond.code ({ cls := "LateFallsModel", name := "undo", desc := "(I)I" } : Jvm.MethodName) prog_13_method_82_code (3 : Nat) (Option.some Jvm.ClassFile.FieldType.int)) ∈ wA := wA_of 1807 rfl rfl
set_option maxRecDepth 100000 in
theorem wd_1810 : (Jvm.Cond.instanceMethod ({ cls := "LateFallsModel", name := "judge", desc := "(II)I" } : Jvm.MethodName)) ∈ wA := wA_of 1810 rfl rfl
set_option maxRecDepth 100000 in
theorem wd_1811 : (Jvm.Cond.selects "LateFallsModel" ({ cls := "LateFallsModel", name := "judge", desc := "(II)I" } : Jvm.MethodName) ({ cls := "LateFallsModel", name := "judge", desc := "(II)I" } : Jvm.MethodName)) ∈ wA := wA_of 1811 rfl rfl
set_option maxRecDepth 100000 in
theorem wd_1812 : (Jvm.Cond.code ({ cls := "LateFallsModel", name := "judge", desc := "(II)I" } : Jvm.MethodName) prog_13_method_88_code (7 : Nat) (Option.some Jvm.ClassFile.FieldType.int)) ∈ wA := wA_of 1812 rfl rfl
set_option maxRecDepth 100000 in
theorem wd_1829 : (Jvm.Cond.constantLong "LateFallsModel" (408 : Nat) (-1 : Int64)) ∈ wA := wA_of 1829 rfl rfl
set_option maxRecDepth 100000 in
theorem wd_1852 : (Jvm.Cond.instanceMethod ({ cls := "LateFallsModel", name := "perform", desc := "(I)I" } : Jvm.MethodName)) ∈ wA := wA_of 1852 rfl rfl
set_option maxRecDepth 100000 in
theorem wd_1853 : (Jvm.Cond.selects "LateFallsModel" ({ cls := "LateFallsModel", name := "perform", desc := "(I)I" } : Jvm.MethodName) ({ cls := "LateFallsModel", name := "perform", desc := "(I)I" } : Jvm.MethodName)) ∈ wA := wA_of 1853 rfl rfl
set_option maxRecDepth 100000 in
theorem wd_1854 : (Jvm.Cond.code ({ cls := "LateFallsModel", name := "perform", desc := "(I)I" } : Jvm.MethodName) prog_13_method_89_code (3 : Nat) (Option.some Jvm.ClassFile.FieldType.int)) ∈ wA := wA_of 1854 rfl rfl
set_option maxRecDepth 100000 in
theorem wd_1864 : (Jvm.Cond.constant "LateFallsModel" (443 : Nat) (1103515245 : Int32)) ∈ wA := wA_of 1864 rfl rfl
set_option maxRecDepth 100000 in
theorem wd_1866 : (Jvm.Cond.instanceMethod ({ cls := "LateFallsModel", name := "falls", desc := "(I)I" } : Jvm.MethodName)) ∈ wA := wA_of 1866 rfl rfl
set_option maxRecDepth 100000 in
theorem wd_1867 : (Jvm.Cond.selects "LateFallsModel" ({ cls := "LateFallsModel", name := "falls", desc := "(I)I" } : Jvm.MethodName) ({ cls := "LateFallsModel", name := "falls", desc := "(I)I" } : Jvm.MethodName)) ∈ wA := wA_of 1867 rfl rfl
set_option maxRecDepth 100000 in
theorem wd_1868 : (Jvm.Cond.code ({ cls := "LateFallsModel", name := "falls", desc := "(I)I" } : Jvm.MethodName) prog_13_method_92_code (2 : Nat) (Option.some Jvm.ClassFile.FieldType.int)) ∈ wA := wA_of 1868 rfl rfl
set_option maxRecDepth 100000 in
theorem wd_1879 : (Jvm.Cond.instanceMethod ({ cls := "LateFallsModel", name := "lands", desc := "(I)I" } : Jvm.MethodName)) ∈ wA := wA_of 1879 rfl rfl
set_option maxRecDepth 100000 in
theorem wd_1880 : (Jvm.Cond.selects "LateFallsModel" ({ cls := "LateFallsModel", name := "lands", desc := "(I)I" } : Jvm.MethodName) ({ cls := "LateFallsModel", name := "lands", desc := "(I)I" } : Jvm.MethodName)) ∈ wA := wA_of 1880 rfl rfl
set_option maxRecDepth 100000 in
theorem wd_1881 : (Jvm.Cond.code ({ cls := "LateFallsModel", name := "lands", desc := "(I)I" } : Jvm.MethodName) prog_13_method_94_code (2 : Nat) (Option.some Jvm.ClassFile.FieldType.int)) ∈ wA := wA_of 1881 rfl rfl
set_option maxRecDepth 100000 in
theorem wd_1883 : (Jvm.Cond.instanceMethod ({ cls := "LateFallsModel", name := "fallIn", desc := "(I)I" } : Jvm.MethodName)) ∈ wA := wA_of 1883 rfl rfl
set_option maxRecDepth 100000 in
theorem wd_1884 : (Jvm.Cond.selects "LateFallsModel" ({ cls := "LateFallsModel", name := "fallIn", desc := "(I)I" } : Jvm.MethodName) ({ cls := "LateFallsModel", name := "fallIn", desc := "(I)I" } : Jvm.MethodName)) ∈ wA := wA_of 1884 rfl rfl
set_option maxRecDepth 100000 in
theorem wd_1885 : (Jvm.Cond.code ({ cls := "LateFallsModel", name := "fallIn", desc := "(I)I" } : Jvm.MethodName) prog_13_method_96_code (4 : Nat) (Option.some Jvm.ClassFile.FieldType.int)) ∈ wA := wA_of 1885 rfl rfl
set_option maxRecDepth 100000 in
theorem wd_1891 : (Jvm.Cond.instanceMethod ({ cls := "LateFallsModel", name := "next", desc := "()I" } : Jvm.MethodName)) ∈ wA := wA_of 1891 rfl rfl
set_option maxRecDepth 100000 in
theorem wd_1892 : (Jvm.Cond.selects "LateFallsModel" ({ cls := "LateFallsModel", name := "next", desc := "()I" } : Jvm.MethodName) ({ cls := "LateFallsModel", name := "next", desc := "()I" } : Jvm.MethodName)) ∈ wA := wA_of 1892 rfl rfl
set_option maxRecDepth 100000 in
theorem wd_1893 : (Jvm.Cond.code ({ cls := "LateFallsModel", name := "next", desc := "()I" } : Jvm.MethodName) prog_13_method_97_code (2 : Nat) (Option.some Jvm.ClassFile.FieldType.int)) ∈ wA := wA_of 1893 rfl rfl
set_option maxRecDepth 100000 in
theorem wd_1895 : (Jvm.Cond.instanceMethod ({ cls := "LateFallsModel", name := "busiest", desc := "()I" } : Jvm.MethodName)) ∈ wA := wA_of 1895 rfl rfl
set_option maxRecDepth 100000 in
theorem wd_1896 : (Jvm.Cond.selects "LateFallsModel" ({ cls := "LateFallsModel", name := "busiest", desc := "()I" } : Jvm.MethodName) ({ cls := "LateFallsModel", name := "busiest", desc := "()I" } : Jvm.MethodName)) ∈ wA := wA_of 1896 rfl rfl
set_option maxRecDepth 100000 in
theorem wd_1897 : (Jvm.Cond.code ({ cls := "LateFallsModel", name := "busiest", desc := "()I" } : Jvm.MethodName) prog_13_method_98_code (3 : Nat) (Option.some Jvm.ClassFile.FieldType.int)) ∈ wA := wA_of 1897 rfl rfl
set_option maxRecDepth 100000 in
theorem wd_1900 : (Jvm.Cond.instanceMethod ({ cls := "LateFallsModel", name := "frees", desc := "(I)I" } : Jvm.MethodName)) ∈ wA := wA_of 1900 rfl rfl
set_option maxRecDepth 100000 in
theorem wd_1901 : (Jvm.Cond.selects "LateFallsModel" ({ cls := "LateFallsModel", name := "frees", desc := "(I)I" } : Jvm.MethodName) ({ cls := "LateFallsModel", name := "frees", desc := "(I)I" } : Jvm.MethodName)) ∈ wA := wA_of 1901 rfl rfl
set_option maxRecDepth 100000 in
theorem wd_1902 : (Jvm.Cond.code ({ cls := "LateFallsModel", name := "frees", desc := "(I)I" } : Jvm.MethodName) prog_13_method_99_code (2 : Nat) (Option.some Jvm.ClassFile.FieldType.int)) ∈ wA := wA_of 1902 rfl rfl
set_option maxRecDepth 100000 in
theorem wd_1904 : (Jvm.Cond.instanceMethod ({ cls := "LateFallsModel", name := "heightIn", desc := "(II)I" } : Jvm.MethodName)) ∈ wA := wA_of 1904 rfl rfl
set_option maxRecDepth 100000 in
theorem wd_1905 : (Jvm.Cond.selects "LateFallsModel" ({ cls := "LateFallsModel", name := "heightIn", desc := "(II)I" } : Jvm.MethodName) ({ cls := "LateFallsModel", name := "heightIn", desc := "(II)I" } : Jvm.MethodName)) ∈ wA := wA_of 1905 rfl rfl
set_option maxRecDepth 100000 in
theorem wd_1906 : (Jvm.Cond.code ({ cls := "LateFallsModel", name := "heightIn", desc := "(II)I" } : Jvm.MethodName) prog_13_method_100_code (6 : Nat) (Option.some Jvm.ClassFile.FieldType.int)) ∈ wA := wA_of 1906 rfl rfl
set_option maxRecDepth 100000 in
theorem wd_1908 : (Jvm.Cond.instanceMethod ({ cls := "LateFallsModel", name := "hurtIn", desc := "(I)I" } : Jvm.MethodName)) ∈ wA := wA_of 1908 rfl rfl
set_option maxRecDepth 100000 in
theorem wd_1909 : (Jvm.Cond.selects "LateFallsModel" ({ cls := "LateFallsModel", name := "hurtIn", desc := "(I)I" } : Jvm.MethodName) ({ cls := "LateFallsModel", name := "hurtIn", desc := "(I)I" } : Jvm.MethodName)) ∈ wA := wA_of 1909 rfl rfl
set_option maxRecDepth 100000 in
theorem wd_1910 : (Jvm.Cond.code ({ cls := "LateFallsModel", name := "hurtIn", desc := "(I)I" } : Jvm.MethodName) prog_13_method_101_code (5 : Nat) (Option.some Jvm.ClassFile.FieldType.int)) ∈ wA := wA_of 1910 rfl rfl
set_option maxRecDepth 100000 in
theorem wd_1912 : (Jvm.Cond.instanceMethod ({ cls := "LateFallsModel", name := "hurts", desc := "(I)I" } : Jvm.MethodName)) ∈ wA := wA_of 1912 rfl rfl
set_option maxRecDepth 100000 in
theorem wd_1913 : (Jvm.Cond.selects "LateFallsModel" ({ cls := "LateFallsModel", name := "hurts", desc := "(I)I" } : Jvm.MethodName) ({ cls := "LateFallsModel", name := "hurts", desc := "(I)I" } : Jvm.MethodName)) ∈ wA := wA_of 1913 rfl rfl
set_option maxRecDepth 100000 in
theorem wd_1914 : (Jvm.Cond.code ({ cls := "LateFallsModel", name := "hurts", desc := "(I)I" } : Jvm.MethodName) prog_13_method_103_code (3 : Nat) (Option.some Jvm.ClassFile.FieldType.int)) ∈ wA := wA_of 1914 rfl rfl
set_option maxRecDepth 100000 in
theorem wd_1920 : (Jvm.Cond.instanceMethod ({ cls := "LateFallsModel", name := "spares", desc := "(II)I" } : Jvm.MethodName)) ∈ wA := wA_of 1920 rfl rfl
set_option maxRecDepth 100000 in
theorem wd_1921 : (Jvm.Cond.selects "LateFallsModel" ({ cls := "LateFallsModel", name := "spares", desc := "(II)I" } : Jvm.MethodName) ({ cls := "LateFallsModel", name := "spares", desc := "(II)I" } : Jvm.MethodName)) ∈ wA := wA_of 1921 rfl rfl
set_option maxRecDepth 100000 in
theorem wd_1922 : (Jvm.Cond.code ({ cls := "LateFallsModel", name := "spares", desc := "(II)I" } : Jvm.MethodName) prog_13_method_104_code (5 : Nat) (Option.some Jvm.ClassFile.FieldType.int)) ∈ wA := wA_of 1922 rfl rfl
set_option maxRecDepth 100000 in
theorem wd_1924 : (Jvm.Cond.instanceMethod ({ cls := "LateFallsModel", name := "fallsBy", desc := "(IIII)I" } : Jvm.MethodName)) ∈ wA := wA_of 1924 rfl rfl
set_option maxRecDepth 100000 in
theorem wd_1925 : (Jvm.Cond.selects "LateFallsModel" ({ cls := "LateFallsModel", name := "fallsBy", desc := "(IIII)I" } : Jvm.MethodName) ({ cls := "LateFallsModel", name := "fallsBy", desc := "(IIII)I" } : Jvm.MethodName)) ∈ wA := wA_of 1925 rfl rfl
set_option maxRecDepth 100000 in
theorem wd_1926 : (Jvm.Cond.code ({ cls := "LateFallsModel", name := "fallsBy", desc := "(IIII)I" } : Jvm.MethodName) prog_13_method_108_code (5 : Nat) (Option.some Jvm.ClassFile.FieldType.int)) ∈ wA := wA_of 1926 rfl rfl
set_option maxRecDepth 100000 in
theorem wd_1937 : (Jvm.Cond.instanceMethod ({ cls := "LateFallsModel", name := "waitFor", desc := "(IIII)I" } : Jvm.MethodName)) ∈ wA := wA_of 1937 rfl rfl
set_option maxRecDepth 100000 in
theorem wd_1938 : (Jvm.Cond.selects "LateFallsModel" ({ cls := "LateFallsModel", name := "waitFor", desc := "(IIII)I" } : Jvm.MethodName) ({ cls := "LateFallsModel", name := "waitFor", desc := "(IIII)I" } : Jvm.MethodName)) ∈ wA := wA_of 1938 rfl rfl
set_option maxRecDepth 100000 in
theorem wd_1939 : (Jvm.Cond.code ({ cls := "LateFallsModel", name := "waitFor", desc := "(IIII)I" } : Jvm.MethodName) prog_13_method_110_code (5 : Nat) (Option.some Jvm.ClassFile.FieldType.int)) ∈ wA := wA_of 1939 rfl rfl
set_option maxRecDepth 100000 in
theorem wd_1945 : (Jvm.Cond.instanceMethod ({ cls := "LateFallsModel", name := "waitSafe", desc := "(III)I" } : Jvm.MethodName)) ∈ wA := wA_of 1945 rfl rfl
set_option maxRecDepth 100000 in
theorem wd_1946 : (Jvm.Cond.selects "LateFallsModel" ({ cls := "LateFallsModel", name := "waitSafe", desc := "(III)I" } : Jvm.MethodName) ({ cls := "LateFallsModel", name := "waitSafe", desc := "(III)I" } : Jvm.MethodName)) ∈ wA := wA_of 1946 rfl rfl
set_option maxRecDepth 100000 in
theorem wd_1947 : (Jvm.Cond.code ({ cls := "LateFallsModel", name := "waitSafe", desc := "(III)I" } : Jvm.MethodName) prog_13_method_111_code (5 : Nat) (Option.some Jvm.ClassFile.FieldType.int)) ∈ wA := wA_of 1947 rfl rfl
set_option maxRecDepth 100000 in
theorem wd_1953 : (Jvm.Cond.instanceMethod ({ cls := "LateFallsModel", name := "waitHurt", desc := "(IIII)I" } : Jvm.MethodName)) ∈ wA := wA_of 1953 rfl rfl
set_option maxRecDepth 100000 in
theorem wd_1954 : (Jvm.Cond.selects "LateFallsModel" ({ cls := "LateFallsModel", name := "waitHurt", desc := "(IIII)I" } : Jvm.MethodName) ({ cls := "LateFallsModel", name := "waitHurt", desc := "(IIII)I" } : Jvm.MethodName)) ∈ wA := wA_of 1954 rfl rfl
set_option maxRecDepth 100000 in
theorem wd_1955 : (Jvm.Cond.code ({ cls := "LateFallsModel", name := "waitHurt", desc := "(IIII)I" } : Jvm.MethodName) prog_13_method_112_code (6 : Nat) (Option.some Jvm.ClassFile.FieldType.int)) ∈ wA := wA_of 1955 rfl rfl
set_option maxRecDepth 100000 in
theorem wd_1957 : (Jvm.Cond.instanceMethod ({ cls := "LateFallsModel", name := "place", desc := "(IZ)I" } : Jvm.MethodName)) ∈ wA := wA_of 1957 rfl rfl
set_option maxRecDepth 100000 in
theorem wd_1958 : (Jvm.Cond.selects "LateFallsModel" ({ cls := "LateFallsModel", name := "place", desc := "(IZ)I" } : Jvm.MethodName) ({ cls := "LateFallsModel", name := "place", desc := "(IZ)I" } : Jvm.MethodName)) ∈ wA := wA_of 1958 rfl rfl
set_option maxRecDepth 100000 in
theorem wd_1959 : (Jvm.Cond.code ({ cls := "LateFallsModel", name := "place", desc := "(IZ)I" } : Jvm.MethodName) prog_13_method_113_code (7 : Nat) (Option.some Jvm.ClassFile.FieldType.int)) ∈ wA := wA_of 1959 rfl rfl
set_option maxRecDepth 100000 in
theorem wd_1961 : (Jvm.Cond.instanceMethod ({ cls := "LateFallsModel", name := "worst", desc := "(II)I" } : Jvm.MethodName)) ∈ wA := wA_of 1961 rfl rfl
set_option maxRecDepth 100000 in
theorem wd_1962 : (Jvm.Cond.selects "LateFallsModel" ({ cls := "LateFallsModel", name := "worst", desc := "(II)I" } : Jvm.MethodName) ({ cls := "LateFallsModel", name := "worst", desc := "(II)I" } : Jvm.MethodName)) ∈ wA := wA_of 1962 rfl rfl
set_option maxRecDepth 100000 in
theorem wd_1963 : (Jvm.Cond.code ({ cls := "LateFallsModel", name := "worst", desc := "(II)I" } : Jvm.MethodName) prog_13_method_114_code (8 : Nat) (Option.some Jvm.ClassFile.FieldType.int)) ∈ wA := wA_of 1963 rfl rfl
set_option maxRecDepth 100000 in
theorem wd_1965 : (Jvm.Cond.instanceMethod ({ cls := "LateFallsModel", name := "both", desc := "(IIIIII)I" } : Jvm.MethodName)) ∈ wA := wA_of 1965 rfl rfl
set_option maxRecDepth 100000 in
theorem wd_1966 : (Jvm.Cond.selects "LateFallsModel" ({ cls := "LateFallsModel", name := "both", desc := "(IIIIII)I" } : Jvm.MethodName) ({ cls := "LateFallsModel", name := "both", desc := "(IIIIII)I" } : Jvm.MethodName)) ∈ wA := wA_of 1966 rfl rfl
set_option maxRecDepth 100000 in
theorem wd_1967 : (Jvm.Cond.code ({ cls := "LateFallsModel", name := "both", desc := "(IIIIII)I" } : Jvm.MethodName) prog_13_method_115_code (12 : Nat) (Option.some Jvm.ClassFile.FieldType.int)) ∈ wA := wA_of 1967 rfl rfl
set_option maxRecDepth 100000 in
theorem wd_1969 : (Jvm.Cond.instanceMethod ({ cls := "LateFallsModel", name := "safeWay", desc := "(III)I" } : Jvm.MethodName)) ∈ wA := wA_of 1969 rfl rfl
set_option maxRecDepth 100000 in
theorem wd_1970 : (Jvm.Cond.selects "LateFallsModel" ({ cls := "LateFallsModel", name := "safeWay", desc := "(III)I" } : Jvm.MethodName) ({ cls := "LateFallsModel", name := "safeWay", desc := "(III)I" } : Jvm.MethodName)) ∈ wA := wA_of 1970 rfl rfl
set_option maxRecDepth 100000 in
theorem wd_1971 : (Jvm.Cond.code ({ cls := "LateFallsModel", name := "safeWay", desc := "(III)I" } : Jvm.MethodName) prog_13_method_121_code (5 : Nat) (Option.some Jvm.ClassFile.FieldType.int)) ∈ wA := wA_of 1971 rfl rfl
set_option maxRecDepth 100000 in
theorem wd_1994 : (Jvm.Cond.instanceMethod ({ cls := "LateFallsModel", name := "safeWays", desc := "(III)J" } : Jvm.MethodName)) ∈ wA := wA_of 1994 rfl rfl
set_option maxRecDepth 100000 in
theorem wd_1995 : (Jvm.Cond.selects "LateFallsModel" ({ cls := "LateFallsModel", name := "safeWays", desc := "(III)J" } : Jvm.MethodName) ({ cls := "LateFallsModel", name := "safeWays", desc := "(III)J" } : Jvm.MethodName)) ∈ wA := wA_of 1995 rfl rfl
set_option maxRecDepth 100000 in
theorem wd_1996 : (Jvm.Cond.code ({ cls := "LateFallsModel", name := "safeWays", desc := "(III)J" } : Jvm.MethodName) prog_13_method_122_code (5 : Nat) (Option.some Jvm.ClassFile.FieldType.long)) ∈ wA := wA_of 1996 rfl rfl
set_option maxRecDepth 100000 in
theorem wd_2003 : (Jvm.Cond.instanceMethod ({ cls := "LateFallsModel", name := "safeIn", desc := "(II)I" } : Jvm.MethodName)) ∈ wA := wA_of 2003 rfl rfl
set_option maxRecDepth 100000 in
theorem wd_2004 : (Jvm.Cond.selects "LateFallsModel" ({ cls := "LateFallsModel", name := "safeIn", desc := "(II)I" } : Jvm.MethodName) ({ cls := "LateFallsModel", name := "safeIn", desc := "(II)I" } : Jvm.MethodName)) ∈ wA := wA_of 2004 rfl rfl
set_option maxRecDepth 100000 in
theorem wd_2005 : (Jvm.Cond.code ({ cls := "LateFallsModel", name := "safeIn", desc := "(II)I" } : Jvm.MethodName) prog_13_method_124_code (3 : Nat) (Option.some Jvm.ClassFile.FieldType.int)) ∈ wA := wA_of 2005 rfl rfl
set_option maxRecDepth 100000 in
theorem wd_2007 : (Jvm.Cond.instanceMethod ({ cls := "LateFallsModel", name := "shelter", desc := "()I" } : Jvm.MethodName)) ∈ wA := wA_of 2007 rfl rfl
set_option maxRecDepth 100000 in
theorem wd_2008 : (Jvm.Cond.selects "LateFallsModel" ({ cls := "LateFallsModel", name := "shelter", desc := "()I" } : Jvm.MethodName) ({ cls := "LateFallsModel", name := "shelter", desc := "()I" } : Jvm.MethodName)) ∈ wA := wA_of 2008 rfl rfl
set_option maxRecDepth 100000 in
theorem wd_2009 : (Jvm.Cond.code ({ cls := "LateFallsModel", name := "shelter", desc := "()I" } : Jvm.MethodName) prog_13_method_125_code (5 : Nat) (Option.some Jvm.ClassFile.FieldType.int)) ∈ wA := wA_of 2009 rfl rfl
set_option maxRecDepth 100000 in
theorem wd_2011 : (Jvm.Cond.instanceMethod ({ cls := "LateFallsModel", name := "later", desc := "(II)I" } : Jvm.MethodName)) ∈ wA := wA_of 2011 rfl rfl
set_option maxRecDepth 100000 in
theorem wd_2012 : (Jvm.Cond.selects "LateFallsModel" ({ cls := "LateFallsModel", name := "later", desc := "(II)I" } : Jvm.MethodName) ({ cls := "LateFallsModel", name := "later", desc := "(II)I" } : Jvm.MethodName)) ∈ wA := wA_of 2012 rfl rfl
set_option maxRecDepth 100000 in
theorem wd_2013 : (Jvm.Cond.code ({ cls := "LateFallsModel", name := "later", desc := "(II)I" } : Jvm.MethodName) prog_13_method_126_code (5 : Nat) (Option.some Jvm.ClassFile.FieldType.int)) ∈ wA := wA_of 2013 rfl rfl
set_option maxRecDepth 100000 in
theorem wd_2016 : (Jvm.Cond.instanceMethod ({ cls := "LateFallsModel", name := "letGoBy", desc := "(III)I" } : Jvm.MethodName)) ∈ wA := wA_of 2016 rfl rfl
set_option maxRecDepth 100000 in
theorem wd_2017 : (Jvm.Cond.selects "LateFallsModel" ({ cls := "LateFallsModel", name := "letGoBy", desc := "(III)I" } : Jvm.MethodName) ({ cls := "LateFallsModel", name := "letGoBy", desc := "(III)I" } : Jvm.MethodName)) ∈ wA := wA_of 2017 rfl rfl
set_option maxRecDepth 100000 in
theorem wd_2018 : (Jvm.Cond.code ({ cls := "LateFallsModel", name := "letGoBy", desc := "(III)I" } : Jvm.MethodName) prog_13_method_130_code (4 : Nat) (Option.some Jvm.ClassFile.FieldType.int)) ∈ wA := wA_of 2018 rfl rfl
set_option maxRecDepth 100000 in
theorem wd_2032 : (Jvm.Cond.instanceMethod ({ cls := "LateFallsModel", name := "letGoAt", desc := "(IIII)I" } : Jvm.MethodName)) ∈ wA := wA_of 2032 rfl rfl
set_option maxRecDepth 100000 in
theorem wd_2033 : (Jvm.Cond.selects "LateFallsModel" ({ cls := "LateFallsModel", name := "letGoAt", desc := "(IIII)I" } : Jvm.MethodName) ({ cls := "LateFallsModel", name := "letGoAt", desc := "(IIII)I" } : Jvm.MethodName)) ∈ wA := wA_of 2033 rfl rfl
set_option maxRecDepth 100000 in
theorem wd_2034 : (Jvm.Cond.code ({ cls := "LateFallsModel", name := "letGoAt", desc := "(IIII)I" } : Jvm.MethodName) prog_13_method_131_code (5 : Nat) (Option.some Jvm.ClassFile.FieldType.int)) ∈ wA := wA_of 2034 rfl rfl
set_option maxRecDepth 100000 in
theorem wd_2036 : (Jvm.Cond.instanceMethod ({ cls := "LateFallsModel", name := "levels", desc := "(IIII)I" } : Jvm.MethodName)) ∈ wA := wA_of 2036 rfl rfl
set_option maxRecDepth 100000 in
theorem wd_2037 : (Jvm.Cond.selects "LateFallsModel" ({ cls := "LateFallsModel", name := "levels", desc := "(IIII)I" } : Jvm.MethodName) ({ cls := "LateFallsModel", name := "levels", desc := "(IIII)I" } : Jvm.MethodName)) ∈ wA := wA_of 2037 rfl rfl
set_option maxRecDepth 100000 in
theorem wd_2038 : (Jvm.Cond.code ({ cls := "LateFallsModel", name := "levels", desc := "(IIII)I" } : Jvm.MethodName) prog_13_method_132_code (7 : Nat) (Option.some Jvm.ClassFile.FieldType.int)) ∈ wA := wA_of 2038 rfl rfl
set_option maxRecDepth 100000 in
theorem wd_2040 : (Jvm.Cond.instanceMethod ({ cls := "LateFallsModel", name := "tray", desc := "(III)V" } : Jvm.MethodName)) ∈ wA := wA_of 2040 rfl rfl
set_option maxRecDepth 100000 in
theorem wd_2041 : (Jvm.Cond.selects "LateFallsModel" ({ cls := "LateFallsModel", name := "tray", desc := "(III)V" } : Jvm.MethodName) ({ cls := "LateFallsModel", name := "tray", desc := "(III)V" } : Jvm.MethodName)) ∈ wA := wA_of 2041 rfl rfl
set_option maxRecDepth 100000 in
theorem wd_2042 : (Jvm.Cond.code ({ cls := "LateFallsModel", name := "tray", desc := "(III)V" } : Jvm.MethodName) prog_13_method_134_code (5 : Nat) (Option.none : Option Jvm.ClassFile.FieldType)) ∈ wA := wA_of 2042 rfl rfl
set_option maxRecDepth 100000 in
theorem wd_2044 : (Jvm.Cond.instanceMethod ({ cls := "LateFallsModel", name := "write", desc := "(IIJ)J" } : Jvm.MethodName)) ∈ wA := wA_of 2044 rfl rfl
set_option maxRecDepth 100000 in
theorem wd_2045 : (Jvm.Cond.selects "LateFallsModel" ({ cls := "LateFallsModel", name := "write", desc := "(IIJ)J" } : Jvm.MethodName) ({ cls := "LateFallsModel", name := "write", desc := "(IIJ)J" } : Jvm.MethodName)) ∈ wA := wA_of 2045 rfl rfl
set_option maxRecDepth 100000 in
theorem wd_2046 : (Jvm.Cond.code ({ cls := "LateFallsModel", name := "write", desc := "(IIJ)J" } : Jvm.MethodName) prog_13_method_136_code (5 : Nat) (Option.some Jvm.ClassFile.FieldType.long)) ∈ wA := wA_of 2046 rfl rfl
set_option maxRecDepth 100000 in
theorem wd_2052 : (Jvm.Cond.instanceMethod ({ cls := "LateFallsModel", name := "copy", desc := "(I)I" } : Jvm.MethodName)) ∈ wA := wA_of 2052 rfl rfl
set_option maxRecDepth 100000 in
theorem wd_2053 : (Jvm.Cond.selects "LateFallsModel" ({ cls := "LateFallsModel", name := "copy", desc := "(I)I" } : Jvm.MethodName) ({ cls := "LateFallsModel", name := "copy", desc := "(I)I" } : Jvm.MethodName)) ∈ wA := wA_of 2053 rfl rfl
set_option maxRecDepth 100000 in
theorem wd_2054 : (Jvm.Cond.code ({ cls := "LateFallsModel", name := "copy", desc := "(I)I" } : Jvm.MethodName) prog_13_method_137_code (4 : Nat) (Option.some Jvm.ClassFile.FieldType.int)) ∈ wA := wA_of 2054 rfl rfl
set_option maxRecDepth 100000 in
theorem wd_2056 : (Jvm.Cond.instanceMethod ({ cls := "LateFallsModel", name := "image", desc := "(I)V" } : Jvm.MethodName)) ∈ wA := wA_of 2056 rfl rfl
set_option maxRecDepth 100000 in
theorem wd_2057 : (Jvm.Cond.selects "LateFallsModel" ({ cls := "LateFallsModel", name := "image", desc := "(I)V" } : Jvm.MethodName) ({ cls := "LateFallsModel", name := "image", desc := "(I)V" } : Jvm.MethodName)) ∈ wA := wA_of 2057 rfl rfl
set_option maxRecDepth 100000 in
theorem wd_2058 : (Jvm.Cond.code ({ cls := "LateFallsModel", name := "image", desc := "(I)V" } : Jvm.MethodName) prog_13_method_138_code (3 : Nat) (Option.none : Option Jvm.ClassFile.FieldType)) ∈ wA := wA_of 2058 rfl rfl
set_option maxRecDepth 100000 in
theorem wd_2060 : (Jvm.Cond.instanceMethod ({ cls := "LateFallsModel", name := "restore", desc := "(I)V" } : Jvm.MethodName)) ∈ wA := wA_of 2060 rfl rfl
set_option maxRecDepth 100000 in
theorem wd_2061 : (Jvm.Cond.selects "LateFallsModel" ({ cls := "LateFallsModel", name := "restore", desc := "(I)V" } : Jvm.MethodName) ({ cls := "LateFallsModel", name := "restore", desc := "(I)V" } : Jvm.MethodName)) ∈ wA := wA_of 2061 rfl rfl
set_option maxRecDepth 100000 in
theorem wd_2062 : (Jvm.Cond.code ({ cls := "LateFallsModel", name := "restore", desc := "(I)V" } : Jvm.MethodName) prog_13_method_139_code (3 : Nat) (Option.none : Option Jvm.ClassFile.FieldType)) ∈ wA := wA_of 2062 rfl rfl
set_option maxRecDepth 100000 in
theorem wd_2064 : (Jvm.Cond.instanceMethod ({ cls := "LateFallsModel", name := "count", desc := "(I)I" } : Jvm.MethodName)) ∈ wA := wA_of 2064 rfl rfl
set_option maxRecDepth 100000 in
theorem wd_2065 : (Jvm.Cond.selects "LateFallsModel" ({ cls := "LateFallsModel", name := "count", desc := "(I)I" } : Jvm.MethodName) ({ cls := "LateFallsModel", name := "count", desc := "(I)I" } : Jvm.MethodName)) ∈ wA := wA_of 2065 rfl rfl
set_option maxRecDepth 100000 in
theorem wd_2066 : (Jvm.Cond.code ({ cls := "LateFallsModel", name := "count", desc := "(I)I" } : Jvm.MethodName) prog_13_method_141_code (2 : Nat) (Option.some Jvm.ClassFile.FieldType.int)) ∈ wA := wA_of 2066 rfl rfl
set_option maxRecDepth 100000 in
theorem wd_29 : (Jvm.Cond.instantiable "LateFalls" (13 : Nat)) ∈ wA := wA_of 29 rfl rfl
set_option maxRecDepth 100000 in
theorem wd_31 : (Jvm.Cond.instanceMethod ({ cls := "LateFalls", name := "<init>", desc := "()V" } : Jvm.MethodName)) ∈ wA := wA_of 31 rfl rfl
set_option maxRecDepth 100000 in
theorem wd_32 : (Jvm.Cond.code ({ cls := "LateFalls", name := "<init>", desc := "()V" } : Jvm.MethodName) prog_1_method_1_code (3 : Nat) (Option.none : Option Jvm.ClassFile.FieldType)) ∈ wA := wA_of 32 rfl rfl
set_option maxRecDepth 100000 in
theorem wd_320 : (Jvm.Cond.fieldLink "LateFalls" (262 : Nat) "LateFalls" "drawn" "I") ∈ wA := wA_of 320 rfl rfl
set_option maxRecDepth 100000 in
theorem wd_349 : (Jvm.Cond.instanceMethod ({ cls := "LateFalls", name := "feed", desc := "(IIIII)I" } : Jvm.MethodName)) ∈ wA := wA_of 349 rfl rfl
set_option maxRecDepth 100000 in
theorem wd_350 : (Jvm.Cond.selects "LateFalls" ({ cls := "LateFalls", name := "feed", desc := "(IIIII)I" } : Jvm.MethodName) ({ cls := "LateFalls", name := "feed", desc := "(IIIII)I" } : Jvm.MethodName)) ∈ wA := wA_of 350 rfl rfl
set_option maxRecDepth 100000 in
theorem wd_351 : (Jvm.Cond.code ({ cls := "LateFalls", name := "feed", desc := "(IIIII)I" } : Jvm.MethodName) prog_1_method_2_code (6 : Nat) (Option.some Jvm.ClassFile.FieldType.int)) ∈ wA := wA_of 351 rfl rfl
set_option maxRecDepth 100000 in
theorem wd_357 : (Jvm.Cond.instanceMethod ({ cls := "LateFalls", name := "fault", desc := "(I)I" } : Jvm.MethodName)) ∈ wA := wA_of 357 rfl rfl
set_option maxRecDepth 100000 in
theorem wd_358 : (Jvm.Cond.selects "LateFalls" ({ cls := "LateFalls", name := "fault", desc := "(I)I" } : Jvm.MethodName) ({ cls := "LateFalls", name := "fault", desc := "(I)I" } : Jvm.MethodName)) ∈ wA := wA_of 358 rfl rfl
set_option maxRecDepth 100000 in
theorem wd_359 : (Jvm.Cond.code ({ cls := "LateFalls", name := "fault", desc := "(I)I" } : Jvm.MethodName) prog_1_method_5_code (2 : Nat) (Option.some Jvm.ClassFile.FieldType.int)) ∈ wA := wA_of 359 rfl rfl
set_option maxRecDepth 100000 in
theorem wd_361 : (Jvm.Cond.instanceMethod ({ cls := "LateFalls", name := "letGo", desc := "(III)I" } : Jvm.MethodName)) ∈ wA := wA_of 361 rfl rfl
set_option maxRecDepth 100000 in
theorem wd_362 : (Jvm.Cond.selects "LateFalls" ({ cls := "LateFalls", name := "letGo", desc := "(III)I" } : Jvm.MethodName) ({ cls := "LateFalls", name := "letGo", desc := "(III)I" } : Jvm.MethodName)) ∈ wA := wA_of 362 rfl rfl
set_option maxRecDepth 100000 in
theorem wd_363 : (Jvm.Cond.code ({ cls := "LateFalls", name := "letGo", desc := "(III)I" } : Jvm.MethodName) prog_1_method_16_code (5 : Nat) (Option.some Jvm.ClassFile.FieldType.int)) ∈ wA := wA_of 363 rfl rfl
set_option maxRecDepth 100000 in
theorem wd_457 : (Jvm.Cond.instanceMethod ({ cls := "LateFalls", name := "take", desc := "(I)I" } : Jvm.MethodName)) ∈ wA := wA_of 457 rfl rfl
set_option maxRecDepth 100000 in
theorem wd_458 : (Jvm.Cond.selects "LateFalls" ({ cls := "LateFalls", name := "take", desc := "(I)I" } : Jvm.MethodName) ({ cls := "LateFalls", name := "take", desc := "(I)I" } : Jvm.MethodName)) ∈ wA := wA_of 458 rfl rfl
set_option maxRecDepth 100000 in
theorem wd_459 : (Jvm.Cond.code ({ cls := "LateFalls", name := "take", desc := "(I)I" } : Jvm.MethodName) prog_1_method_17_code (3 : Nat) (Option.some Jvm.ClassFile.FieldType.int)) ∈ wA := wA_of 459 rfl rfl
set_option maxRecDepth 100000 in
theorem wd_469 : (Jvm.Cond.instanceMethod ({ cls := "LateFalls", name := "quake", desc := "()I" } : Jvm.MethodName)) ∈ wA := wA_of 469 rfl rfl
set_option maxRecDepth 100000 in
theorem wd_470 : (Jvm.Cond.selects "LateFalls" ({ cls := "LateFalls", name := "quake", desc := "()I" } : Jvm.MethodName) ({ cls := "LateFalls", name := "quake", desc := "()I" } : Jvm.MethodName)) ∈ wA := wA_of 470 rfl rfl
set_option maxRecDepth 100000 in
theorem wd_471 : (Jvm.Cond.code ({ cls := "LateFalls", name := "quake", desc := "()I" } : Jvm.MethodName) prog_1_method_18_code (1 : Nat) (Option.some Jvm.ClassFile.FieldType.int)) ∈ wA := wA_of 471 rfl rfl
set_option maxRecDepth 100000 in
theorem wd_482 : (Jvm.Cond.instanceMethod ({ cls := "LateFalls", name := "next", desc := "()I" } : Jvm.MethodName)) ∈ wA := wA_of 482 rfl rfl
set_option maxRecDepth 100000 in
theorem wd_483 : (Jvm.Cond.selects "LateFalls" ({ cls := "LateFalls", name := "next", desc := "()I" } : Jvm.MethodName) ({ cls := "LateFalls", name := "next", desc := "()I" } : Jvm.MethodName)) ∈ wA := wA_of 483 rfl rfl
set_option maxRecDepth 100000 in
theorem wd_484 : (Jvm.Cond.code ({ cls := "LateFalls", name := "next", desc := "()I" } : Jvm.MethodName) prog_1_method_31_code (1 : Nat) (Option.some Jvm.ClassFile.FieldType.int)) ∈ wA := wA_of 484 rfl rfl
set_option maxRecDepth 100000 in
theorem wd_497 : (Jvm.Cond.instanceMethod ({ cls := "LateFalls", name := "busiest", desc := "()I" } : Jvm.MethodName)) ∈ wA := wA_of 497 rfl rfl
set_option maxRecDepth 100000 in
theorem wd_498 : (Jvm.Cond.selects "LateFalls" ({ cls := "LateFalls", name := "busiest", desc := "()I" } : Jvm.MethodName) ({ cls := "LateFalls", name := "busiest", desc := "()I" } : Jvm.MethodName)) ∈ wA := wA_of 498 rfl rfl
set_option maxRecDepth 100000 in
theorem wd_499 : (Jvm.Cond.code ({ cls := "LateFalls", name := "busiest", desc := "()I" } : Jvm.MethodName) prog_1_method_32_code (5 : Nat) (Option.some Jvm.ClassFile.FieldType.int)) ∈ wA := wA_of 499 rfl rfl
set_option maxRecDepth 100000 in
theorem wd_502 : (Jvm.Cond.instanceMethod ({ cls := "LateFalls", name := "shelter", desc := "()I" } : Jvm.MethodName)) ∈ wA := wA_of 502 rfl rfl
set_option maxRecDepth 100000 in
theorem wd_503 : (Jvm.Cond.selects "LateFalls" ({ cls := "LateFalls", name := "shelter", desc := "()I" } : Jvm.MethodName) ({ cls := "LateFalls", name := "shelter", desc := "()I" } : Jvm.MethodName)) ∈ wA := wA_of 503 rfl rfl
set_option maxRecDepth 100000 in
theorem wd_504 : (Jvm.Cond.code ({ cls := "LateFalls", name := "shelter", desc := "()I" } : Jvm.MethodName) prog_1_method_51_code (6 : Nat) (Option.some Jvm.ClassFile.FieldType.int)) ∈ wA := wA_of 504 rfl rfl
set_option maxRecDepth 100000 in
theorem wd_512 : (Jvm.Cond.instanceMethod ({ cls := "LateFalls", name := "count", desc := "(I)I" } : Jvm.MethodName)) ∈ wA := wA_of 512 rfl rfl
set_option maxRecDepth 100000 in
theorem wd_513 : (Jvm.Cond.selects "LateFalls" ({ cls := "LateFalls", name := "count", desc := "(I)I" } : Jvm.MethodName) ({ cls := "LateFalls", name := "count", desc := "(I)I" } : Jvm.MethodName)) ∈ wA := wA_of 513 rfl rfl
set_option maxRecDepth 100000 in
theorem wd_514 : (Jvm.Cond.code ({ cls := "LateFalls", name := "count", desc := "(I)I" } : Jvm.MethodName) prog_1_method_62_code (3 : Nat) (Option.some Jvm.ClassFile.FieldType.int)) ∈ wA := wA_of 514 rfl rfl
set_option maxRecDepth 100000 in
theorem wd_528 : (Jvm.Cond.instanceMethod ({ cls := "LateFalls", name := "district", desc := "(I)I" } : Jvm.MethodName)) ∈ wA := wA_of 528 rfl rfl
set_option maxRecDepth 100000 in
theorem wd_529 : (Jvm.Cond.selects "LateFalls" ({ cls := "LateFalls", name := "district", desc := "(I)I" } : Jvm.MethodName) ({ cls := "LateFalls", name := "district", desc := "(I)I" } : Jvm.MethodName)) ∈ wA := wA_of 529 rfl rfl
set_option maxRecDepth 100000 in
theorem wd_530 : (Jvm.Cond.code ({ cls := "LateFalls", name := "district", desc := "(I)I" } : Jvm.MethodName) prog_1_method_4_code (2 : Nat) (Option.some Jvm.ClassFile.FieldType.int)) ∈ wA := wA_of 530 rfl rfl
set_option maxRecDepth 100000 in
theorem wd_998 : (Jvm.Cond.constantLong "LateFalls" (275 : Nat) (-1 : Int64)) ∈ wA := wA_of 998 rfl rfl
set_option maxRecDepth 100000 in
theorem wd_999 : (Jvm.Cond.constantLong "LateFalls" (277 : Nat) (2000 : Int64)) ∈ wA := wA_of 999 rfl rfl
theorem dX11_keeps_12 : decode cX11_keeps 12 = .ok (.bipush 89, 2) := by decide +kernel
theorem dX11_keeps_14 : decode cX11_keeps 14 = .ok (.istore_n 1, 1) := by decide +kernel
theorem dX11_keeps_15 : decode cX11_keeps 15 = .ok (.iload_n 1, 1) := by decide +kernel
theorem dX11_keeps_16 : decode cX11_keeps 16 = .ok (.sipush 422, 3) := by decide +kernel
theorem dX11_keeps_19 : decode cX11_keeps 19 = .ok (.if_icmp .ge 24, 3) := by decide +kernel
theorem dX11_keeps_22 : decode cX11_keeps 22 = .ok (.aload_n 0, 1) := by decide +kernel
theorem dX11_keeps_23 : decode cX11_keeps 23 = .ok (.getfield 9, 3) := by decide +kernel
theorem dX11_keeps_26 : decode cX11_keeps 26 = .ok (.iload_n 1, 1) := by decide +kernel
theorem dX11_keeps_27 : decode cX11_keeps 27 = .ok (.aload_n 0, 1) := by decide +kernel
theorem dX11_keeps_28 : decode cX11_keeps 28 = .ok (.getfield 9, 3) := by decide +kernel
theorem dX11_keeps_31 : decode cX11_keeps 31 = .ok (.iload_n 1, 1) := by decide +kernel
theorem dX11_keeps_32 : decode cX11_keeps 32 = .ok (.bipush 37, 2) := by decide +kernel
theorem dX11_keeps_34 : decode cX11_keeps 34 = .ok (.iadd, 1) := by decide +kernel
theorem dX11_keeps_35 : decode cX11_keeps 35 = .ok (.iaload, 1) := by decide +kernel
theorem dX11_keeps_36 : decode cX11_keeps 36 = .ok (.iastore, 1) := by decide +kernel
theorem dX11_keeps_37 : decode cX11_keeps 37 = .ok (.iinc 1 1, 3) := by decide +kernel
theorem dX11_keeps_40 : decode cX11_keeps 40 = .ok (.goto (-25), 3) := by decide +kernel
theorem dX11_keeps_43 : decode cX11_keeps 43 = .ok (.aload_n 0, 1) := by decide +kernel
theorem dX11_keeps_44 : decode cX11_keeps 44 = .ok (.getfield 9, 3) := by decide +kernel
theorem dX11_keeps_47 : decode cX11_keeps 47 = .ok (.bipush 7, 2) := by decide +kernel
theorem dX11_keeps_49 : decode cX11_keeps 49 = .ok (.dup2, 1) := by decide +kernel
theorem dX11_keeps_50 : decode cX11_keeps 50 = .ok (.iaload, 1) := by decide +kernel
theorem dX11_keeps_51 : decode cX11_keeps 51 = .ok (.iconst 1, 1) := by decide +kernel
theorem dX11_keeps_52 : decode cX11_keeps 52 = .ok (.isub, 1) := by decide +kernel
theorem dX11_keeps_53 : decode cX11_keeps 53 = .ok (.iastore, 1) := by decide +kernel
theorem dX2_keep_43 : decode cX2_keep 43 = .ok (.aload_n 0, 1) := by decide +kernel
theorem dX2_keep_44 : decode cX2_keep 44 = .ok (.aload_n 0, 1) := by decide +kernel
theorem dX2_keep_45 : decode cX2_keep 45 = .ok (.getfield 20, 3) := by decide +kernel
theorem dX2_keep_48 : decode cX2_keep 48 = .ok (.iconst 1, 1) := by decide +kernel
theorem dX2_keep_49 : decode cX2_keep 49 = .ok (.iadd, 1) := by decide +kernel
theorem dX2_keep_50 : decode cX2_keep 50 = .ok (.bipush 10, 2) := by decide +kernel
theorem dX2_keep_52 : decode cX2_keep 52 = .ok (.irem, 1) := by decide +kernel
theorem dX2_keep_53 : decode cX2_keep 53 = .ok (.putfield 20, 3) := by decide +kernel
