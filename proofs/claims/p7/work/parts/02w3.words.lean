section
set_option maxRecDepth 20000 in
theorem t_1962 : (Jvm.Cond.methodLink "MatchTreesModel" (522 : Nat) ({ cls := "MatchTreesModel", name := "conRead", desc := "(I)I" } : Jvm.MethodName)) ∈ WT := WT_of (sub_tables_1_8 _ (List.mem_of_getElem? (i := 153) (by decide +kernel))) (by decide +kernel)
set_option maxRecDepth 20000 in
theorem t_1964 : (Jvm.Cond.instanceMethod ({ cls := "MatchTreesModel", name := "conRead", desc := "(I)I" } : Jvm.MethodName)) ∈ WT := WT_of (sub_tables_1_8 _ (List.mem_of_getElem? (i := 155) (by decide +kernel))) (by decide +kernel)
set_option maxRecDepth 20000 in
theorem t_1965 : (Jvm.Cond.code ({ cls := "MatchTreesModel", name := "conRead", desc := "(I)I" } : Jvm.MethodName) prog_14_method_76_code (3 : Nat) (Option.some Jvm.ClassFile.FieldType.int)) ∈ WT := WT_of (sub_tables_1_8 _ (List.mem_of_getElem? (i := 156) rfl)) (by decide +kernel)
set_option maxRecDepth 20000 in
theorem t_1966 : (Jvm.Cond.methodLink "MatchTreesLaw" (74 : Nat) ({ cls := "MatchTreesModel", name := "text", desc := "(I)I" } : Jvm.MethodName)) ∈ WT := WT_of (sub_tables_1_8 _ (List.mem_of_getElem? (i := 157) (by decide +kernel))) (by decide +kernel)
set_option maxRecDepth 20000 in
theorem t_1967 : (Jvm.Cond.instanceMethod ({ cls := "MatchTreesModel", name := "text", desc := "(I)I" } : Jvm.MethodName)) ∈ WT := WT_of (sub_tables_1_8 _ (List.mem_of_getElem? (i := 158) (by decide +kernel))) (by decide +kernel)
set_option maxRecDepth 20000 in
theorem t_1968 : (Jvm.Cond.selects "MatchTreesModel" ({ cls := "MatchTreesModel", name := "text", desc := "(I)I" } : Jvm.MethodName) ({ cls := "MatchTreesModel", name := "text", desc := "(I)I" } : Jvm.MethodName)) ∈ WT := WT_of (sub_tables_1_8 _ (List.mem_of_getElem? (i := 159) (by decide +kernel))) (by decide +kernel)
set_option maxRecDepth 20000 in
theorem t_1969 : (Jvm.Cond.code ({ cls := "MatchTreesModel", name := "text", desc := "(I)I" } : Jvm.MethodName) prog_14_method_84_code (4 : Nat) (Option.some Jvm.ClassFile.FieldType.int)) ∈ WT := WT_of (sub_tables_1_8 _ (List.mem_of_getElem? (i := 160) rfl)) (by decide +kernel)
set_option maxRecDepth 20000 in
theorem t_1970 : (Jvm.Cond.methodLink "MatchTreesModel" (538 : Nat) ({ cls := "MatchTreesModel", name := "later", desc := "(II)V" } : Jvm.MethodName)) ∈ WT := WT_of (sub_tables_1_8 _ (List.mem_of_getElem? (i := 161) (by decide +kernel))) (by decide +kernel)
set_option maxRecDepth 20000 in
theorem t_1972 : (Jvm.Cond.instanceMethod ({ cls := "MatchTreesModel", name := "later", desc := "(II)V" } : Jvm.MethodName)) ∈ WT := WT_of (sub_tables_1_8 _ (List.mem_of_getElem? (i := 163) (by decide +kernel))) (by decide +kernel)
set_option maxRecDepth 20000 in
theorem t_1973 : (Jvm.Cond.code ({ cls := "MatchTreesModel", name := "later", desc := "(II)V" } : Jvm.MethodName) prog_14_method_81_code (3 : Nat) (Option.none : Option Jvm.ClassFile.FieldType)) ∈ WT := WT_of (sub_tables_1_8 _ (List.mem_of_getElem? (i := 164) rfl)) (by decide +kernel)
set_option maxRecDepth 20000 in
theorem t_1974 : (Jvm.Cond.methodLink "MatchTreesModel" (528 : Nat) ({ cls := "MatchTreesModel", name := "writes", desc := "(I)V" } : Jvm.MethodName)) ∈ WT := WT_of (sub_tables_1_8 _ (List.mem_of_getElem? (i := 165) (by decide +kernel))) (by decide +kernel)
set_option maxRecDepth 20000 in
theorem t_1976 : (Jvm.Cond.instanceMethod ({ cls := "MatchTreesModel", name := "writes", desc := "(I)V" } : Jvm.MethodName)) ∈ WT := WT_of (sub_tables_1_8 _ (List.mem_of_getElem? (i := 167) (by decide +kernel))) (by decide +kernel)
set_option maxRecDepth 20000 in
theorem t_1977 : (Jvm.Cond.code ({ cls := "MatchTreesModel", name := "writes", desc := "(I)V" } : Jvm.MethodName) prog_14_method_79_code (2 : Nat) (Option.none : Option Jvm.ClassFile.FieldType)) ∈ WT := WT_of (sub_tables_1_8 _ (List.mem_of_getElem? (i := 168) rfl)) (by decide +kernel)
set_option maxRecDepth 20000 in
theorem t_1978 : (Jvm.Cond.methodLink "MatchTreesModel" (541 : Nat) ({ cls := "MatchTreesModel", name := "writesValue", desc := "(II)V" } : Jvm.MethodName)) ∈ WT := WT_of (sub_tables_1_8 _ (List.mem_of_getElem? (i := 169) (by decide +kernel))) (by decide +kernel)
set_option maxRecDepth 20000 in
theorem t_1980 : (Jvm.Cond.instanceMethod ({ cls := "MatchTreesModel", name := "writesValue", desc := "(II)V" } : Jvm.MethodName)) ∈ WT := WT_of (sub_tables_1_8 _ (List.mem_of_getElem? (i := 171) (by decide +kernel))) (by decide +kernel)
set_option maxRecDepth 20000 in
theorem t_1981 : (Jvm.Cond.code ({ cls := "MatchTreesModel", name := "writesValue", desc := "(II)V" } : Jvm.MethodName) prog_14_method_83_code (6 : Nat) (Option.none : Option Jvm.ClassFile.FieldType)) ∈ WT := WT_of (sub_tables_1_8 _ (List.mem_of_getElem? (i := 172) rfl)) (by decide +kernel)
set_option maxRecDepth 20000 in
theorem t_1982 : (Jvm.Cond.methodLink "MatchTreesModel" (531 : Nat) ({ cls := "MatchTreesModel", name := "conOf", desc := "(II)I" } : Jvm.MethodName)) ∈ WT := WT_of (sub_tables_1_8 _ (List.mem_of_getElem? (i := 173) (by decide +kernel))) (by decide +kernel)
set_option maxRecDepth 20000 in
theorem t_1984 : (Jvm.Cond.instanceMethod ({ cls := "MatchTreesModel", name := "conOf", desc := "(II)I" } : Jvm.MethodName)) ∈ WT := WT_of (sub_tables_1_8 _ (List.mem_of_getElem? (i := 175) (by decide +kernel))) (by decide +kernel)
set_option maxRecDepth 20000 in
theorem t_1985 : (Jvm.Cond.code ({ cls := "MatchTreesModel", name := "conOf", desc := "(II)I" } : Jvm.MethodName) prog_14_method_82_code (5 : Nat) (Option.some Jvm.ClassFile.FieldType.int)) ∈ WT := WT_of (sub_tables_1_8 _ (List.mem_of_getElem? (i := 176) rfl)) (by decide +kernel)
set_option maxRecDepth 20000 in
theorem t_1986 : (Jvm.Cond.methodLink "MatchTreesModel" (534 : Nat) ({ cls := "MatchTreesModel", name := "writesName", desc := "(J)V" } : Jvm.MethodName)) ∈ WT := WT_of (sub_tables_1_8 _ (List.mem_of_getElem? (i := 177) (by decide +kernel))) (by decide +kernel)
set_option maxRecDepth 20000 in
theorem t_1988 : (Jvm.Cond.instanceMethod ({ cls := "MatchTreesModel", name := "writesName", desc := "(J)V" } : Jvm.MethodName)) ∈ WT := WT_of (sub_tables_1_8 _ (List.mem_of_getElem? (i := 179) (by decide +kernel))) (by decide +kernel)
set_option maxRecDepth 20000 in
theorem t_1989 : (Jvm.Cond.code ({ cls := "MatchTreesModel", name := "writesName", desc := "(J)V" } : Jvm.MethodName) prog_14_method_80_code (4 : Nat) (Option.none : Option Jvm.ClassFile.FieldType)) ∈ WT := WT_of (sub_tables_1_8 _ (List.mem_of_getElem? (i := 180) rfl)) (by decide +kernel)
set_option maxRecDepth 20000 in
theorem t_1990 : (Jvm.Cond.methodLink "MatchTreesLaw" (78 : Nat) ({ cls := "MatchTreesModel", name := "octet", desc := "(I)I" } : Jvm.MethodName)) ∈ WT := WT_of (sub_tables_1_8 _ (List.mem_of_getElem? (i := 181) (by decide +kernel))) (by decide +kernel)
set_option maxRecDepth 20000 in
theorem t_1991 : (Jvm.Cond.instanceMethod ({ cls := "MatchTreesModel", name := "octet", desc := "(I)I" } : Jvm.MethodName)) ∈ WT := WT_of (sub_tables_1_8 _ (List.mem_of_getElem? (i := 182) (by decide +kernel))) (by decide +kernel)
set_option maxRecDepth 20000 in
theorem t_1992 : (Jvm.Cond.selects "MatchTreesModel" ({ cls := "MatchTreesModel", name := "octet", desc := "(I)I" } : Jvm.MethodName) ({ cls := "MatchTreesModel", name := "octet", desc := "(I)I" } : Jvm.MethodName)) ∈ WT := WT_of (sub_tables_1_8 _ (List.mem_of_getElem? (i := 183) (by decide +kernel))) (by decide +kernel)
set_option maxRecDepth 20000 in
theorem t_1993 : (Jvm.Cond.code ({ cls := "MatchTreesModel", name := "octet", desc := "(I)I" } : Jvm.MethodName) prog_14_method_85_code (2 : Nat) (Option.some Jvm.ClassFile.FieldType.int)) ∈ WT := WT_of (sub_tables_1_8 _ (List.mem_of_getElem? (i := 184) rfl)) (by decide +kernel)
set_option maxRecDepth 20000 in
theorem t_1994 : (Jvm.Cond.methodLink "MatchTreesLaw" (82 : Nat) ({ cls := "MatchTreesModel", name := "tree", desc := "(II)I" } : Jvm.MethodName)) ∈ WT := WT_of (sub_tables_1_8 _ (List.mem_of_getElem? (i := 185) (by decide +kernel))) (by decide +kernel)
set_option maxRecDepth 20000 in
theorem t_1995 : (Jvm.Cond.instanceMethod ({ cls := "MatchTreesModel", name := "tree", desc := "(II)I" } : Jvm.MethodName)) ∈ WT := WT_of (sub_tables_1_8 _ (List.mem_of_getElem? (i := 186) (by decide +kernel))) (by decide +kernel)
set_option maxRecDepth 20000 in
theorem t_1996 : (Jvm.Cond.selects "MatchTreesModel" ({ cls := "MatchTreesModel", name := "tree", desc := "(II)I" } : Jvm.MethodName) ({ cls := "MatchTreesModel", name := "tree", desc := "(II)I" } : Jvm.MethodName)) ∈ WT := WT_of (sub_tables_1_8 _ (List.mem_of_getElem? (i := 187) (by decide +kernel))) (by decide +kernel)
set_option maxRecDepth 20000 in
theorem t_1997 : (Jvm.Cond.code ({ cls := "MatchTreesModel", name := "tree", desc := "(II)I" } : Jvm.MethodName) prog_14_method_103_code (5 : Nat) (Option.some Jvm.ClassFile.FieldType.int)) ∈ WT := WT_of (sub_tables_1_8 _ (List.mem_of_getElem? (i := 188) rfl)) (by decide +kernel)
set_option maxRecDepth 20000 in
theorem t_1998 : (Jvm.Cond.methodLink "MatchTreesModel" (581 : Nat) ({ cls := "MatchTreesModel", name := "plants", desc := "(II)V" } : Jvm.MethodName)) ∈ WT := WT_of (sub_tables_1_8 _ (List.mem_of_getElem? (i := 189) (by decide +kernel))) (by decide +kernel)
set_option maxRecDepth 20000 in
theorem t_2000 : (Jvm.Cond.instanceMethod ({ cls := "MatchTreesModel", name := "plants", desc := "(II)V" } : Jvm.MethodName)) ∈ WT := WT_of (sub_tables_1_8 _ (List.mem_of_getElem? (i := 191) (by decide +kernel))) (by decide +kernel)
set_option maxRecDepth 20000 in
theorem t_2001 : (Jvm.Cond.code ({ cls := "MatchTreesModel", name := "plants", desc := "(II)V" } : Jvm.MethodName) prog_14_method_96_code (3 : Nat) (Option.none : Option Jvm.ClassFile.FieldType)) ∈ WT := WT_of (sub_tables_1_8 _ (List.mem_of_getElem? (i := 192) rfl)) (by decide +kernel)
set_option maxRecDepth 20000 in
theorem t_2002 : (Jvm.Cond.methodLink "MatchTreesModel" (584 : Nat) ({ cls := "MatchTreesModel", name := "allTests", desc := "(I)I" } : Jvm.MethodName)) ∈ WT := WT_of (sub_tables_1_8 _ (List.mem_of_getElem? (i := 193) (by decide +kernel))) (by decide +kernel)
set_option maxRecDepth 20000 in
theorem t_2004 : (Jvm.Cond.instanceMethod ({ cls := "MatchTreesModel", name := "allTests", desc := "(I)I" } : Jvm.MethodName)) ∈ WT := WT_of (sub_tables_1_8 _ (List.mem_of_getElem? (i := 195) (by decide +kernel))) (by decide +kernel)
set_option maxRecDepth 20000 in
theorem t_2005 : (Jvm.Cond.code ({ cls := "MatchTreesModel", name := "allTests", desc := "(I)I" } : Jvm.MethodName) prog_14_method_98_code (5 : Nat) (Option.some Jvm.ClassFile.FieldType.int)) ∈ WT := WT_of (sub_tables_1_8 _ (List.mem_of_getElem? (i := 196) rfl)) (by decide +kernel)
set_option maxRecDepth 20000 in
theorem t_2006 : (Jvm.Cond.methodLink "MatchTreesModel" (571 : Nat) ({ cls := "MatchTreesModel", name := "testsFor", desc := "(II)I" } : Jvm.MethodName)) ∈ WT := WT_of (sub_tables_1_8 _ (List.mem_of_getElem? (i := 197) (by decide +kernel))) (by decide +kernel)
set_option maxRecDepth 20000 in
theorem t_2008 : (Jvm.Cond.instanceMethod ({ cls := "MatchTreesModel", name := "testsFor", desc := "(II)I" } : Jvm.MethodName)) ∈ WT := WT_of (sub_tables_1_8 _ (List.mem_of_getElem? (i := 199) (by decide +kernel))) (by decide +kernel)
set_option maxRecDepth 20000 in
theorem t_2009 : (Jvm.Cond.code ({ cls := "MatchTreesModel", name := "testsFor", desc := "(II)I" } : Jvm.MethodName) prog_14_method_97_code (6 : Nat) (Option.some Jvm.ClassFile.FieldType.int)) ∈ WT := WT_of (sub_tables_1_8 _ (List.mem_of_getElem? (i := 200) rfl)) (by decide +kernel)
set_option maxRecDepth 20000 in
theorem t_2010 : (Jvm.Cond.methodLink "MatchTreesModel" (562 : Nat) ({ cls := "MatchTreesModel", name := "root", desc := "()I" } : Jvm.MethodName)) ∈ WT := WT_of (sub_tables_1_8 _ (List.mem_of_getElem? (i := 201) (by decide +kernel))) (by decide +kernel)
set_option maxRecDepth 20000 in
theorem t_2012 : (Jvm.Cond.instanceMethod ({ cls := "MatchTreesModel", name := "root", desc := "()I" } : Jvm.MethodName)) ∈ WT := WT_of (sub_tables_1_8 _ (List.mem_of_getElem? (i := 203) (by decide +kernel))) (by decide +kernel)
set_option maxRecDepth 20000 in
theorem t_2013 : (Jvm.Cond.code ({ cls := "MatchTreesModel", name := "root", desc := "()I" } : Jvm.MethodName) prog_14_method_95_code (1 : Nat) (Option.some Jvm.ClassFile.FieldType.int)) ∈ WT := WT_of (sub_tables_1_8 _ (List.mem_of_getElem? (i := 204) rfl)) (by decide +kernel)
set_option maxRecDepth 20000 in
theorem t_2014 : (Jvm.Cond.methodLink "MatchTreesModel" (559 : Nat) ({ cls := "MatchTreesModel", name := "leftOf", desc := "(II)I" } : Jvm.MethodName)) ∈ WT := WT_of (sub_tables_1_8 _ (List.mem_of_getElem? (i := 205) (by decide +kernel))) (by decide +kernel)
set_option maxRecDepth 20000 in
theorem t_2015 : (Jvm.Cond.static ({ cls := "MatchTreesModel", name := "leftOf", desc := "(II)I" } : Jvm.MethodName)) ∈ WT := WT_of (sub_tables_1_8 _ (List.mem_of_getElem? (i := 206) (by decide +kernel))) (by decide +kernel)
set_option maxRecDepth 20000 in
theorem t_2016 : (Jvm.Cond.code ({ cls := "MatchTreesModel", name := "leftOf", desc := "(II)I" } : Jvm.MethodName) prog_14_method_86_code (2 : Nat) (Option.some Jvm.ClassFile.FieldType.int)) ∈ WT := WT_of (sub_tables_1_8 _ (List.mem_of_getElem? (i := 207) rfl)) (by decide +kernel)
set_option maxRecDepth 20000 in
theorem t_2017 : (Jvm.Cond.methodLink "MatchTreesModel" (547 : Nat) ({ cls := "MatchTreesModel", name := "armsIn", desc := "(I)I" } : Jvm.MethodName)) ∈ WT := WT_of (sub_tables_1_8 _ (List.mem_of_getElem? (i := 208) (by decide +kernel))) (by decide +kernel)
set_option maxRecDepth 20000 in
theorem t_2018 : (Jvm.Cond.static ({ cls := "MatchTreesModel", name := "armsIn", desc := "(I)I" } : Jvm.MethodName)) ∈ WT := WT_of (sub_tables_1_8 _ (List.mem_of_getElem? (i := 209) (by decide +kernel))) (by decide +kernel)
set_option maxRecDepth 20000 in
theorem t_2019 : (Jvm.Cond.code ({ cls := "MatchTreesModel", name := "armsIn", desc := "(I)I" } : Jvm.MethodName) prog_14_method_87_code (1 : Nat) (Option.some Jvm.ClassFile.FieldType.int)) ∈ WT := WT_of (sub_tables_1_8 _ (List.mem_of_getElem? (i := 210) rfl)) (by decide +kernel)
set_option maxRecDepth 20000 in
theorem t_2020 : (Jvm.Cond.methodLink "MatchTreesModel" (556 : Nat) ({ cls := "MatchTreesModel", name := "asksFor", desc := "(I)I" } : Jvm.MethodName)) ∈ WT := WT_of (sub_tables_1_8 _ (List.mem_of_getElem? (i := 211) (by decide +kernel))) (by decide +kernel)
set_option maxRecDepth 20000 in
theorem t_2022 : (Jvm.Cond.instanceMethod ({ cls := "MatchTreesModel", name := "asksFor", desc := "(I)I" } : Jvm.MethodName)) ∈ WT := WT_of (sub_tables_1_8 _ (List.mem_of_getElem? (i := 213) (by decide +kernel))) (by decide +kernel)
set_option maxRecDepth 20000 in
theorem t_2023 : (Jvm.Cond.code ({ cls := "MatchTreesModel", name := "asksFor", desc := "(I)I" } : Jvm.MethodName) prog_14_method_91_code (8 : Nat) (Option.some Jvm.ClassFile.FieldType.int)) ∈ WT := WT_of (sub_tables_1_8 _ (List.mem_of_getElem? (i := 214) rfl)) (by decide +kernel)
set_option maxRecDepth 20000 in
theorem t_2024 : (Jvm.Cond.methodLink "MatchTreesModel" (550 : Nat) ({ cls := "MatchTreesModel", name := "columnsIn", desc := "(I)I" } : Jvm.MethodName)) ∈ WT := WT_of (sub_tables_1_8 _ (List.mem_of_getElem? (i := 215) (by decide +kernel))) (by decide +kernel)
set_option maxRecDepth 20000 in
theorem t_2025 : (Jvm.Cond.static ({ cls := "MatchTreesModel", name := "columnsIn", desc := "(I)I" } : Jvm.MethodName)) ∈ WT := WT_of (sub_tables_1_8 _ (List.mem_of_getElem? (i := 216) (by decide +kernel))) (by decide +kernel)
set_option maxRecDepth 20000 in
theorem t_2026 : (Jvm.Cond.code ({ cls := "MatchTreesModel", name := "columnsIn", desc := "(I)I" } : Jvm.MethodName) prog_14_method_88_code (1 : Nat) (Option.some Jvm.ClassFile.FieldType.int)) ∈ WT := WT_of (sub_tables_1_8 _ (List.mem_of_getElem? (i := 217) rfl)) (by decide +kernel)
set_option maxRecDepth 20000 in
theorem t_2027 : (Jvm.Cond.methodLink "MatchTreesModel" (553 : Nat) ({ cls := "MatchTreesModel", name := "worthOf", desc := "(II)I" } : Jvm.MethodName)) ∈ WT := WT_of (sub_tables_1_8 _ (List.mem_of_getElem? (i := 218) (by decide +kernel))) (by decide +kernel)
set_option maxRecDepth 20000 in
theorem t_2029 : (Jvm.Cond.instanceMethod ({ cls := "MatchTreesModel", name := "worthOf", desc := "(II)I" } : Jvm.MethodName)) ∈ WT := WT_of (sub_tables_1_8 _ (List.mem_of_getElem? (i := 220) (by decide +kernel))) (by decide +kernel)
set_option maxRecDepth 20000 in
theorem t_2030 : (Jvm.Cond.code ({ cls := "MatchTreesModel", name := "worthOf", desc := "(II)I" } : Jvm.MethodName) prog_14_method_90_code (7 : Nat) (Option.some Jvm.ClassFile.FieldType.int)) ∈ WT := WT_of (sub_tables_1_8 _ (List.mem_of_getElem? (i := 221) rfl)) (by decide +kernel)
set_option maxRecDepth 20000 in
theorem t_2031 : (Jvm.Cond.methodLink "MatchTreesModel" (544 : Nat) ({ cls := "MatchTreesModel", name := "bitsOf", desc := "(I)I" } : Jvm.MethodName)) ∈ WT := WT_of (sub_tables_1_8 _ (List.mem_of_getElem? (i := 222) (by decide +kernel))) (by decide +kernel)
set_option maxRecDepth 20000 in
theorem t_2032 : (Jvm.Cond.static ({ cls := "MatchTreesModel", name := "bitsOf", desc := "(I)I" } : Jvm.MethodName)) ∈ WT := WT_of (sub_tables_1_8 _ (List.mem_of_getElem? (i := 223) (by decide +kernel))) (by decide +kernel)
set_option maxRecDepth 20000 in
theorem t_2033 : (Jvm.Cond.code ({ cls := "MatchTreesModel", name := "bitsOf", desc := "(I)I" } : Jvm.MethodName) prog_14_method_56_code (3 : Nat) (Option.some Jvm.ClassFile.FieldType.int)) ∈ WT := WT_of (sub_tables_1_8 _ (List.mem_of_getElem? (i := 224) rfl)) (by decide +kernel)
set_option maxRecDepth 20000 in
theorem t_2034 : (Jvm.Cond.methodLink "MatchTreesModel" (565 : Nat) ({ cls := "MatchTreesModel", name := "throughDoor", desc := "(I)I" } : Jvm.MethodName)) ∈ WT := WT_of (sub_tables_1_8 _ (List.mem_of_getElem? (i := 225) (by decide +kernel))) (by decide +kernel)
set_option maxRecDepth 20000 in
theorem t_2035 : (Jvm.Cond.static ({ cls := "MatchTreesModel", name := "throughDoor", desc := "(I)I" } : Jvm.MethodName)) ∈ WT := WT_of (sub_tables_1_8 _ (List.mem_of_getElem? (i := 226) (by decide +kernel))) (by decide +kernel)
set_option maxRecDepth 20000 in
theorem t_2036 : (Jvm.Cond.code ({ cls := "MatchTreesModel", name := "throughDoor", desc := "(I)I" } : Jvm.MethodName) prog_14_method_93_code (1 : Nat) (Option.some Jvm.ClassFile.FieldType.int)) ∈ WT := WT_of (sub_tables_1_8 _ (List.mem_of_getElem? (i := 227) rfl)) (by decide +kernel)
set_option maxRecDepth 20000 in
theorem t_2037 : (Jvm.Cond.methodLink "MatchTreesModel" (568 : Nat) ({ cls := "MatchTreesModel", name := "branchOf", desc := "(III)I" } : Jvm.MethodName)) ∈ WT := WT_of (sub_tables_1_8 _ (List.mem_of_getElem? (i := 228) (by decide +kernel))) (by decide +kernel)
set_option maxRecDepth 20000 in
theorem t_2039 : (Jvm.Cond.instanceMethod ({ cls := "MatchTreesModel", name := "branchOf", desc := "(III)I" } : Jvm.MethodName)) ∈ WT := WT_of (sub_tables_1_8 _ (List.mem_of_getElem? (i := 230) (by decide +kernel))) (by decide +kernel)
set_option maxRecDepth 20000 in
theorem t_2040 : (Jvm.Cond.code ({ cls := "MatchTreesModel", name := "branchOf", desc := "(III)I" } : Jvm.MethodName) prog_14_method_94_code (4 : Nat) (Option.some Jvm.ClassFile.FieldType.int)) ∈ WT := WT_of (sub_tables_1_8 _ (List.mem_of_getElem? (i := 231) rfl)) (by decide +kernel)
set_option maxRecDepth 20000 in
theorem t_2041 : (Jvm.Cond.methodLink "MatchTreesModel" (587 : Nat) ({ cls := "MatchTreesModel", name := "grows", desc := "()V" } : Jvm.MethodName)) ∈ WT := WT_of (sub_tables_1_8 _ (List.mem_of_getElem? (i := 232) (by decide +kernel))) (by decide +kernel)
set_option maxRecDepth 20000 in
theorem t_2043 : (Jvm.Cond.instanceMethod ({ cls := "MatchTreesModel", name := "grows", desc := "()V" } : Jvm.MethodName)) ∈ WT := WT_of (sub_tables_1_8 _ (List.mem_of_getElem? (i := 234) (by decide +kernel))) (by decide +kernel)
set_option maxRecDepth 20000 in
theorem t_2044 : (Jvm.Cond.code ({ cls := "MatchTreesModel", name := "grows", desc := "()V" } : Jvm.MethodName) prog_14_method_100_code (5 : Nat) (Option.none : Option Jvm.ClassFile.FieldType)) ∈ WT := WT_of (sub_tables_1_8 _ (List.mem_of_getElem? (i := 235) rfl)) (by decide +kernel)
set_option maxRecDepth 20000 in
theorem t_2045 : (Jvm.Cond.methodLink "MatchTreesModel" (574 : Nat) ({ cls := "MatchTreesModel", name := "reaches", desc := "(I)V" } : Jvm.MethodName)) ∈ WT := WT_of (sub_tables_1_8 _ (List.mem_of_getElem? (i := 236) (by decide +kernel))) (by decide +kernel)
set_option maxRecDepth 20000 in
theorem t_2047 : (Jvm.Cond.instanceMethod ({ cls := "MatchTreesModel", name := "reaches", desc := "(I)V" } : Jvm.MethodName)) ∈ WT := WT_of (sub_tables_1_8 _ (List.mem_of_getElem? (i := 238) (by decide +kernel))) (by decide +kernel)
set_option maxRecDepth 20000 in
theorem t_2048 : (Jvm.Cond.code ({ cls := "MatchTreesModel", name := "reaches", desc := "(I)V" } : Jvm.MethodName) prog_14_method_99_code (2 : Nat) (Option.none : Option Jvm.ClassFile.FieldType)) ∈ WT := WT_of (sub_tables_1_8 _ (List.mem_of_getElem? (i := 239) rfl)) (by decide +kernel)
set_option maxRecDepth 20000 in
theorem t_2049 : (Jvm.Cond.methodLink "MatchTreesModel" (577 : Nat) ({ cls := "MatchTreesModel", name := "isDoor", desc := "(I)Z" } : Jvm.MethodName)) ∈ WT := WT_of (sub_tables_1_9 _ (List.mem_of_getElem? (i := 0) (by decide +kernel))) (by decide +kernel)
set_option maxRecDepth 20000 in
theorem t_2051 : (Jvm.Cond.instanceMethod ({ cls := "MatchTreesModel", name := "isDoor", desc := "(I)Z" } : Jvm.MethodName)) ∈ WT := WT_of (sub_tables_1_9 _ (List.mem_of_getElem? (i := 2) (by decide +kernel))) (by decide +kernel)
set_option maxRecDepth 20000 in
theorem t_2052 : (Jvm.Cond.code ({ cls := "MatchTreesModel", name := "isDoor", desc := "(I)Z" } : Jvm.MethodName) prog_14_method_92_code (2 : Nat) (Option.some Jvm.ClassFile.FieldType.boolean)) ∈ WT := WT_of (sub_tables_1_9 _ (List.mem_of_getElem? (i := 3) rfl)) (by decide +kernel)
set_option maxRecDepth 20000 in
theorem t_2053 : (Jvm.Cond.methodLink "MatchTreesModel" (590 : Nat) ({ cls := "MatchTreesModel", name := "sizeOf", desc := "(I)I" } : Jvm.MethodName)) ∈ WT := WT_of (sub_tables_1_9 _ (List.mem_of_getElem? (i := 4) (by decide +kernel))) (by decide +kernel)
set_option maxRecDepth 20000 in
theorem t_2054 : (Jvm.Cond.static ({ cls := "MatchTreesModel", name := "sizeOf", desc := "(I)I" } : Jvm.MethodName)) ∈ WT := WT_of (sub_tables_1_9 _ (List.mem_of_getElem? (i := 5) (by decide +kernel))) (by decide +kernel)
set_option maxRecDepth 20000 in
theorem t_2055 : (Jvm.Cond.code ({ cls := "MatchTreesModel", name := "sizeOf", desc := "(I)I" } : Jvm.MethodName) prog_14_method_102_code (1 : Nat) (Option.some Jvm.ClassFile.FieldType.int)) ∈ WT := WT_of (sub_tables_1_9 _ (List.mem_of_getElem? (i := 6) rfl)) (by decide +kernel)
set_option maxRecDepth 20000 in
theorem t_2056 : (Jvm.Cond.methodLink "MatchTreesModel" (593 : Nat) ({ cls := "MatchTreesModel", name := "weighs", desc := "(I)V" } : Jvm.MethodName)) ∈ WT := WT_of (sub_tables_1_9 _ (List.mem_of_getElem? (i := 7) (by decide +kernel))) (by decide +kernel)
set_option maxRecDepth 20000 in
theorem t_2058 : (Jvm.Cond.instanceMethod ({ cls := "MatchTreesModel", name := "weighs", desc := "(I)V" } : Jvm.MethodName)) ∈ WT := WT_of (sub_tables_1_9 _ (List.mem_of_getElem? (i := 9) (by decide +kernel))) (by decide +kernel)
set_option maxRecDepth 20000 in
theorem t_2059 : (Jvm.Cond.code ({ cls := "MatchTreesModel", name := "weighs", desc := "(I)V" } : Jvm.MethodName) prog_14_method_101_code (8 : Nat) (Option.none : Option Jvm.ClassFile.FieldType)) ∈ WT := WT_of (sub_tables_1_9 _ (List.mem_of_getElem? (i := 10) rfl)) (by decide +kernel)
set_option maxRecDepth 20000 in
theorem t_2060 : (Jvm.Cond.constant "MatchTreesModel" (580 : Nat) (1000000 : Int32)) ∈ WT := WT_of (sub_tables_1_9 _ (List.mem_of_getElem? (i := 11) (by decide +kernel))) (by decide +kernel)
set_option maxRecDepth 20000 in
theorem t_2061 : (Jvm.Cond.methodLink "MatchTreesLaw" (86 : Nat) ({ cls := "MatchTreesModel", name := "first", desc := "(I)I" } : Jvm.MethodName)) ∈ WT := WT_of (sub_tables_1_9 _ (List.mem_of_getElem? (i := 12) (by decide +kernel))) (by decide +kernel)
set_option maxRecDepth 20000 in
theorem t_2062 : (Jvm.Cond.instanceMethod ({ cls := "MatchTreesModel", name := "first", desc := "(I)I" } : Jvm.MethodName)) ∈ WT := WT_of (sub_tables_1_9 _ (List.mem_of_getElem? (i := 13) (by decide +kernel))) (by decide +kernel)
set_option maxRecDepth 20000 in
theorem t_2063 : (Jvm.Cond.selects "MatchTreesModel" ({ cls := "MatchTreesModel", name := "first", desc := "(I)I" } : Jvm.MethodName) ({ cls := "MatchTreesModel", name := "first", desc := "(I)I" } : Jvm.MethodName)) ∈ WT := WT_of (sub_tables_1_9 _ (List.mem_of_getElem? (i := 14) (by decide +kernel))) (by decide +kernel)
set_option maxRecDepth 20000 in
theorem t_2064 : (Jvm.Cond.code ({ cls := "MatchTreesModel", name := "first", desc := "(I)I" } : Jvm.MethodName) prog_14_method_104_code (4 : Nat) (Option.some Jvm.ClassFile.FieldType.int)) ∈ WT := WT_of (sub_tables_1_9 _ (List.mem_of_getElem? (i := 15) rfl)) (by decide +kernel)
set_option maxRecDepth 20000 in
theorem t_2065 : (Jvm.Cond.methodLink "MatchTreesLaw" (90 : Nat) ({ cls := "MatchTreesModel", name := "scopes", desc := "(III)I" } : Jvm.MethodName)) ∈ WT := WT_of (sub_tables_1_9 _ (List.mem_of_getElem? (i := 16) (by decide +kernel))) (by decide +kernel)
set_option maxRecDepth 20000 in
theorem t_2066 : (Jvm.Cond.instanceMethod ({ cls := "MatchTreesModel", name := "scopes", desc := "(III)I" } : Jvm.MethodName)) ∈ WT := WT_of (sub_tables_1_9 _ (List.mem_of_getElem? (i := 17) (by decide +kernel))) (by decide +kernel)
set_option maxRecDepth 20000 in
theorem t_2067 : (Jvm.Cond.selects "MatchTreesModel" ({ cls := "MatchTreesModel", name := "scopes", desc := "(III)I" } : Jvm.MethodName) ({ cls := "MatchTreesModel", name := "scopes", desc := "(III)I" } : Jvm.MethodName)) ∈ WT := WT_of (sub_tables_1_9 _ (List.mem_of_getElem? (i := 18) (by decide +kernel))) (by decide +kernel)
set_option maxRecDepth 20000 in
theorem t_2068 : (Jvm.Cond.code ({ cls := "MatchTreesModel", name := "scopes", desc := "(III)I" } : Jvm.MethodName) prog_14_method_109_code (4 : Nat) (Option.some Jvm.ClassFile.FieldType.int)) ∈ WT := WT_of (sub_tables_1_9 _ (List.mem_of_getElem? (i := 19) rfl)) (by decide +kernel)
set_option maxRecDepth 20000 in
theorem t_2069 : (Jvm.Cond.methodLink "MatchTreesModel" (605 : Nat) ({ cls := "MatchTreesModel", name := "builds", desc := "()V" } : Jvm.MethodName)) ∈ WT := WT_of (sub_tables_1_9 _ (List.mem_of_getElem? (i := 20) (by decide +kernel))) (by decide +kernel)
set_option maxRecDepth 20000 in
theorem t_2071 : (Jvm.Cond.instanceMethod ({ cls := "MatchTreesModel", name := "builds", desc := "()V" } : Jvm.MethodName)) ∈ WT := WT_of (sub_tables_1_9 _ (List.mem_of_getElem? (i := 22) (by decide +kernel))) (by decide +kernel)
set_option maxRecDepth 20000 in
theorem t_2072 : (Jvm.Cond.code ({ cls := "MatchTreesModel", name := "builds", desc := "()V" } : Jvm.MethodName) prog_14_method_108_code (3 : Nat) (Option.none : Option Jvm.ClassFile.FieldType)) ∈ WT := WT_of (sub_tables_1_9 _ (List.mem_of_getElem? (i := 23) rfl)) (by decide +kernel)
set_option maxRecDepth 20000 in
theorem t_2073 : (Jvm.Cond.methodLink "MatchTreesModel" (599 : Nat) ({ cls := "MatchTreesModel", name := "opensScope", desc := "(II)V" } : Jvm.MethodName)) ∈ WT := WT_of (sub_tables_1_9 _ (List.mem_of_getElem? (i := 24) (by decide +kernel))) (by decide +kernel)
set_option maxRecDepth 20000 in
theorem t_2075 : (Jvm.Cond.instanceMethod ({ cls := "MatchTreesModel", name := "opensScope", desc := "(II)V" } : Jvm.MethodName)) ∈ WT := WT_of (sub_tables_1_9 _ (List.mem_of_getElem? (i := 26) (by decide +kernel))) (by decide +kernel)
set_option maxRecDepth 20000 in
theorem t_2076 : (Jvm.Cond.code ({ cls := "MatchTreesModel", name := "opensScope", desc := "(II)V" } : Jvm.MethodName) prog_14_method_107_code (3 : Nat) (Option.none : Option Jvm.ClassFile.FieldType)) ∈ WT := WT_of (sub_tables_1_9 _ (List.mem_of_getElem? (i := 27) rfl)) (by decide +kernel)
set_option maxRecDepth 20000 in
theorem t_2077 : (Jvm.Cond.methodLink "MatchTreesModel" (602 : Nat) ({ cls := "MatchTreesModel", name := "nextBranch", desc := "(I)I" } : Jvm.MethodName)) ∈ WT := WT_of (sub_tables_1_9 _ (List.mem_of_getElem? (i := 28) (by decide +kernel))) (by decide +kernel)
set_option maxRecDepth 20000 in
theorem t_2079 : (Jvm.Cond.instanceMethod ({ cls := "MatchTreesModel", name := "nextBranch", desc := "(I)I" } : Jvm.MethodName)) ∈ WT := WT_of (sub_tables_1_9 _ (List.mem_of_getElem? (i := 30) (by decide +kernel))) (by decide +kernel)
set_option maxRecDepth 20000 in
theorem t_2080 : (Jvm.Cond.code ({ cls := "MatchTreesModel", name := "nextBranch", desc := "(I)I" } : Jvm.MethodName) prog_14_method_106_code (5 : Nat) (Option.some Jvm.ClassFile.FieldType.int)) ∈ WT := WT_of (sub_tables_1_9 _ (List.mem_of_getElem? (i := 31) rfl)) (by decide +kernel)
set_option maxRecDepth 20000 in
theorem t_2081 : (Jvm.Cond.methodLink "MatchTreesModel" (596 : Nat) ({ cls := "MatchTreesModel", name := "isNewSet", desc := "(III)Z" } : Jvm.MethodName)) ∈ WT := WT_of (sub_tables_1_9 _ (List.mem_of_getElem? (i := 32) (by decide +kernel))) (by decide +kernel)
set_option maxRecDepth 20000 in
theorem t_2083 : (Jvm.Cond.instanceMethod ({ cls := "MatchTreesModel", name := "isNewSet", desc := "(III)Z" } : Jvm.MethodName)) ∈ WT := WT_of (sub_tables_1_9 _ (List.mem_of_getElem? (i := 34) (by decide +kernel))) (by decide +kernel)
set_option maxRecDepth 20000 in
theorem t_2084 : (Jvm.Cond.code ({ cls := "MatchTreesModel", name := "isNewSet", desc := "(III)Z" } : Jvm.MethodName) prog_14_method_105_code (5 : Nat) (Option.some Jvm.ClassFile.FieldType.boolean)) ∈ WT := WT_of (sub_tables_1_9 _ (List.mem_of_getElem? (i := 35) rfl)) (by decide +kernel)
set_option maxRecDepth 20000 in
theorem t_2085 : (Jvm.Cond.methodLink "MatchTreesLaw" (94 : Nat) ({ cls := "MatchTreesModel", name := "safe", desc := "(II)I" } : Jvm.MethodName)) ∈ WT := WT_of (sub_tables_1_9 _ (List.mem_of_getElem? (i := 36) (by decide +kernel))) (by decide +kernel)
set_option maxRecDepth 20000 in
theorem t_2086 : (Jvm.Cond.instanceMethod ({ cls := "MatchTreesModel", name := "safe", desc := "(II)I" } : Jvm.MethodName)) ∈ WT := WT_of (sub_tables_1_9 _ (List.mem_of_getElem? (i := 37) (by decide +kernel))) (by decide +kernel)
set_option maxRecDepth 20000 in
theorem t_2087 : (Jvm.Cond.selects "MatchTreesModel" ({ cls := "MatchTreesModel", name := "safe", desc := "(II)I" } : Jvm.MethodName) ({ cls := "MatchTreesModel", name := "safe", desc := "(II)I" } : Jvm.MethodName)) ∈ WT := WT_of (sub_tables_1_9 _ (List.mem_of_getElem? (i := 38) (by decide +kernel))) (by decide +kernel)
set_option maxRecDepth 20000 in
theorem t_2088 : (Jvm.Cond.code ({ cls := "MatchTreesModel", name := "safe", desc := "(II)I" } : Jvm.MethodName) prog_14_method_113_code (3 : Nat) (Option.some Jvm.ClassFile.FieldType.int)) ∈ WT := WT_of (sub_tables_1_9 _ (List.mem_of_getElem? (i := 39) rfl)) (by decide +kernel)
set_option maxRecDepth 20000 in
theorem t_2089 : (Jvm.Cond.methodLink "MatchTreesModel" (614 : Nat) ({ cls := "MatchTreesModel", name := "isSafe", desc := "(II)Z" } : Jvm.MethodName)) ∈ WT := WT_of (sub_tables_1_9 _ (List.mem_of_getElem? (i := 40) (by decide +kernel))) (by decide +kernel)
set_option maxRecDepth 20000 in
theorem t_2091 : (Jvm.Cond.instanceMethod ({ cls := "MatchTreesModel", name := "isSafe", desc := "(II)Z" } : Jvm.MethodName)) ∈ WT := WT_of (sub_tables_1_9 _ (List.mem_of_getElem? (i := 42) (by decide +kernel))) (by decide +kernel)
set_option maxRecDepth 20000 in
theorem t_2092 : (Jvm.Cond.code ({ cls := "MatchTreesModel", name := "isSafe", desc := "(II)Z" } : Jvm.MethodName) prog_14_method_112_code (8 : Nat) (Option.some Jvm.ClassFile.FieldType.boolean)) ∈ WT := WT_of (sub_tables_1_9 _ (List.mem_of_getElem? (i := 43) rfl)) (by decide +kernel)
set_option maxRecDepth 20000 in
theorem t_2093 : (Jvm.Cond.methodLink "MatchTreesModel" (608 : Nat) ({ cls := "MatchTreesModel", name := "swapped", desc := "(III)I" } : Jvm.MethodName)) ∈ WT := WT_of (sub_tables_1_9 _ (List.mem_of_getElem? (i := 44) (by decide +kernel))) (by decide +kernel)
set_option maxRecDepth 20000 in
theorem t_2094 : (Jvm.Cond.static ({ cls := "MatchTreesModel", name := "swapped", desc := "(III)I" } : Jvm.MethodName)) ∈ WT := WT_of (sub_tables_1_9 _ (List.mem_of_getElem? (i := 45) (by decide +kernel))) (by decide +kernel)
set_option maxRecDepth 20000 in
theorem t_2095 : (Jvm.Cond.code ({ cls := "MatchTreesModel", name := "swapped", desc := "(III)I" } : Jvm.MethodName) prog_14_method_110_code (3 : Nat) (Option.some Jvm.ClassFile.FieldType.int)) ∈ WT := WT_of (sub_tables_1_9 _ (List.mem_of_getElem? (i := 46) rfl)) (by decide +kernel)
set_option maxRecDepth 20000 in
theorem t_2096 : (Jvm.Cond.methodLink "MatchTreesModel" (611 : Nat) ({ cls := "MatchTreesModel", name := "moved", desc := "(III)I" } : Jvm.MethodName)) ∈ WT := WT_of (sub_tables_1_9 _ (List.mem_of_getElem? (i := 47) (by decide +kernel))) (by decide +kernel)
set_option maxRecDepth 20000 in
theorem t_2097 : (Jvm.Cond.static ({ cls := "MatchTreesModel", name := "moved", desc := "(III)I" } : Jvm.MethodName)) ∈ WT := WT_of (sub_tables_1_9 _ (List.mem_of_getElem? (i := 48) (by decide +kernel))) (by decide +kernel)
set_option maxRecDepth 20000 in
theorem t_2098 : (Jvm.Cond.code ({ cls := "MatchTreesModel", name := "moved", desc := "(III)I" } : Jvm.MethodName) prog_14_method_111_code (3 : Nat) (Option.some Jvm.ClassFile.FieldType.int)) ∈ WT := WT_of (sub_tables_1_9 _ (List.mem_of_getElem? (i := 49) rfl)) (by decide +kernel)
set_option maxRecDepth 20000 in
theorem t_2099 : (Jvm.Cond.methodLink "MatchTreesLaw" (98 : Nat) ({ cls := "MatchTreesModel", name := "best", desc := "(I)I" } : Jvm.MethodName)) ∈ WT := WT_of (sub_tables_1_9 _ (List.mem_of_getElem? (i := 50) (by decide +kernel))) (by decide +kernel)
set_option maxRecDepth 20000 in
theorem t_2100 : (Jvm.Cond.instanceMethod ({ cls := "MatchTreesModel", name := "best", desc := "(I)I" } : Jvm.MethodName)) ∈ WT := WT_of (sub_tables_1_9 _ (List.mem_of_getElem? (i := 51) (by decide +kernel))) (by decide +kernel)
set_option maxRecDepth 20000 in
theorem t_2101 : (Jvm.Cond.selects "MatchTreesModel" ({ cls := "MatchTreesModel", name := "best", desc := "(I)I" } : Jvm.MethodName) ({ cls := "MatchTreesModel", name := "best", desc := "(I)I" } : Jvm.MethodName)) ∈ WT := WT_of (sub_tables_1_9 _ (List.mem_of_getElem? (i := 52) (by decide +kernel))) (by decide +kernel)
set_option maxRecDepth 20000 in
theorem t_2102 : (Jvm.Cond.code ({ cls := "MatchTreesModel", name := "best", desc := "(I)I" } : Jvm.MethodName) prog_14_method_115_code (6 : Nat) (Option.some Jvm.ClassFile.FieldType.int)) ∈ WT := WT_of (sub_tables_1_9 _ (List.mem_of_getElem? (i := 53) rfl)) (by decide +kernel)
set_option maxRecDepth 20000 in
theorem t_2103 : (Jvm.Cond.methodLink "MatchTreesModel" (618 : Nat) ({ cls := "MatchTreesModel", name := "exchanges", desc := "(III)V" } : Jvm.MethodName)) ∈ WT := WT_of (sub_tables_1_9 _ (List.mem_of_getElem? (i := 54) (by decide +kernel))) (by decide +kernel)
set_option maxRecDepth 20000 in
theorem t_2105 : (Jvm.Cond.instanceMethod ({ cls := "MatchTreesModel", name := "exchanges", desc := "(III)V" } : Jvm.MethodName)) ∈ WT := WT_of (sub_tables_1_9 _ (List.mem_of_getElem? (i := 56) (by decide +kernel))) (by decide +kernel)
set_option maxRecDepth 20000 in
theorem t_2106 : (Jvm.Cond.code ({ cls := "MatchTreesModel", name := "exchanges", desc := "(III)V" } : Jvm.MethodName) prog_14_method_114_code (5 : Nat) (Option.none : Option Jvm.ClassFile.FieldType)) ∈ WT := WT_of (sub_tables_1_9 _ (List.mem_of_getElem? (i := 57) rfl)) (by decide +kernel)
set_option maxRecDepth 20000 in
theorem t_2107 : (Jvm.Cond.methodLink "MatchTreesLaw" (102 : Nat) ({ cls := "MatchTreesModel", name := "see", desc := "()I" } : Jvm.MethodName)) ∈ WT := WT_of (sub_tables_1_9 _ (List.mem_of_getElem? (i := 58) (by decide +kernel))) (by decide +kernel)
set_option maxRecDepth 20000 in
theorem t_2108 : (Jvm.Cond.instanceMethod ({ cls := "MatchTreesModel", name := "see", desc := "()I" } : Jvm.MethodName)) ∈ WT := WT_of (sub_tables_1_9 _ (List.mem_of_getElem? (i := 59) (by decide +kernel))) (by decide +kernel)
set_option maxRecDepth 20000 in
theorem t_2109 : (Jvm.Cond.selects "MatchTreesModel" ({ cls := "MatchTreesModel", name := "see", desc := "()I" } : Jvm.MethodName) ({ cls := "MatchTreesModel", name := "see", desc := "()I" } : Jvm.MethodName)) ∈ WT := WT_of (sub_tables_1_9 _ (List.mem_of_getElem? (i := 60) (by decide +kernel))) (by decide +kernel)
set_option maxRecDepth 20000 in
theorem t_2110 : (Jvm.Cond.code ({ cls := "MatchTreesModel", name := "see", desc := "()I" } : Jvm.MethodName) prog_14_method_116_code (4 : Nat) (Option.some Jvm.ClassFile.FieldType.int)) ∈ WT := WT_of (sub_tables_1_9 _ (List.mem_of_getElem? (i := 61) rfl)) (by decide +kernel)
set_option maxRecDepth 20000 in
theorem t_2111 : (Jvm.Cond.methodLink "MatchTreesLaw" (106 : Nat) ({ cls := "MatchTreesModel", name := "sets", desc := "(I)I" } : Jvm.MethodName)) ∈ WT := WT_of (sub_tables_1_9 _ (List.mem_of_getElem? (i := 62) (by decide +kernel))) (by decide +kernel)
set_option maxRecDepth 20000 in
theorem t_2112 : (Jvm.Cond.instanceMethod ({ cls := "MatchTreesModel", name := "sets", desc := "(I)I" } : Jvm.MethodName)) ∈ WT := WT_of (sub_tables_1_9 _ (List.mem_of_getElem? (i := 63) (by decide +kernel))) (by decide +kernel)
set_option maxRecDepth 20000 in
theorem t_2113 : (Jvm.Cond.selects "MatchTreesModel" ({ cls := "MatchTreesModel", name := "sets", desc := "(I)I" } : Jvm.MethodName) ({ cls := "MatchTreesModel", name := "sets", desc := "(I)I" } : Jvm.MethodName)) ∈ WT := WT_of (sub_tables_1_9 _ (List.mem_of_getElem? (i := 64) (by decide +kernel))) (by decide +kernel)
set_option maxRecDepth 20000 in
theorem t_2114 : (Jvm.Cond.code ({ cls := "MatchTreesModel", name := "sets", desc := "(I)I" } : Jvm.MethodName) prog_14_method_118_code (5 : Nat) (Option.some Jvm.ClassFile.FieldType.int)) ∈ WT := WT_of (sub_tables_1_9 _ (List.mem_of_getElem? (i := 65) rfl)) (by decide +kernel)
set_option maxRecDepth 20000 in
theorem t_2115 : (Jvm.Cond.methodLink "MatchTreesModel" (621 : Nat) ({ cls := "MatchTreesModel", name := "leaves", desc := "()I" } : Jvm.MethodName)) ∈ WT := WT_of (sub_tables_1_9 _ (List.mem_of_getElem? (i := 66) (by decide +kernel))) (by decide +kernel)
set_option maxRecDepth 20000 in
theorem t_2117 : (Jvm.Cond.instanceMethod ({ cls := "MatchTreesModel", name := "leaves", desc := "()I" } : Jvm.MethodName)) ∈ WT := WT_of (sub_tables_1_9 _ (List.mem_of_getElem? (i := 68) (by decide +kernel))) (by decide +kernel)
set_option maxRecDepth 20000 in
theorem t_2118 : (Jvm.Cond.code ({ cls := "MatchTreesModel", name := "leaves", desc := "()I" } : Jvm.MethodName) prog_14_method_117_code (5 : Nat) (Option.some Jvm.ClassFile.FieldType.int)) ∈ WT := WT_of (sub_tables_1_9 _ (List.mem_of_getElem? (i := 69) rfl)) (by decide +kernel)
set_option maxRecDepth 20000 in
theorem t_2119 : (Jvm.Cond.methodLink "MatchTreesLaw" (110 : Nat) ({ cls := "MatchTreesModel", name := "tells", desc := "(I)I" } : Jvm.MethodName)) ∈ WT := WT_of (sub_tables_1_9 _ (List.mem_of_getElem? (i := 70) (by decide +kernel))) (by decide +kernel)
set_option maxRecDepth 20000 in
theorem t_2120 : (Jvm.Cond.instanceMethod ({ cls := "MatchTreesModel", name := "tells", desc := "(I)I" } : Jvm.MethodName)) ∈ WT := WT_of (sub_tables_1_9 _ (List.mem_of_getElem? (i := 71) (by decide +kernel))) (by decide +kernel)
set_option maxRecDepth 20000 in
theorem t_2121 : (Jvm.Cond.selects "MatchTreesModel" ({ cls := "MatchTreesModel", name := "tells", desc := "(I)I" } : Jvm.MethodName) ({ cls := "MatchTreesModel", name := "tells", desc := "(I)I" } : Jvm.MethodName)) ∈ WT := WT_of (sub_tables_1_9 _ (List.mem_of_getElem? (i := 72) (by decide +kernel))) (by decide +kernel)
set_option maxRecDepth 20000 in
theorem t_2122 : (Jvm.Cond.code ({ cls := "MatchTreesModel", name := "tells", desc := "(I)I" } : Jvm.MethodName) prog_14_method_120_code (7 : Nat) (Option.some Jvm.ClassFile.FieldType.int)) ∈ WT := WT_of (sub_tables_1_9 _ (List.mem_of_getElem? (i := 73) rfl)) (by decide +kernel)
set_option maxRecDepth 20000 in
theorem t_2123 : (Jvm.Cond.constant "MatchTreesModel" (624 : Nat) (100000000 : Int32)) ∈ WT := WT_of (sub_tables_1_9 _ (List.mem_of_getElem? (i := 74) (by decide +kernel))) (by decide +kernel)
set_option maxRecDepth 20000 in
theorem t_2124 : (Jvm.Cond.methodLink "MatchTreesModel" (625 : Nat) ({ cls := "MatchTreesModel", name := "mostBy", desc := "(I)I" } : Jvm.MethodName)) ∈ WT := WT_of (sub_tables_1_9 _ (List.mem_of_getElem? (i := 75) (by decide +kernel))) (by decide +kernel)
set_option maxRecDepth 20000 in
theorem t_2126 : (Jvm.Cond.instanceMethod ({ cls := "MatchTreesModel", name := "mostBy", desc := "(I)I" } : Jvm.MethodName)) ∈ WT := WT_of (sub_tables_1_9 _ (List.mem_of_getElem? (i := 77) (by decide +kernel))) (by decide +kernel)
set_option maxRecDepth 20000 in
theorem t_2127 : (Jvm.Cond.code ({ cls := "MatchTreesModel", name := "mostBy", desc := "(I)I" } : Jvm.MethodName) prog_14_method_119_code (6 : Nat) (Option.some Jvm.ClassFile.FieldType.int)) ∈ WT := WT_of (sub_tables_1_9 _ (List.mem_of_getElem? (i := 78) rfl)) (by decide +kernel)
set_option maxRecDepth 20000 in
theorem t_2128 : (Jvm.Cond.methodLink "MatchTreesLaw" (114 : Nat) ({ cls := "MatchTreesModel", name := "run", desc := "(I)I" } : Jvm.MethodName)) ∈ WT := WT_of (sub_tables_1_9 _ (List.mem_of_getElem? (i := 79) (by decide +kernel))) (by decide +kernel)
set_option maxRecDepth 20000 in
theorem t_2129 : (Jvm.Cond.instanceMethod ({ cls := "MatchTreesModel", name := "run", desc := "(I)I" } : Jvm.MethodName)) ∈ WT := WT_of (sub_tables_1_9 _ (List.mem_of_getElem? (i := 80) (by decide +kernel))) (by decide +kernel)
set_option maxRecDepth 20000 in
theorem t_2130 : (Jvm.Cond.selects "MatchTreesModel" ({ cls := "MatchTreesModel", name := "run", desc := "(I)I" } : Jvm.MethodName) ({ cls := "MatchTreesModel", name := "run", desc := "(I)I" } : Jvm.MethodName)) ∈ WT := WT_of (sub_tables_1_9 _ (List.mem_of_getElem? (i := 81) (by decide +kernel))) (by decide +kernel)
set_option maxRecDepth 20000 in
theorem t_2131 : (Jvm.Cond.code ({ cls := "MatchTreesModel", name := "run", desc := "(I)I" } : Jvm.MethodName) prog_14_method_122_code (2 : Nat) (Option.some Jvm.ClassFile.FieldType.int)) ∈ WT := WT_of (sub_tables_1_9 _ (List.mem_of_getElem? (i := 82) rfl)) (by decide +kernel)
set_option maxRecDepth 20000 in
theorem t_2132 : (Jvm.Cond.methodLink "MatchTreesModel" (628 : Nat) ({ cls := "MatchTreesModel", name := "keeps", desc := "()V" } : Jvm.MethodName)) ∈ WT := WT_of (sub_tables_1_9 _ (List.mem_of_getElem? (i := 83) (by decide +kernel))) (by decide +kernel)
set_option maxRecDepth 20000 in
theorem t_2134 : (Jvm.Cond.instanceMethod ({ cls := "MatchTreesModel", name := "keeps", desc := "()V" } : Jvm.MethodName)) ∈ WT := WT_of (sub_tables_1_9 _ (List.mem_of_getElem? (i := 85) (by decide +kernel))) (by decide +kernel)
set_option maxRecDepth 20000 in
theorem t_2135 : (Jvm.Cond.code ({ cls := "MatchTreesModel", name := "keeps", desc := "()V" } : Jvm.MethodName) prog_14_method_50_code (1 : Nat) (Option.none : Option Jvm.ClassFile.FieldType)) ∈ WT := WT_of (sub_tables_1_9 _ (List.mem_of_getElem? (i := 86) rfl)) (by decide +kernel)
set_option maxRecDepth 20000 in
theorem t_2136 : (Jvm.Cond.methodLink "MatchTreesModel" (631 : Nat) ({ cls := "MatchTreesModel", name := "runs", desc := "(I)I" } : Jvm.MethodName)) ∈ WT := WT_of (sub_tables_1_9 _ (List.mem_of_getElem? (i := 87) (by decide +kernel))) (by decide +kernel)
set_option maxRecDepth 20000 in
theorem t_2138 : (Jvm.Cond.instanceMethod ({ cls := "MatchTreesModel", name := "runs", desc := "(I)I" } : Jvm.MethodName)) ∈ WT := WT_of (sub_tables_1_9 _ (List.mem_of_getElem? (i := 89) (by decide +kernel))) (by decide +kernel)
set_option maxRecDepth 20000 in
theorem t_2139 : (Jvm.Cond.code ({ cls := "MatchTreesModel", name := "runs", desc := "(I)I" } : Jvm.MethodName) prog_14_method_121_code (6 : Nat) (Option.some Jvm.ClassFile.FieldType.int)) ∈ WT := WT_of (sub_tables_1_9 _ (List.mem_of_getElem? (i := 90) rfl)) (by decide +kernel)
set_option maxRecDepth 20000 in
theorem t_2140 : (Jvm.Cond.methodLink "MatchTreesLaw" (118 : Nat) ({ cls := "MatchTreesModel", name := "chance", desc := "(I)I" } : Jvm.MethodName)) ∈ WT := WT_of (sub_tables_1_9 _ (List.mem_of_getElem? (i := 91) (by decide +kernel))) (by decide +kernel)
set_option maxRecDepth 20000 in
theorem t_2141 : (Jvm.Cond.instanceMethod ({ cls := "MatchTreesModel", name := "chance", desc := "(I)I" } : Jvm.MethodName)) ∈ WT := WT_of (sub_tables_1_9 _ (List.mem_of_getElem? (i := 92) (by decide +kernel))) (by decide +kernel)
set_option maxRecDepth 20000 in
theorem t_2142 : (Jvm.Cond.selects "MatchTreesModel" ({ cls := "MatchTreesModel", name := "chance", desc := "(I)I" } : Jvm.MethodName) ({ cls := "MatchTreesModel", name := "chance", desc := "(I)I" } : Jvm.MethodName)) ∈ WT := WT_of (sub_tables_1_9 _ (List.mem_of_getElem? (i := 93) (by decide +kernel))) (by decide +kernel)
set_option maxRecDepth 20000 in
theorem t_2143 : (Jvm.Cond.code ({ cls := "MatchTreesModel", name := "chance", desc := "(I)I" } : Jvm.MethodName) prog_14_method_124_code (4 : Nat) (Option.some Jvm.ClassFile.FieldType.int)) ∈ WT := WT_of (sub_tables_1_9 _ (List.mem_of_getElem? (i := 94) rfl)) (by decide +kernel)
set_option maxRecDepth 20000 in
theorem t_2144 : (Jvm.Cond.methodLink "MatchTreesModel" (642 : Nat) ({ cls := "MatchTreesModel", name := "draw", desc := "(I)I" } : Jvm.MethodName)) ∈ WT := WT_of (sub_tables_1_9 _ (List.mem_of_getElem? (i := 95) (by decide +kernel))) (by decide +kernel)
set_option maxRecDepth 20000 in
theorem t_2146 : (Jvm.Cond.instanceMethod ({ cls := "MatchTreesModel", name := "draw", desc := "(I)I" } : Jvm.MethodName)) ∈ WT := WT_of (sub_tables_1_9 _ (List.mem_of_getElem? (i := 97) (by decide +kernel))) (by decide +kernel)
set_option maxRecDepth 20000 in
theorem t_2147 : (Jvm.Cond.code ({ cls := "MatchTreesModel", name := "draw", desc := "(I)I" } : Jvm.MethodName) prog_14_method_123_code (2 : Nat) (Option.some Jvm.ClassFile.FieldType.int)) ∈ WT := WT_of (sub_tables_1_9 _ (List.mem_of_getElem? (i := 98) rfl)) (by decide +kernel)
set_option maxRecDepth 20000 in
theorem t_2148 : (Jvm.Cond.constantLong "MatchTreesModel" (634 : Nat) (1103515245 : Int64)) ∈ WT := WT_of (sub_tables_1_9 _ (List.mem_of_getElem? (i := 99) (by decide +kernel))) (by decide +kernel)
set_option maxRecDepth 20000 in
theorem t_2149 : (Jvm.Cond.constantLong "MatchTreesModel" (636 : Nat) (12345 : Int64)) ∈ WT := WT_of (sub_tables_1_9 _ (List.mem_of_getElem? (i := 100) (by decide +kernel))) (by decide +kernel)
set_option maxRecDepth 20000 in
theorem t_2150 : (Jvm.Cond.constantLong "MatchTreesModel" (638 : Nat) (2147483648 : Int64)) ∈ WT := WT_of (sub_tables_1_9 _ (List.mem_of_getElem? (i := 101) (by decide +kernel))) (by decide +kernel)
set_option maxRecDepth 20000 in
theorem t_2151 : (Jvm.Cond.constantLong "MatchTreesModel" (640 : Nat) (64 : Int64)) ∈ WT := WT_of (sub_tables_1_9 _ (List.mem_of_getElem? (i := 102) (by decide +kernel))) (by decide +kernel)
set_option maxRecDepth 20000 in
theorem t_2152 : (Jvm.Cond.methodLink "MatchTreesLaw" (123 : Nat) ({ cls := "MatchTreesModel", name := "swap", desc := "(II)Z" } : Jvm.MethodName)) ∈ WT := WT_of (sub_tables_1_9 _ (List.mem_of_getElem? (i := 103) (by decide +kernel))) (by decide +kernel)
set_option maxRecDepth 20000 in
theorem t_2153 : (Jvm.Cond.instanceMethod ({ cls := "MatchTreesModel", name := "swap", desc := "(II)Z" } : Jvm.MethodName)) ∈ WT := WT_of (sub_tables_1_9 _ (List.mem_of_getElem? (i := 104) (by decide +kernel))) (by decide +kernel)
set_option maxRecDepth 20000 in
theorem t_2154 : (Jvm.Cond.selects "MatchTreesModel" ({ cls := "MatchTreesModel", name := "swap", desc := "(II)Z" } : Jvm.MethodName) ({ cls := "MatchTreesModel", name := "swap", desc := "(II)Z" } : Jvm.MethodName)) ∈ WT := WT_of (sub_tables_1_9 _ (List.mem_of_getElem? (i := 105) (by decide +kernel))) (by decide +kernel)
set_option maxRecDepth 20000 in
theorem t_2155 : (Jvm.Cond.code ({ cls := "MatchTreesModel", name := "swap", desc := "(II)Z" } : Jvm.MethodName) prog_14_method_125_code (3 : Nat) (Option.some Jvm.ClassFile.FieldType.boolean)) ∈ WT := WT_of (sub_tables_1_9 _ (List.mem_of_getElem? (i := 106) rfl)) (by decide +kernel)
set_option maxRecDepth 20000 in
theorem t_2156 : (Jvm.Cond.methodLink "MatchTreesLaw" (127 : Nat) ({ cls := "MatchTreesModel", name := "drop", desc := "(I)Z" } : Jvm.MethodName)) ∈ WT := WT_of (sub_tables_1_9 _ (List.mem_of_getElem? (i := 107) (by decide +kernel))) (by decide +kernel)
set_option maxRecDepth 20000 in
theorem t_2157 : (Jvm.Cond.instanceMethod ({ cls := "MatchTreesModel", name := "drop", desc := "(I)Z" } : Jvm.MethodName)) ∈ WT := WT_of (sub_tables_1_9 _ (List.mem_of_getElem? (i := 108) (by decide +kernel))) (by decide +kernel)
set_option maxRecDepth 20000 in
theorem t_2158 : (Jvm.Cond.selects "MatchTreesModel" ({ cls := "MatchTreesModel", name := "drop", desc := "(I)Z" } : Jvm.MethodName) ({ cls := "MatchTreesModel", name := "drop", desc := "(I)Z" } : Jvm.MethodName)) ∈ WT := WT_of (sub_tables_1_9 _ (List.mem_of_getElem? (i := 109) (by decide +kernel))) (by decide +kernel)
set_option maxRecDepth 20000 in
theorem t_2159 : (Jvm.Cond.code ({ cls := "MatchTreesModel", name := "drop", desc := "(I)Z" } : Jvm.MethodName) prog_14_method_126_code (3 : Nat) (Option.some Jvm.ClassFile.FieldType.boolean)) ∈ WT := WT_of (sub_tables_1_9 _ (List.mem_of_getElem? (i := 110) rfl)) (by decide +kernel)
set_option maxRecDepth 20000 in
theorem t_2160 : (Jvm.Cond.methodLink "MatchTreesLaw" (131 : Nat) ({ cls := "MatchTreesModel", name := "turn", desc := "(I)I" } : Jvm.MethodName)) ∈ WT := WT_of (sub_tables_1_9 _ (List.mem_of_getElem? (i := 111) (by decide +kernel))) (by decide +kernel)
set_option maxRecDepth 20000 in
theorem t_2161 : (Jvm.Cond.instanceMethod ({ cls := "MatchTreesModel", name := "turn", desc := "(I)I" } : Jvm.MethodName)) ∈ WT := WT_of (sub_tables_1_9 _ (List.mem_of_getElem? (i := 112) (by decide +kernel))) (by decide +kernel)
set_option maxRecDepth 20000 in
theorem t_2162 : (Jvm.Cond.selects "MatchTreesModel" ({ cls := "MatchTreesModel", name := "turn", desc := "(I)I" } : Jvm.MethodName) ({ cls := "MatchTreesModel", name := "turn", desc := "(I)I" } : Jvm.MethodName)) ∈ WT := WT_of (sub_tables_1_9 _ (List.mem_of_getElem? (i := 113) (by decide +kernel))) (by decide +kernel)
set_option maxRecDepth 20000 in
theorem t_2163 : (Jvm.Cond.code ({ cls := "MatchTreesModel", name := "turn", desc := "(I)I" } : Jvm.MethodName) prog_14_method_127_code (2 : Nat) (Option.some Jvm.ClassFile.FieldType.int)) ∈ WT := WT_of (sub_tables_1_9 _ (List.mem_of_getElem? (i := 114) rfl)) (by decide +kernel)
set_option maxRecDepth 20000 in
theorem t_2164 : (Jvm.Cond.methodLink "MatchTreesLaw" (135 : Nat) ({ cls := "MatchTreesModel", name := "choose", desc := "(I)Z" } : Jvm.MethodName)) ∈ WT := WT_of (sub_tables_1_9 _ (List.mem_of_getElem? (i := 115) (by decide +kernel))) (by decide +kernel)
set_option maxRecDepth 20000 in
theorem t_2165 : (Jvm.Cond.instanceMethod ({ cls := "MatchTreesModel", name := "choose", desc := "(I)Z" } : Jvm.MethodName)) ∈ WT := WT_of (sub_tables_1_9 _ (List.mem_of_getElem? (i := 116) (by decide +kernel))) (by decide +kernel)
set_option maxRecDepth 20000 in
theorem t_2166 : (Jvm.Cond.selects "MatchTreesModel" ({ cls := "MatchTreesModel", name := "choose", desc := "(I)Z" } : Jvm.MethodName) ({ cls := "MatchTreesModel", name := "choose", desc := "(I)Z" } : Jvm.MethodName)) ∈ WT := WT_of (sub_tables_1_9 _ (List.mem_of_getElem? (i := 117) (by decide +kernel))) (by decide +kernel)
set_option maxRecDepth 20000 in
theorem t_2167 : (Jvm.Cond.code ({ cls := "MatchTreesModel", name := "choose", desc := "(I)Z" } : Jvm.MethodName) prog_14_method_128_code (2 : Nat) (Option.some Jvm.ClassFile.FieldType.boolean)) ∈ WT := WT_of (sub_tables_1_9 _ (List.mem_of_getElem? (i := 118) rfl)) (by decide +kernel)
set_option maxRecDepth 20000 in
theorem t_2168 : (Jvm.Cond.methodLink "MatchTreesLaw" (144 : Nat) ({ cls := "MatchTreesModel", name := "seed", desc := "(I)Z" } : Jvm.MethodName)) ∈ WT := WT_of (sub_tables_1_9 _ (List.mem_of_getElem? (i := 119) (by decide +kernel))) (by decide +kernel)
set_option maxRecDepth 20000 in
theorem t_2169 : (Jvm.Cond.instanceMethod ({ cls := "MatchTreesModel", name := "seed", desc := "(I)Z" } : Jvm.MethodName)) ∈ WT := WT_of (sub_tables_1_9 _ (List.mem_of_getElem? (i := 120) (by decide +kernel))) (by decide +kernel)
set_option maxRecDepth 20000 in
theorem t_2170 : (Jvm.Cond.selects "MatchTreesModel" ({ cls := "MatchTreesModel", name := "seed", desc := "(I)Z" } : Jvm.MethodName) ({ cls := "MatchTreesModel", name := "seed", desc := "(I)Z" } : Jvm.MethodName)) ∈ WT := WT_of (sub_tables_1_9 _ (List.mem_of_getElem? (i := 121) (by decide +kernel))) (by decide +kernel)
set_option maxRecDepth 20000 in
theorem t_2171 : (Jvm.Cond.code ({ cls := "MatchTreesModel", name := "seed", desc := "(I)Z" } : Jvm.MethodName) prog_14_method_129_code (2 : Nat) (Option.some Jvm.ClassFile.FieldType.boolean)) ∈ WT := WT_of (sub_tables_1_9 _ (List.mem_of_getElem? (i := 122) rfl)) (by decide +kernel)
set_option maxRecDepth 20000 in
theorem t_2172 : (Jvm.Cond.methodLink "MatchTreesLaw" (148 : Nat) ({ cls := "MatchTreesModel", name := "kept", desc := "(II)I" } : Jvm.MethodName)) ∈ WT := WT_of (sub_tables_1_9 _ (List.mem_of_getElem? (i := 123) (by decide +kernel))) (by decide +kernel)
set_option maxRecDepth 20000 in
theorem t_2173 : (Jvm.Cond.instanceMethod ({ cls := "MatchTreesModel", name := "kept", desc := "(II)I" } : Jvm.MethodName)) ∈ WT := WT_of (sub_tables_1_9 _ (List.mem_of_getElem? (i := 124) (by decide +kernel))) (by decide +kernel)
set_option maxRecDepth 20000 in
theorem t_2174 : (Jvm.Cond.selects "MatchTreesModel" ({ cls := "MatchTreesModel", name := "kept", desc := "(II)I" } : Jvm.MethodName) ({ cls := "MatchTreesModel", name := "kept", desc := "(II)I" } : Jvm.MethodName)) ∈ WT := WT_of (sub_tables_1_9 _ (List.mem_of_getElem? (i := 125) (by decide +kernel))) (by decide +kernel)
set_option maxRecDepth 20000 in
theorem t_2175 : (Jvm.Cond.code ({ cls := "MatchTreesModel", name := "kept", desc := "(II)I" } : Jvm.MethodName) prog_14_method_130_code (3 : Nat) (Option.some Jvm.ClassFile.FieldType.int)) ∈ WT := WT_of (sub_tables_1_9 _ (List.mem_of_getElem? (i := 126) rfl)) (by decide +kernel)
set_option maxRecDepth 20000 in
theorem t_2176 : (Jvm.Cond.methodLink "MatchTreesLaw" (152 : Nat) ({ cls := "MatchTreesModel", name := "image", desc := "()I" } : Jvm.MethodName)) ∈ WT := WT_of (sub_tables_1_9 _ (List.mem_of_getElem? (i := 127) (by decide +kernel))) (by decide +kernel)
set_option maxRecDepth 20000 in
theorem t_2177 : (Jvm.Cond.instanceMethod ({ cls := "MatchTreesModel", name := "image", desc := "()I" } : Jvm.MethodName)) ∈ WT := WT_of (sub_tables_1_9 _ (List.mem_of_getElem? (i := 128) (by decide +kernel))) (by decide +kernel)
set_option maxRecDepth 20000 in
theorem t_2178 : (Jvm.Cond.selects "MatchTreesModel" ({ cls := "MatchTreesModel", name := "image", desc := "()I" } : Jvm.MethodName) ({ cls := "MatchTreesModel", name := "image", desc := "()I" } : Jvm.MethodName)) ∈ WT := WT_of (sub_tables_1_9 _ (List.mem_of_getElem? (i := 129) (by decide +kernel))) (by decide +kernel)
set_option maxRecDepth 20000 in
theorem t_2179 : (Jvm.Cond.code ({ cls := "MatchTreesModel", name := "image", desc := "()I" } : Jvm.MethodName) prog_14_method_131_code (3 : Nat) (Option.some Jvm.ClassFile.FieldType.int)) ∈ WT := WT_of (sub_tables_1_9 _ (List.mem_of_getElem? (i := 130) rfl)) (by decide +kernel)
set_option maxRecDepth 20000 in
theorem t_2180 : (Jvm.Cond.methodLink "MatchTreesLaw" (156 : Nat) ({ cls := "MatchTreesModel", name := "on", desc := "()Z" } : Jvm.MethodName)) ∈ WT := WT_of (sub_tables_1_9 _ (List.mem_of_getElem? (i := 131) (by decide +kernel))) (by decide +kernel)
set_option maxRecDepth 20000 in
theorem t_2181 : (Jvm.Cond.instanceMethod ({ cls := "MatchTreesModel", name := "on", desc := "()Z" } : Jvm.MethodName)) ∈ WT := WT_of (sub_tables_1_9 _ (List.mem_of_getElem? (i := 132) (by decide +kernel))) (by decide +kernel)
set_option maxRecDepth 20000 in
theorem t_2182 : (Jvm.Cond.selects "MatchTreesModel" ({ cls := "MatchTreesModel", name := "on", desc := "()Z" } : Jvm.MethodName) ({ cls := "MatchTreesModel", name := "on", desc := "()Z" } : Jvm.MethodName)) ∈ WT := WT_of (sub_tables_1_9 _ (List.mem_of_getElem? (i := 133) (by decide +kernel))) (by decide +kernel)
set_option maxRecDepth 20000 in
theorem t_2183 : (Jvm.Cond.code ({ cls := "MatchTreesModel", name := "on", desc := "()Z" } : Jvm.MethodName) prog_14_method_133_code (2 : Nat) (Option.some Jvm.ClassFile.FieldType.boolean)) ∈ WT := WT_of (sub_tables_1_9 _ (List.mem_of_getElem? (i := 134) rfl)) (by decide +kernel)
set_option maxRecDepth 20000 in
theorem t_2184 : (Jvm.Cond.methodLink "MatchTreesModel" (645 : Nat) ({ cls := "MatchTreesModel", name := "comesOn", desc := "(I)Z" } : Jvm.MethodName)) ∈ WT := WT_of (sub_tables_1_9 _ (List.mem_of_getElem? (i := 135) (by decide +kernel))) (by decide +kernel)
set_option maxRecDepth 20000 in
theorem t_2186 : (Jvm.Cond.instanceMethod ({ cls := "MatchTreesModel", name := "comesOn", desc := "(I)Z" } : Jvm.MethodName)) ∈ WT := WT_of (sub_tables_1_9 _ (List.mem_of_getElem? (i := 137) (by decide +kernel))) (by decide +kernel)
set_option maxRecDepth 20000 in
theorem t_2187 : (Jvm.Cond.code ({ cls := "MatchTreesModel", name := "comesOn", desc := "(I)Z" } : Jvm.MethodName) prog_14_method_132_code (6 : Nat) (Option.some Jvm.ClassFile.FieldType.boolean)) ∈ WT := WT_of (sub_tables_1_9 _ (List.mem_of_getElem? (i := 138) rfl)) (by decide +kernel)
set_option maxRecDepth 20000 in
theorem t_2188 : (Jvm.Cond.fieldLink "java/lang/String" (9 : Nat) "java/lang/String" "value" "[B") ∈ WT := WT_of (sub_tables_1_9 _ (List.mem_of_getElem? (i := 139) (by decide +kernel))) (by decide +kernel)
set_option maxRecDepth 20000 in
theorem t_2189 : (Jvm.Cond.fieldLink "java/lang/String" (15 : Nat) "java/lang/String" "coder" "B") ∈ WT := WT_of (sub_tables_1_9 _ (List.mem_of_getElem? (i := 140) (by decide +kernel))) (by decide +kernel)
end
section
theorem s_0 : Cond.selects "MatchTrees" ⟨"MatchTrees", "refuse", "(I)Z"⟩ ⟨"MatchTrees", "refuse", "(I)Z"⟩ ∈ WT := WT_of (List.mem_of_getElem? (i := 0) rfl) (by decide +kernel)
theorem s_1 : Cond.selects "MatchTrees$Reader" ⟨"MatchTrees$Reader", "begin", "(LMatchTrees$Bytes;)V"⟩ ⟨"MatchTrees$Reader", "begin", "(LMatchTrees$Bytes;)V"⟩ ∈ WT := WT_of (List.mem_of_getElem? (i := 1) rfl) (by decide +kernel)
theorem s_2 : Cond.selects "MatchTrees$Scanner" ⟨"MatchTrees$Scanner", "stepWord", "()V"⟩ ⟨"MatchTrees$Scanner", "stepWord", "()V"⟩ ∈ WT := WT_of (List.mem_of_getElem? (i := 2) rfl) (by decide +kernel)
theorem s_3 : Cond.selects "MatchTrees$Scanner" ⟨"MatchTrees$Scanner", "stepNumber", "()V"⟩ ⟨"MatchTrees$Scanner", "stepNumber", "()V"⟩ ∈ WT := WT_of (List.mem_of_getElem? (i := 3) rfl) (by decide +kernel)
theorem s_4 : Cond.selects "MatchTrees$Reader" ⟨"MatchTrees$Reader", "readKind", "()Z"⟩ ⟨"MatchTrees$Reader", "readKind", "()Z"⟩ ∈ WT := WT_of (List.mem_of_getElem? (i := 4) rfl) (by decide +kernel)
theorem s_5 : Cond.selects "MatchTrees$Reader" ⟨"MatchTrees$Reader", "failHere", "()Z"⟩ ⟨"MatchTrees$Reader", "failHere", "()Z"⟩ ∈ WT := WT_of (List.mem_of_getElem? (i := 5) rfl) (by decide +kernel)
theorem s_6 : Cond.selects "MatchTrees$Reader" ⟨"MatchTrees$Reader", "fail", "(II)Z"⟩ ⟨"MatchTrees$Reader", "fail", "(II)Z"⟩ ∈ WT := WT_of (List.mem_of_getElem? (i := 6) rfl) (by decide +kernel)
theorem s_7 : Cond.selects "MatchTrees$Reader" ⟨"MatchTrees$Reader", "isNewName", "()Z"⟩ ⟨"MatchTrees$Reader", "isNewName", "()Z"⟩ ∈ WT := WT_of (List.mem_of_getElem? (i := 7) rfl) (by decide +kernel)
theorem s_8 : Cond.selects "MatchTrees$Reader" ⟨"MatchTrees$Reader", "readCon", "()Z"⟩ ⟨"MatchTrees$Reader", "readCon", "()Z"⟩ ∈ WT := WT_of (List.mem_of_getElem? (i := 8) rfl) (by decide +kernel)
theorem s_9 : Cond.selects "MatchTrees$Reader" ⟨"MatchTrees$Reader", "isKindWord", "()Z"⟩ ⟨"MatchTrees$Reader", "isKindWord", "()Z"⟩ ∈ WT := WT_of (List.mem_of_getElem? (i := 9) rfl) (by decide +kernel)
theorem s_10 : Cond.selects "MatchTrees$Reader" ⟨"MatchTrees$Reader", "isKindHere", "(I)Z"⟩ ⟨"MatchTrees$Reader", "isKindHere", "(I)Z"⟩ ∈ WT := WT_of (List.mem_of_getElem? (i := 10) rfl) (by decide +kernel)
theorem s_11 : Cond.selects "MatchTrees$Reader" ⟨"MatchTrees$Reader", "kindHere", "()I"⟩ ⟨"MatchTrees$Reader", "kindHere", "()I"⟩ ∈ WT := WT_of (List.mem_of_getElem? (i := 11) rfl) (by decide +kernel)
theorem s_12 : Cond.selects "MatchTrees$Reader" ⟨"MatchTrees$Reader", "readColumns", "()Z"⟩ ⟨"MatchTrees$Reader", "readColumns", "()Z"⟩ ∈ WT := WT_of (List.mem_of_getElem? (i := 12) rfl) (by decide +kernel)
theorem s_13 : Cond.selects "MatchTrees$Reader" ⟨"MatchTrees$Reader", "readArm", "()Z"⟩ ⟨"MatchTrees$Reader", "readArm", "()Z"⟩ ∈ WT := WT_of (List.mem_of_getElem? (i := 13) rfl) (by decide +kernel)
theorem s_14 : Cond.selects "MatchTrees$Reader" ⟨"MatchTrees$Reader", "readSign", "(I)Z"⟩ ⟨"MatchTrees$Reader", "readSign", "(I)Z"⟩ ∈ WT := WT_of (List.mem_of_getElem? (i := 14) rfl) (by decide +kernel)
theorem s_15 : Cond.selects "MatchTrees$Reader" ⟨"MatchTrees$Reader", "readRange", "(I)Z"⟩ ⟨"MatchTrees$Reader", "readRange", "(I)Z"⟩ ∈ WT := WT_of (List.mem_of_getElem? (i := 15) rfl) (by decide +kernel)
theorem s_16 : Cond.selects "MatchTrees$Reader" ⟨"MatchTrees$Reader", "readNumber", "(II)I"⟩ ⟨"MatchTrees$Reader", "readNumber", "(II)I"⟩ ∈ WT := WT_of (List.mem_of_getElem? (i := 16) rfl) (by decide +kernel)
theorem s_17 : Cond.selects "MatchTrees$Reader" ⟨"MatchTrees$Reader", "readConName", "(I)I"⟩ ⟨"MatchTrees$Reader", "readConName", "(I)I"⟩ ∈ WT := WT_of (List.mem_of_getElem? (i := 17) rfl) (by decide +kernel)
theorem s_18 : Cond.selects "MatchTrees$Reader" ⟨"MatchTrees$Reader", "fillCase", "(III)V"⟩ ⟨"MatchTrees$Reader", "fillCase", "(III)V"⟩ ∈ WT := WT_of (List.mem_of_getElem? (i := 18) rfl) (by decide +kernel)
theorem s_19 : Cond.selects "MatchTrees$Reader" ⟨"MatchTrees$Reader", "readRule", "()Z"⟩ ⟨"MatchTrees$Reader", "readRule", "()Z"⟩ ∈ WT := WT_of (List.mem_of_getElem? (i := 19) rfl) (by decide +kernel)
theorem s_20 : Cond.selects "MatchTrees$Reader" ⟨"MatchTrees$Reader", "readBudget", "()Z"⟩ ⟨"MatchTrees$Reader", "readBudget", "()Z"⟩ ∈ WT := WT_of (List.mem_of_getElem? (i := 20) rfl) (by decide +kernel)
theorem s_21 : Cond.selects "MatchTrees" ⟨"MatchTrees", "startMatch", "()V"⟩ ⟨"MatchTrees", "startMatch", "()V"⟩ ∈ WT := WT_of (List.mem_of_getElem? (i := 21) rfl) (by decide +kernel)
theorem s_22 : Cond.selects "MatchTrees" ⟨"MatchTrees", "matched", "()Z"⟩ ⟨"MatchTrees", "matched", "()Z"⟩ ∈ WT := WT_of (List.mem_of_getElem? (i := 22) rfl) (by decide +kernel)
theorem s_23 : Cond.selects "MatchTrees" ⟨"MatchTrees", "isUseful", "(I)Z"⟩ ⟨"MatchTrees", "isUseful", "(I)Z"⟩ ∈ WT := WT_of (List.mem_of_getElem? (i := 23) rfl) (by decide +kernel)
theorem s_24 : Cond.selects "MatchTrees" ⟨"MatchTrees", "rowsFitting", "(I)I"⟩ ⟨"MatchTrees", "rowsFitting", "(I)I"⟩ ∈ WT := WT_of (List.mem_of_getElem? (i := 24) rfl) (by decide +kernel)
theorem s_25 : Cond.selects "MatchTrees" ⟨"MatchTrees", "rowsTaken", "(I)I"⟩ ⟨"MatchTrees", "rowsTaken", "(I)I"⟩ ∈ WT := WT_of (List.mem_of_getElem? (i := 25) rfl) (by decide +kernel)
theorem s_26 : Cond.selects "MatchTrees" ⟨"MatchTrees", "countMissing", "(I)I"⟩ ⟨"MatchTrees", "countMissing", "(I)I"⟩ ∈ WT := WT_of (List.mem_of_getElem? (i := 26) rfl) (by decide +kernel)
theorem s_27 : Cond.selects "MatchTrees" ⟨"MatchTrees", "findMissing", "(II)I"⟩ ⟨"MatchTrees", "findMissing", "(II)I"⟩ ∈ WT := WT_of (List.mem_of_getElem? (i := 27) rfl) (by decide +kernel)
theorem s_28 : Cond.selects "MatchTrees$Trees" ⟨"MatchTrees$Trees", "allColumns", "()I"⟩ ⟨"MatchTrees$Trees", "allColumns", "()I"⟩ ∈ WT := WT_of (List.mem_of_getElem? (i := 28) rfl) (by decide +kernel)
theorem s_29 : Cond.selects "MatchTrees$Trees" ⟨"MatchTrees$Trees", "columnAsked", "(II)I"⟩ ⟨"MatchTrees$Trees", "columnAsked", "(II)I"⟩ ∈ WT := WT_of (List.mem_of_getElem? (i := 29) rfl) (by decide +kernel)
theorem s_30 : Cond.selects "MatchTrees$Trees" ⟨"MatchTrees$Trees", "costOf", "(II)I"⟩ ⟨"MatchTrees$Trees", "costOf", "(II)I"⟩ ∈ WT := WT_of (List.mem_of_getElem? (i := 30) rfl) (by decide +kernel)
theorem s_31 : Cond.selects "MatchTrees$Trees" ⟨"MatchTrees$Trees", "notFullInRow", "(II)I"⟩ ⟨"MatchTrees$Trees", "notFullInRow", "(II)I"⟩ ∈ WT := WT_of (List.mem_of_getElem? (i := 31) rfl) (by decide +kernel)
theorem s_32 : Cond.selects "MatchTrees$Trees" ⟨"MatchTrees$Trees", "countBranches", "(II)I"⟩ ⟨"MatchTrees$Trees", "countBranches", "(II)I"⟩ ∈ WT := WT_of (List.mem_of_getElem? (i := 32) rfl) (by decide +kernel)
theorem s_33 : Cond.selects "MatchTrees$Trees" ⟨"MatchTrees$Trees", "mostArms", "(II)I"⟩ ⟨"MatchTrees$Trees", "mostArms", "(II)I"⟩ ∈ WT := WT_of (List.mem_of_getElem? (i := 33) rfl) (by decide +kernel)
theorem s_34 : Cond.selects "MatchTrees$Trees" ⟨"MatchTrees$Trees", "rowsOf", "(I)I"⟩ ⟨"MatchTrees$Trees", "rowsOf", "(I)I"⟩ ∈ WT := WT_of (List.mem_of_getElem? (i := 34) rfl) (by decide +kernel)
theorem s_35 : Cond.selects "MatchTrees$Trees" ⟨"MatchTrees$Trees", "split", "(III)LMatchTrees$Groups;"⟩ ⟨"MatchTrees$Trees", "split", "(III)LMatchTrees$Groups;"⟩ ∈ WT := WT_of (List.mem_of_getElem? (i := 35) rfl) (by decide +kernel)
theorem s_36 : Cond.selects "MatchTrees$Trees" ⟨"MatchTrees$Trees", "openScope", "()V"⟩ ⟨"MatchTrees$Trees", "openScope", "()V"⟩ ∈ WT := WT_of (List.mem_of_getElem? (i := 36) rfl) (by decide +kernel)
theorem s_37 : Cond.selects "MatchTrees$Trees" ⟨"MatchTrees$Trees", "shutScope", "(I)V"⟩ ⟨"MatchTrees$Trees", "shutScope", "(I)V"⟩ ∈ WT := WT_of (List.mem_of_getElem? (i := 37) rfl) (by decide +kernel)
theorem s_38 : Cond.selects "MatchTrees" ⟨"MatchTrees", "trialTakesAlike", "()Z"⟩ ⟨"MatchTrees", "trialTakesAlike", "()Z"⟩ ∈ WT := WT_of (List.mem_of_getElem? (i := 38) rfl) (by decide +kernel)
theorem s_39 : Cond.selects "MatchTrees" ⟨"MatchTrees", "allTests", "(LMatchTrees$Order;)I"⟩ ⟨"MatchTrees", "allTests", "(LMatchTrees$Order;)I"⟩ ∈ WT := WT_of (List.mem_of_getElem? (i := 39) rfl) (by decide +kernel)
theorem s_40 : Cond.selects "MatchTrees$Seen" ⟨"MatchTrees$Seen", "agrees", "(LMatchTrees$Table;LMatchTrees$Order;I)Z"⟩ ⟨"MatchTrees$Seen", "agrees", "(LMatchTrees$Table;LMatchTrees$Order;I)Z"⟩ ∈ WT := WT_of (List.mem_of_getElem? (i := 40) rfl) (by decide +kernel)
theorem s_41 : Cond.selects "MatchTrees" ⟨"MatchTrees", "remember", "()V"⟩ ⟨"MatchTrees", "remember", "()V"⟩ ∈ WT := WT_of (List.mem_of_getElem? (i := 41) rfl) (by decide +kernel)
theorem s_42 : Cond.selects "MatchTrees" ⟨"MatchTrees", "runRow", "(I)I"⟩ ⟨"MatchTrees", "runRow", "(I)I"⟩ ∈ WT := WT_of (List.mem_of_getElem? (i := 42) rfl) (by decide +kernel)
theorem s_43 : Cond.selects "MatchTrees" ⟨"MatchTrees", "draw", "(I)I"⟩ ⟨"MatchTrees", "draw", "(I)I"⟩ ∈ WT := WT_of (List.mem_of_getElem? (i := 43) rfl) (by decide +kernel)
theorem s_44 : Cond.selects "MatchTrees" ⟨"MatchTrees", "isImage", "()Z"⟩ ⟨"MatchTrees", "isImage", "()Z"⟩ ∈ WT := WT_of (List.mem_of_getElem? (i := 44) rfl) (by decide +kernel)
theorem s_45 : Cond.selects "MatchTrees" ⟨"MatchTrees", "takeImage", "()V"⟩ ⟨"MatchTrees", "takeImage", "()V"⟩ ∈ WT := WT_of (List.mem_of_getElem? (i := 45) rfl) (by decide +kernel)
theorem s_46 : Cond.selects "MatchTreesModel" ⟨"MatchTreesModel", "begin", "()V"⟩ ⟨"MatchTreesModel", "begin", "()V"⟩ ∈ WT := WT_of (List.mem_of_getElem? (i := 46) rfl) (by decide +kernel)
theorem s_47 : Cond.selects "MatchTreesModel" ⟨"MatchTreesModel", "refuses", "(I)I"⟩ ⟨"MatchTreesModel", "refuses", "(I)I"⟩ ∈ WT := WT_of (List.mem_of_getElem? (i := 47) rfl) (by decide +kernel)
theorem s_48 : Cond.selects "MatchTreesModel" ⟨"MatchTreesModel", "put", "(I)V"⟩ ⟨"MatchTreesModel", "put", "(I)V"⟩ ∈ WT := WT_of (List.mem_of_getElem? (i := 48) rfl) (by decide +kernel)
theorem s_49 : Cond.selects "MatchTreesModel" ⟨"MatchTreesModel", "ahead", "()V"⟩ ⟨"MatchTreesModel", "ahead", "()V"⟩ ∈ WT := WT_of (List.mem_of_getElem? (i := 49) rfl) (by decide +kernel)
theorem s_50 : Cond.selects "MatchTreesModel" ⟨"MatchTreesModel", "statement", "()V"⟩ ⟨"MatchTreesModel", "statement", "()V"⟩ ∈ WT := WT_of (List.mem_of_getElem? (i := 50) rfl) (by decide +kernel)
theorem s_51 : Cond.selects "MatchTreesModel" ⟨"MatchTreesModel", "lex", "()V"⟩ ⟨"MatchTreesModel", "lex", "()V"⟩ ∈ WT := WT_of (List.mem_of_getElem? (i := 51) rfl) (by decide +kernel)
theorem s_52 : Cond.selects "MatchTreesModel" ⟨"MatchTreesModel", "blame", "(II)V"⟩ ⟨"MatchTreesModel", "blame", "(II)V"⟩ ∈ WT := WT_of (List.mem_of_getElem? (i := 52) rfl) (by decide +kernel)
theorem s_53 : Cond.selects "MatchTreesModel" ⟨"MatchTreesModel", "isWord", "(J)Z"⟩ ⟨"MatchTreesModel", "isWord", "(J)Z"⟩ ∈ WT := WT_of (List.mem_of_getElem? (i := 53) rfl) (by decide +kernel)
theorem s_54 : Cond.selects "MatchTreesModel" ⟨"MatchTreesModel", "kindIs", "()V"⟩ ⟨"MatchTreesModel", "kindIs", "()V"⟩ ∈ WT := WT_of (List.mem_of_getElem? (i := 54) rfl) (by decide +kernel)
theorem s_55 : Cond.selects "MatchTreesModel" ⟨"MatchTreesModel", "isCounted", "(Z)Z"⟩ ⟨"MatchTreesModel", "isCounted", "(Z)Z"⟩ ∈ WT := WT_of (List.mem_of_getElem? (i := 55) rfl) (by decide +kernel)
theorem s_56 : Cond.selects "MatchTreesModel" ⟨"MatchTreesModel", "fresh", "()J"⟩ ⟨"MatchTreesModel", "fresh", "()J"⟩ ∈ WT := WT_of (List.mem_of_getElem? (i := 56) rfl) (by decide +kernel)
theorem s_57 : Cond.selects "MatchTreesModel" ⟨"MatchTreesModel", "isOwn", "(J)Z"⟩ ⟨"MatchTreesModel", "isOwn", "(J)Z"⟩ ∈ WT := WT_of (List.mem_of_getElem? (i := 57) rfl) (by decide +kernel)
theorem s_58 : Cond.selects "MatchTreesModel" ⟨"MatchTreesModel", "kindNamed", "(J)I"⟩ ⟨"MatchTreesModel", "kindNamed", "(J)I"⟩ ∈ WT := WT_of (List.mem_of_getElem? (i := 58) rfl) (by decide +kernel)
theorem s_59 : Cond.selects "MatchTreesModel" ⟨"MatchTreesModel", "conNamed", "(IJ)I"⟩ ⟨"MatchTreesModel", "conNamed", "(IJ)I"⟩ ∈ WT := WT_of (List.mem_of_getElem? (i := 59) rfl) (by decide +kernel)
theorem s_60 : Cond.selects "MatchTreesModel" ⟨"MatchTreesModel", "conIs", "()V"⟩ ⟨"MatchTreesModel", "conIs", "()V"⟩ ∈ WT := WT_of (List.mem_of_getElem? (i := 60) rfl) (by decide +kernel)
theorem s_61 : Cond.selects "MatchTreesModel" ⟨"MatchTreesModel", "isKindHere", "()Z"⟩ ⟨"MatchTreesModel", "isKindHere", "()Z"⟩ ∈ WT := WT_of (List.mem_of_getElem? (i := 61) rfl) (by decide +kernel)
theorem s_62 : Cond.selects "MatchTreesModel" ⟨"MatchTreesModel", "known", "(I)I"⟩ ⟨"MatchTreesModel", "known", "(I)I"⟩ ∈ WT := WT_of (List.mem_of_getElem? (i := 62) rfl) (by decide +kernel)
theorem s_63 : Cond.selects "MatchTreesModel" ⟨"MatchTreesModel", "valuesOf", "(II)I"⟩ ⟨"MatchTreesModel", "valuesOf", "(II)I"⟩ ∈ WT := WT_of (List.mem_of_getElem? (i := 63) rfl) (by decide +kernel)
theorem s_64 : Cond.selects "MatchTreesModel" ⟨"MatchTreesModel", "matchIs", "()V"⟩ ⟨"MatchTreesModel", "matchIs", "()V"⟩ ∈ WT := WT_of (List.mem_of_getElem? (i := 64) rfl) (by decide +kernel)
theorem s_65 : Cond.selects "MatchTreesModel" ⟨"MatchTreesModel", "armIs", "()V"⟩ ⟨"MatchTreesModel", "armIs", "()V"⟩ ∈ WT := WT_of (List.mem_of_getElem? (i := 65) rfl) (by decide +kernel)
theorem s_66 : Cond.selects "MatchTreesModel" ⟨"MatchTreesModel", "must", "(I)V"⟩ ⟨"MatchTreesModel", "must", "(I)V"⟩ ∈ WT := WT_of (List.mem_of_getElem? (i := 66) rfl) (by decide +kernel)
theorem s_67 : Cond.selects "MatchTreesModel" ⟨"MatchTreesModel", "isSign", "(I)Z"⟩ ⟨"MatchTreesModel", "isSign", "(I)Z"⟩ ∈ WT := WT_of (List.mem_of_getElem? (i := 67) rfl) (by decide +kernel)
theorem s_68 : Cond.selects "MatchTreesModel" ⟨"MatchTreesModel", "pattern", "(I)V"⟩ ⟨"MatchTreesModel", "pattern", "(I)V"⟩ ∈ WT := WT_of (List.mem_of_getElem? (i := 68) rfl) (by decide +kernel)
theorem s_69 : Cond.selects "MatchTreesModel" ⟨"MatchTreesModel", "opensPattern", "(I)V"⟩ ⟨"MatchTreesModel", "opensPattern", "(I)V"⟩ ∈ WT := WT_of (List.mem_of_getElem? (i := 69) rfl) (by decide +kernel)
theorem s_70 : Cond.selects "MatchTreesModel" ⟨"MatchTreesModel", "alternative", "()Z"⟩ ⟨"MatchTreesModel", "alternative", "()Z"⟩ ∈ WT := WT_of (List.mem_of_getElem? (i := 70) rfl) (by decide +kernel)
theorem s_71 : Cond.selects "MatchTreesModel" ⟨"MatchTreesModel", "emits", "(III)V"⟩ ⟨"MatchTreesModel", "emits", "(III)V"⟩ ∈ WT := WT_of (List.mem_of_getElem? (i := 71) rfl) (by decide +kernel)
theorem s_72 : Cond.selects "MatchTreesModel" ⟨"MatchTreesModel", "range", "()V"⟩ ⟨"MatchTreesModel", "range", "()V"⟩ ∈ WT := WT_of (List.mem_of_getElem? (i := 72) rfl) (by decide +kernel)
theorem s_73 : Cond.selects "MatchTreesModel" ⟨"MatchTreesModel", "number", "(II)I"⟩ ⟨"MatchTreesModel", "number", "(II)I"⟩ ∈ WT := WT_of (List.mem_of_getElem? (i := 73) rfl) (by decide +kernel)
theorem s_74 : Cond.selects "MatchTreesModel" ⟨"MatchTreesModel", "fieldBegins", "(II)V"⟩ ⟨"MatchTreesModel", "fieldBegins", "(II)V"⟩ ∈ WT := WT_of (List.mem_of_getElem? (i := 74) rfl) (by decide +kernel)
theorem s_75 : Cond.selects "MatchTreesModel" ⟨"MatchTreesModel", "goesOn", "(I)Z"⟩ ⟨"MatchTreesModel", "goesOn", "(I)Z"⟩ ∈ WT := WT_of (List.mem_of_getElem? (i := 75) rfl) (by decide +kernel)
theorem s_76 : Cond.selects "MatchTreesModel" ⟨"MatchTreesModel", "ruleIs", "()V"⟩ ⟨"MatchTreesModel", "ruleIs", "()V"⟩ ∈ WT := WT_of (List.mem_of_getElem? (i := 76) rfl) (by decide +kernel)
theorem s_77 : Cond.selects "MatchTreesModel" ⟨"MatchTreesModel", "budgetIs", "()V"⟩ ⟨"MatchTreesModel", "budgetIs", "()V"⟩ ∈ WT := WT_of (List.mem_of_getElem? (i := 77) rfl) (by decide +kernel)
theorem s_78 : Cond.selects "MatchTreesModel" ⟨"MatchTreesModel", "finishes", "(I)V"⟩ ⟨"MatchTreesModel", "finishes", "(I)V"⟩ ∈ WT := WT_of (List.mem_of_getElem? (i := 78) rfl) (by decide +kernel)
theorem s_79 : Cond.selects "MatchTreesModel" ⟨"MatchTreesModel", "lays", "()V"⟩ ⟨"MatchTreesModel", "lays", "()V"⟩ ∈ WT := WT_of (List.mem_of_getElem? (i := 79) rfl) (by decide +kernel)
theorem s_80 : Cond.selects "MatchTreesModel" ⟨"MatchTreesModel", "columns", "()I"⟩ ⟨"MatchTreesModel", "columns", "()I"⟩ ∈ WT := WT_of (List.mem_of_getElem? (i := 80) rfl) (by decide +kernel)
theorem s_81 : Cond.selects "MatchTreesModel" ⟨"MatchTreesModel", "columnValues", "(I)I"⟩ ⟨"MatchTreesModel", "columnValues", "(I)I"⟩ ∈ WT := WT_of (List.mem_of_getElem? (i := 81) rfl) (by decide +kernel)
theorem s_82 : Cond.selects "MatchTreesModel" ⟨"MatchTreesModel", "isFitting", "(III)Z"⟩ ⟨"MatchTreesModel", "isFitting", "(III)Z"⟩ ∈ WT := WT_of (List.mem_of_getElem? (i := 82) rfl) (by decide +kernel)
theorem s_83 : Cond.selects "MatchTreesModel" ⟨"MatchTreesModel", "fieldOf", "(III)I"⟩ ⟨"MatchTreesModel", "fieldOf", "(III)I"⟩ ∈ WT := WT_of (List.mem_of_getElem? (i := 83) rfl) (by decide +kernel)
theorem s_84 : Cond.selects "MatchTreesModel" ⟨"MatchTreesModel", "slot", "(I)I"⟩ ⟨"MatchTreesModel", "slot", "(I)I"⟩ ∈ WT := WT_of (List.mem_of_getElem? (i := 84) rfl) (by decide +kernel)
theorem s_85 : Cond.selects "MatchTreesModel" ⟨"MatchTreesModel", "copies", "(II)V"⟩ ⟨"MatchTreesModel", "copies", "(II)V"⟩ ∈ WT := WT_of (List.mem_of_getElem? (i := 85) rfl) (by decide +kernel)
theorem s_86 : Cond.selects "MatchTreesModel" ⟨"MatchTreesModel", "isPlace", "(I)Z"⟩ ⟨"MatchTreesModel", "isPlace", "(I)Z"⟩ ∈ WT := WT_of (List.mem_of_getElem? (i := 86) rfl) (by decide +kernel)
theorem s_87 : Cond.selects "MatchTreesModel" ⟨"MatchTreesModel", "arranges", "(I)V"⟩ ⟨"MatchTreesModel", "arranges", "(I)V"⟩ ∈ WT := WT_of (List.mem_of_getElem? (i := 87) rfl) (by decide +kernel)
theorem s_88 : Cond.selects "MatchTreesModel" ⟨"MatchTreesModel", "placed", "(II)I"⟩ ⟨"MatchTreesModel", "placed", "(II)I"⟩ ∈ WT := WT_of (List.mem_of_getElem? (i := 88) rfl) (by decide +kernel)
theorem s_89 : Cond.selects "MatchTreesModel" ⟨"MatchTreesModel", "countsRows", "()V"⟩ ⟨"MatchTreesModel", "countsRows", "()V"⟩ ∈ WT := WT_of (List.mem_of_getElem? (i := 89) rfl) (by decide +kernel)
theorem s_90 : Cond.selects "MatchTreesModel" ⟨"MatchTreesModel", "fitting", "(I)I"⟩ ⟨"MatchTreesModel", "fitting", "(I)I"⟩ ∈ WT := WT_of (List.mem_of_getElem? (i := 90) rfl) (by decide +kernel)
theorem s_91 : Cond.selects "MatchTreesModel" ⟨"MatchTreesModel", "valuesIn", "(I)V"⟩ ⟨"MatchTreesModel", "valuesIn", "(I)V"⟩ ∈ WT := WT_of (List.mem_of_getElem? (i := 91) rfl) (by decide +kernel)
theorem s_92 : Cond.selects "MatchTreesModel" ⟨"MatchTreesModel", "setIn", "(II)I"⟩ ⟨"MatchTreesModel", "setIn", "(II)I"⟩ ∈ WT := WT_of (List.mem_of_getElem? (i := 92) rfl) (by decide +kernel)
theorem s_93 : Cond.selects "MatchTreesModel" ⟨"MatchTreesModel", "isUseful", "(I)I"⟩ ⟨"MatchTreesModel", "isUseful", "(I)I"⟩ ∈ WT := WT_of (List.mem_of_getElem? (i := 93) rfl) (by decide +kernel)
theorem s_94 : Cond.selects "MatchTreesModel" ⟨"MatchTreesModel", "fittingRows", "(I)I"⟩ ⟨"MatchTreesModel", "fittingRows", "(I)I"⟩ ∈ WT := WT_of (List.mem_of_getElem? (i := 94) rfl) (by decide +kernel)
theorem s_95 : Cond.selects "MatchTreesModel" ⟨"MatchTreesModel", "takenRows", "(I)I"⟩ ⟨"MatchTreesModel", "takenRows", "(I)I"⟩ ∈ WT := WT_of (List.mem_of_getElem? (i := 95) rfl) (by decide +kernel)
theorem s_96 : Cond.selects "MatchTreesModel" ⟨"MatchTreesModel", "openBy", "(I)I"⟩ ⟨"MatchTreesModel", "openBy", "(I)I"⟩ ∈ WT := WT_of (List.mem_of_getElem? (i := 96) rfl) (by decide +kernel)
theorem s_97 : Cond.selects "MatchTreesModel" ⟨"MatchTreesModel", "isRow", "(I)Z"⟩ ⟨"MatchTreesModel", "isRow", "(I)Z"⟩ ∈ WT := WT_of (List.mem_of_getElem? (i := 97) rfl) (by decide +kernel)
theorem s_98 : Cond.selects "MatchTreesModel" ⟨"MatchTreesModel", "valueRead", "(I)I"⟩ ⟨"MatchTreesModel", "valueRead", "(I)I"⟩ ∈ WT := WT_of (List.mem_of_getElem? (i := 98) rfl) (by decide +kernel)
theorem s_99 : Cond.selects "MatchTreesModel" ⟨"MatchTreesModel", "isMoreOf", "(I)Z"⟩ ⟨"MatchTreesModel", "isMoreOf", "(I)Z"⟩ ∈ WT := WT_of (List.mem_of_getElem? (i := 99) rfl) (by decide +kernel)
theorem s_100 : Cond.selects "MatchTreesModel" ⟨"MatchTreesModel", "conRead", "(I)I"⟩ ⟨"MatchTreesModel", "conRead", "(I)I"⟩ ∈ WT := WT_of (List.mem_of_getElem? (i := 100) rfl) (by decide +kernel)
theorem s_101 : Cond.selects "MatchTreesModel" ⟨"MatchTreesModel", "later", "(II)V"⟩ ⟨"MatchTreesModel", "later", "(II)V"⟩ ∈ WT := WT_of (List.mem_of_getElem? (i := 101) rfl) (by decide +kernel)
theorem s_102 : Cond.selects "MatchTreesModel" ⟨"MatchTreesModel", "writes", "(I)V"⟩ ⟨"MatchTreesModel", "writes", "(I)V"⟩ ∈ WT := WT_of (List.mem_of_getElem? (i := 102) rfl) (by decide +kernel)
theorem s_103 : Cond.selects "MatchTreesModel" ⟨"MatchTreesModel", "writesValue", "(II)V"⟩ ⟨"MatchTreesModel", "writesValue", "(II)V"⟩ ∈ WT := WT_of (List.mem_of_getElem? (i := 103) rfl) (by decide +kernel)
theorem s_104 : Cond.selects "MatchTreesModel" ⟨"MatchTreesModel", "conOf", "(II)I"⟩ ⟨"MatchTreesModel", "conOf", "(II)I"⟩ ∈ WT := WT_of (List.mem_of_getElem? (i := 104) rfl) (by decide +kernel)
theorem s_105 : Cond.selects "MatchTreesModel" ⟨"MatchTreesModel", "writesName", "(J)V"⟩ ⟨"MatchTreesModel", "writesName", "(J)V"⟩ ∈ WT := WT_of (List.mem_of_getElem? (i := 105) rfl) (by decide +kernel)
theorem s_106 : Cond.selects "MatchTreesModel" ⟨"MatchTreesModel", "plants", "(II)V"⟩ ⟨"MatchTreesModel", "plants", "(II)V"⟩ ∈ WT := WT_of (List.mem_of_getElem? (i := 106) rfl) (by decide +kernel)
theorem s_107 : Cond.selects "MatchTreesModel" ⟨"MatchTreesModel", "allTests", "(I)I"⟩ ⟨"MatchTreesModel", "allTests", "(I)I"⟩ ∈ WT := WT_of (List.mem_of_getElem? (i := 107) rfl) (by decide +kernel)
theorem s_108 : Cond.selects "MatchTreesModel" ⟨"MatchTreesModel", "testsFor", "(II)I"⟩ ⟨"MatchTreesModel", "testsFor", "(II)I"⟩ ∈ WT := WT_of (List.mem_of_getElem? (i := 108) rfl) (by decide +kernel)
theorem s_109 : Cond.selects "MatchTreesModel" ⟨"MatchTreesModel", "root", "()I"⟩ ⟨"MatchTreesModel", "root", "()I"⟩ ∈ WT := WT_of (List.mem_of_getElem? (i := 109) rfl) (by decide +kernel)
theorem s_110 : Cond.selects "MatchTreesModel" ⟨"MatchTreesModel", "asksFor", "(I)I"⟩ ⟨"MatchTreesModel", "asksFor", "(I)I"⟩ ∈ WT := WT_of (List.mem_of_getElem? (i := 110) rfl) (by decide +kernel)
theorem s_111 : Cond.selects "MatchTreesModel" ⟨"MatchTreesModel", "worthOf", "(II)I"⟩ ⟨"MatchTreesModel", "worthOf", "(II)I"⟩ ∈ WT := WT_of (List.mem_of_getElem? (i := 111) rfl) (by decide +kernel)
theorem s_112 : Cond.selects "MatchTreesModel" ⟨"MatchTreesModel", "branchOf", "(III)I"⟩ ⟨"MatchTreesModel", "branchOf", "(III)I"⟩ ∈ WT := WT_of (List.mem_of_getElem? (i := 112) rfl) (by decide +kernel)
theorem s_113 : Cond.selects "MatchTreesModel" ⟨"MatchTreesModel", "grows", "()V"⟩ ⟨"MatchTreesModel", "grows", "()V"⟩ ∈ WT := WT_of (List.mem_of_getElem? (i := 113) rfl) (by decide +kernel)
theorem s_114 : Cond.selects "MatchTreesModel" ⟨"MatchTreesModel", "reaches", "(I)V"⟩ ⟨"MatchTreesModel", "reaches", "(I)V"⟩ ∈ WT := WT_of (List.mem_of_getElem? (i := 114) rfl) (by decide +kernel)
theorem s_115 : Cond.selects "MatchTreesModel" ⟨"MatchTreesModel", "isDoor", "(I)Z"⟩ ⟨"MatchTreesModel", "isDoor", "(I)Z"⟩ ∈ WT := WT_of (List.mem_of_getElem? (i := 115) rfl) (by decide +kernel)
theorem s_116 : Cond.selects "MatchTreesModel" ⟨"MatchTreesModel", "weighs", "(I)V"⟩ ⟨"MatchTreesModel", "weighs", "(I)V"⟩ ∈ WT := WT_of (List.mem_of_getElem? (i := 116) rfl) (by decide +kernel)
theorem s_117 : Cond.selects "MatchTreesModel" ⟨"MatchTreesModel", "builds", "()V"⟩ ⟨"MatchTreesModel", "builds", "()V"⟩ ∈ WT := WT_of (List.mem_of_getElem? (i := 117) rfl) (by decide +kernel)
theorem s_118 : Cond.selects "MatchTreesModel" ⟨"MatchTreesModel", "opensScope", "(II)V"⟩ ⟨"MatchTreesModel", "opensScope", "(II)V"⟩ ∈ WT := WT_of (List.mem_of_getElem? (i := 118) rfl) (by decide +kernel)
theorem s_119 : Cond.selects "MatchTreesModel" ⟨"MatchTreesModel", "nextBranch", "(I)I"⟩ ⟨"MatchTreesModel", "nextBranch", "(I)I"⟩ ∈ WT := WT_of (List.mem_of_getElem? (i := 119) rfl) (by decide +kernel)
theorem s_120 : Cond.selects "MatchTreesModel" ⟨"MatchTreesModel", "isNewSet", "(III)Z"⟩ ⟨"MatchTreesModel", "isNewSet", "(III)Z"⟩ ∈ WT := WT_of (List.mem_of_getElem? (i := 120) rfl) (by decide +kernel)
theorem s_121 : Cond.selects "MatchTreesModel" ⟨"MatchTreesModel", "isSafe", "(II)Z"⟩ ⟨"MatchTreesModel", "isSafe", "(II)Z"⟩ ∈ WT := WT_of (List.mem_of_getElem? (i := 121) rfl) (by decide +kernel)
theorem s_122 : Cond.selects "MatchTreesModel" ⟨"MatchTreesModel", "exchanges", "(III)V"⟩ ⟨"MatchTreesModel", "exchanges", "(III)V"⟩ ∈ WT := WT_of (List.mem_of_getElem? (i := 122) rfl) (by decide +kernel)
theorem s_123 : Cond.selects "MatchTreesModel" ⟨"MatchTreesModel", "leaves", "()I"⟩ ⟨"MatchTreesModel", "leaves", "()I"⟩ ∈ WT := WT_of (List.mem_of_getElem? (i := 123) rfl) (by decide +kernel)
theorem s_124 : Cond.selects "MatchTreesModel" ⟨"MatchTreesModel", "mostBy", "(I)I"⟩ ⟨"MatchTreesModel", "mostBy", "(I)I"⟩ ∈ WT := WT_of (List.mem_of_getElem? (i := 124) rfl) (by decide +kernel)
theorem s_125 : Cond.selects "MatchTreesModel" ⟨"MatchTreesModel", "keeps", "()V"⟩ ⟨"MatchTreesModel", "keeps", "()V"⟩ ∈ WT := WT_of (List.mem_of_getElem? (i := 125) rfl) (by decide +kernel)
theorem s_126 : Cond.selects "MatchTreesModel" ⟨"MatchTreesModel", "runs", "(I)I"⟩ ⟨"MatchTreesModel", "runs", "(I)I"⟩ ∈ WT := WT_of (List.mem_of_getElem? (i := 126) rfl) (by decide +kernel)
theorem s_127 : Cond.selects "MatchTreesModel" ⟨"MatchTreesModel", "draw", "(I)I"⟩ ⟨"MatchTreesModel", "draw", "(I)I"⟩ ∈ WT := WT_of (List.mem_of_getElem? (i := 127) rfl) (by decide +kernel)
theorem s_128 : Cond.selects "MatchTreesModel" ⟨"MatchTreesModel", "comesOn", "(I)Z"⟩ ⟨"MatchTreesModel", "comesOn", "(I)Z"⟩ ∈ WT := WT_of (List.mem_of_getElem? (i := 128) rfl) (by decide +kernel)
end
