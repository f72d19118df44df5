set_option maxRecDepth 20000 in
theorem t_1962 : (Jvm.Cond.methodLink "MatchTreesModel" (522 : Nat) ({ cls := "MatchTreesModel", name := "conRead", desc := "(I)I" } : Jvm.MethodName)) ∈ WT := WT_of (sub_tables_1_8 _ (List.mem_of_getElem? (i := 153) (by decide +kernel))) (by decide +kernel)
set_option maxRecDepth 20000 in
theorem t_1964 : (Jvm.Cond.instanceMethod ({ cls := "MatchTreesModel", name := "conRead", desc := "(I)I" } : Jvm.MethodName)) ∈ WT := WT_of (sub_tables_1_8 _ (List.mem_of_getElem? (i := 155) (by decide +kernel))) (by decide +kernel)
set_option maxRecDepth 20000 in
theorem t_1965 : (Jvm.Cond.code ({ cls := "MatchTreesModel", name := "conRead", desc := "(I)I" } : Jvm.MethodName) prog_14_method_76_code (3 : Nat) (Option.some Jvm.ClassFile.FieldType.int)) ∈ WT := WT_of (sub_tables_1_8 _ (List.mem_of_getElem? (i := 156) rfl)) (by decide +kernel)
set_option maxRecDepth 20000 in
theorem t_1966 : (Jvm.Cond.methodLink "MatchTreesLaw" (74 : Nat) ({ cls := "MatchTreesModel", name := "text", desc := "(I)I" } : Jvm.MethodName)) ∈ WT := WT_of (sub_tables_1_8 _ (List.mem_of_getElem? (i := 157) (by decide +kernel))) (by decide +kernel)
set_option maxRecDepth 20000 in
theorem t_1967 : (Jvm.Cond.instanceMethod ({ cls := "MatchTreesModel", name := "text", desc := "(I)I" } : Jvm.MethodName)) ∈ WT := WT_of (sub_tables_1_8 _ (List.mem_of_getElem? (i := 158) (by decide +kernel))) (by decide +kernel)
set_option maxRecDepth 20000 in
theorem t_1968 : (Jvm.Cond.selects "MatchTreesModel" ({ cls := "MatchTreesModel", name := "text", desc := "(I)I" } : Jvm.MethodName) ({ cls := "MatchTreesModel", name := "text", desc := "(I)I" } : Jvm.MethodName)) ∈ WT := WT_of (sub_tables_1_8 _ (List.mem_of_getElem? (i := 159) (by decide +kernel))) (by decide +kernel)
set_option maxRecDepth 20000 in
theorem t_1969 : (Jvm.Cond.code ({ cls := "MatchTreesModel", name := "text", desc := "(I)I" } : Jvm.MethodName) prog_14_method_84_code (4 : Nat) (Option.some Jvm.ClassFile.FieldType.int)) ∈ WT := WT_of (sub_tables_1_8 _ (List.mem_of_getElem? (i := 160) rfl)) (by decide +kernel)
set_option maxRecDepth 20000 in
theorem t_1970 : (Jvm.Cond.methodLink "MatchTreesModel" (538 : Nat) ({ cls := "MatchTreesModel", name := "later", desc := "(II)V" } : Jvm.MethodName)) ∈ WT := WT_of (sub_tables_1_8 _ (List.mem_of_getElem? (i := 161) (by decide +kernel))) (by decide +kernel)
set_option maxRecDepth 20000 in
theorem t_1972 : (Jvm.Cond.instanceMethod ({ cls := "MatchTreesModel", name := "later", desc := "(II)V" } : Jvm.MethodName)) ∈ WT := WT_of (sub_tables_1_8 _ (List.mem_of_getElem? (i := 163) (by decide +kernel))) (by decide +kernel)
set_option maxRecDepth 20000 in
theorem t_1973 : (Jvm.Cond.code ({ cls := "MatchTreesModel", name := "later", desc := "(II)V" } : Jvm.MethodName) prog_14_method_81_code (3 : Nat) (Option.none : Option Jvm.ClassFile.FieldType)) ∈ WT := WT_of (sub_tables_1_8 _ (List.mem_of_getElem? (i := 164) rfl)) (by decide +kernel)
set_option maxRecDepth 20000 in
theorem t_1974 : (Jvm.Cond.methodLink "MatchTreesModel" (528 : Nat) ({ cls := "MatchTreesModel", name := "writes", desc := "(I)V" } : Jvm.MethodName)) ∈ WT := WT_of (sub_tables_1_8 _ (List.mem_of_getElem? (i := 165) (by decide +kernel))) (by decide +kernel)
set_option maxRecDepth 20000 in
theorem t_1976 : (Jvm.Cond.instanceMethod ({ cls := "MatchTreesModel", name := "writes", desc := "(I)V" } : Jvm.MethodName)) ∈ WT := WT_of (sub_tables_1_8 _ (List.mem_of_getElem? (i := 167) (by decide +kernel))) (by decide +kernel)
set_option maxRecDepth 20000 in
theorem t_1977 : (Jvm.Cond.code ({ cls := "MatchTreesModel", name := "writes", desc := "(I)V" } : Jvm.MethodName) prog_14_method_79_code (2 : Nat) (Option.none : Option Jvm.ClassFile.FieldType)) ∈ WT := WT_of (sub_tables_1_8 _ (List.mem_of_getElem? (i := 168) rfl)) (by decide +kernel)
set_option maxRecDepth 20000 in
theorem t_1978 : (Jvm.Cond.methodLink "MatchTreesModel" (541 : Nat) ({ cls := "MatchTreesModel", name := "writesValue", desc := "(II)V" } : Jvm.MethodName)) ∈ WT := WT_of (sub_tables_1_8 _ (List.mem_of_getElem? (i := 169) (by decide +kernel))) (by decide +kernel)
set_option maxRecDepth 20000 in
theorem t_1980 : (Jvm.Cond.instanceMethod ({ cls := "MatchTreesModel", name := "writesValue", desc := "(II)V" } : Jvm.MethodName)) ∈ WT := WT_of (sub_tables_1_8 _ (List.mem_of_getElem? (i := 171) (by decide +kernel))) (by decide +kernel)
set_option maxRecDepth 20000 in
theorem t_1981 : (Jvm.Cond.code ({ cls := "MatchTreesModel", name := "writesValue", desc := "(II)V" } : Jvm.MethodName) prog_14_method_83_code (6 : Nat) (Option.none : Option Jvm.ClassFile.FieldType)) ∈ WT := WT_of (sub_tables_1_8 _ (List.mem_of_getElem? (i := 172) rfl)) (by decide +kernel)
set_option maxRecDepth 20000 in
theorem t_1982 : (Jvm.Cond.methodLink "MatchTreesModel" (531 : Nat) ({ cls := "MatchTreesModel", name := "conOf", desc := "(II)I" } : Jvm.MethodName)) ∈ WT := WT_of (sub_tables_1_8 _ (List.mem_of_getElem? (i := 173) (by decide +kernel))) (by decide +kernel)
set_option maxRecDepth 20000 in
theorem t_1984 : (Jvm.Cond.instanceMethod ({ cls := "MatchTreesModel", name := "conOf", desc := "(II)I" } : Jvm.MethodName)) ∈ WT := WT_of (sub_tables_1_8 _ (List.mem_of_getElem? (i := 175) (by decide +kernel))) (by decide +kernel)
set_option maxRecDepth 20000 in
theorem t_1985 : (Jvm.Cond.code ({ cls := "MatchTreesModel", name := "conOf", desc := "(II)I" } : Jvm.MethodName) prog_14_method_82_code (5 : Nat) (Option.some Jvm.ClassFile.FieldType.int)) ∈ WT := WT_of (sub_tables_1_8 _ (List.mem_of_getElem? (i := 176) rfl)) (by decide +kernel)
set_option maxRecDepth 20000 in
theorem t_1986 : (Jvm.Cond.methodLink "MatchTreesModel" (534 : Nat) ({ cls := "MatchTreesModel", name := "writesName", desc := "(J)V" } : Jvm.MethodName)) ∈ WT := WT_of (sub_tables_1_8 _ (List.mem_of_getElem? (i := 177) (by decide +kernel))) (by decide +kernel)
set_option maxRecDepth 20000 in
theorem t_1988 : (Jvm.Cond.instanceMethod ({ cls := "MatchTreesModel", name := "writesName", desc := "(J)V" } : Jvm.MethodName)) ∈ WT := WT_of (sub_tables_1_8 _ (List.mem_of_getElem? (i := 179) (by decide +kernel))) (by decide +kernel)
set_option maxRecDepth 20000 in
theorem t_1989 : (Jvm.Cond.code ({ cls := "MatchTreesModel", name := "writesName", desc := "(J)V" } : Jvm.MethodName) prog_14_method_80_code (4 : Nat) (Option.none : Option Jvm.ClassFile.FieldType)) ∈ WT := WT_of (sub_tables_1_8 _ (List.mem_of_getElem? (i := 180) rfl)) (by decide +kernel)
set_option maxRecDepth 20000 in
theorem t_1990 : (Jvm.Cond.methodLink "MatchTreesLaw" (78 : Nat) ({ cls := "MatchTreesModel", name := "octet", desc := "(I)I" } : Jvm.MethodName)) ∈ WT := WT_of (sub_tables_1_8 _ (List.mem_of_getElem? (i := 181) (by decide +kernel))) (by decide +kernel)
set_option maxRecDepth 20000 in
theorem t_1991 : (Jvm.Cond.instanceMethod ({ cls := "MatchTreesModel", name := "octet", desc := "(I)I" } : Jvm.MethodName)) ∈ WT := WT_of (sub_tables_1_8 _ (List.mem_of_getElem? (i := 182) (by decide +kernel))) (by decide +kernel)
set_option maxRecDepth 20000 in
theorem t_1992 : (Jvm.Cond.selects "MatchTreesModel" ({ cls := "MatchTreesModel", name := "octet", desc := "(I)I" } : Jvm.MethodName) ({ cls := "MatchTreesModel", name := "octet", desc := "(I)I" } : Jvm.MethodName)) ∈ WT := WT_of (sub_tables_1_8 _ (List.mem_of_getElem? (i := 183) (by decide +kernel))) (by decide +kernel)
set_option maxRecDepth 20000 in
theorem t_1993 : (Jvm.Cond.code ({ cls := "MatchTreesModel", name := "octet", desc := "(I)I" } : Jvm.MethodName) prog_14_method_85_code (2 : Nat) (Option.some Jvm.ClassFile.FieldType.int)) ∈ WT := WT_of (sub_tables_1_8 _ (List.mem_of_getElem? (i := 184) rfl)) (by decide +kernel)
set_option maxRecDepth 20000 in
theorem t_1994 : (Jvm.Cond.methodLink "MatchTreesLaw" (82 : Nat) ({ cls := "MatchTreesModel", name := "tree", desc := "(II)I" } : Jvm.MethodName)) ∈ WT := WT_of (sub_tables_1_8 _ (List.mem_of_getElem? (i := 185) (by decide +kernel))) (by decide +kernel)
set_option maxRecDepth 20000 in
theorem t_1995 : (Jvm.Cond.instanceMethod ({ cls := "MatchTreesModel", name := "tree", desc := "(II)I" } : Jvm.MethodName)) ∈ WT := WT_of (sub_tables_1_8 _ (List.mem_of_getElem? (i := 186) (by decide +kernel))) (by decide +kernel)
set_option maxRecDepth 20000 in
theorem t_1996 : (Jvm.Cond.selects "MatchTreesModel" ({ cls := "MatchTreesModel", name := "tree", desc := "(II)I" } : Jvm.MethodName) ({ cls := "MatchTreesModel", name := "tree", desc := "(II)I" } : Jvm.MethodName)) ∈ WT := WT_of (sub_tables_1_8 _ (List.mem_of_getElem? (i := 187) (by decide +kernel))) (by decide +kernel)
set_option maxRecDepth 20000 in
theorem t_1997 : (Jvm.Cond.code ({ cls := "MatchTreesModel", name := "tree", desc := "(II)I" } : Jvm.MethodName) prog_14_method_103_code (5 : Nat) (Option.some Jvm.ClassFile.FieldType.int)) ∈ WT := WT_of (sub_tables_1_8 _ (List.mem_of_getElem? (i := 188) rfl)) (by decide +kernel)
set_option maxRecDepth 20000 in
theorem t_1998 : (Jvm.Cond.methodLink "MatchTreesModel" (581 : Nat) ({ cls := "MatchTreesModel", name := "plants", desc := "(II)V" } : Jvm.MethodName)) ∈ WT := WT_of (sub_tables_1_8 _ (List.mem_of_getElem? (i := 189) (by decide +kernel))) (by decide +kernel)
set_option maxRecDepth 20000 in
theorem t_2000 : (Jvm.Cond.instanceMethod ({ cls := "MatchTreesModel", name := "plants", desc := "(II)V" } : Jvm.MethodName)) ∈ WT := WT_of (sub_tables_1_8 _ (List.mem_of_getElem? (i := 191) (by decide +kernel))) (by decide +kernel)
set_option maxRecDepth 20000 in
theorem t_2001 : (Jvm.Cond.code ({ cls := "MatchTreesModel", name := "plants", desc := "(II)V" } : Jvm.MethodName) prog_14_method_96_code (3 : Nat) (Option.none : Option Jvm.ClassFile.FieldType)) ∈ WT := WT_of (sub_tables_1_8 _ (List.mem_of_getElem? (i := 192) rfl)) (by decide +kernel)
set_option maxRecDepth 20000 in
theorem t_2002 : (Jvm.Cond.methodLink "MatchTreesModel" (584 : Nat) ({ cls := "MatchTreesModel", name := "allTests", desc := "(I)I" } : Jvm.MethodName)) ∈ WT := WT_of (sub_tables_1_8 _ (List.mem_of_getElem? (i := 193) (by decide +kernel))) (by decide +kernel)
set_option maxRecDepth 20000 in
theorem t_2004 : (Jvm.Cond.instanceMethod ({ cls := "MatchTreesModel", name := "allTests", desc := "(I)I" } : Jvm.MethodName)) ∈ WT := WT_of (sub_tables_1_8 _ (List.mem_of_getElem? (i := 195) (by decide +kernel))) (by decide +kernel)
set_option maxRecDepth 20000 in
theorem t_2005 : (Jvm.Cond.code ({ cls := "MatchTreesModel", name := "allTests", desc := "(I)I" } : Jvm.MethodName) prog_14_method_98_code (5 : Nat) (Option.some Jvm.ClassFile.FieldType.int)) ∈ WT := WT_of (sub_tables_1_8 _ (List.mem_of_getElem? (i := 196) rfl)) (by decide +kernel)
set_option maxRecDepth 20000 in
theorem t_2006 : (Jvm.Cond.methodLink "MatchTreesModel" (571 : Nat) ({ cls := "MatchTreesModel", name := "testsFor", desc := "(II)I" } : Jvm.MethodName)) ∈ WT := WT_of (sub_tables_1_8 _ (List.mem_of_getElem? (i := 197) (by decide +kernel))) (by decide +kernel)
set_option maxRecDepth 20000 in
theorem t_2008 : (Jvm.Cond.instanceMethod ({ cls := "MatchTreesModel", name := "testsFor", desc := "(II)I" } : Jvm.MethodName)) ∈ WT := WT_of (sub_tables_1_8 _ (List.mem_of_getElem? (i := 199) (by decide +kernel))) (by decide +kernel)
set_option maxRecDepth 20000 in
theorem t_2009 : (Jvm.Cond.code ({ cls := "MatchTreesModel", name := "testsFor", desc := "(II)I" } : Jvm.MethodName) prog_14_method_97_code (6 : Nat) (Option.some Jvm.ClassFile.FieldType.int)) ∈ WT := WT_of (sub_tables_1_8 _ (List.mem_of_getElem? (i := 200) rfl)) (by decide +kernel)
set_option maxRecDepth 20000 in
theorem t_2010 : (Jvm.Cond.methodLink "MatchTreesModel" (562 : Nat) ({ cls := "MatchTreesModel", name := "root", desc := "()I" } : Jvm.MethodName)) ∈ WT := WT_of (sub_tables_1_8 _ (List.mem_of_getElem? (i := 201) (by decide +kernel))) (by decide +kernel)
set_option maxRecDepth 20000 in
theorem t_2012 : (Jvm.Cond.instanceMethod ({ cls := "MatchTreesModel", name := "root", desc := "()I" } : Jvm.MethodName)) ∈ WT := WT_of (sub_tables_1_8 _ (List.mem_of_getElem? (i := 203) (by decide +kernel))) (by decide +kernel)
set_option maxRecDepth 20000 in
theorem t_2013 : (Jvm.Cond.code ({ cls := "MatchTreesModel", name := "root", desc := "()I" } : Jvm.MethodName) prog_14_method_95_code (1 : Nat) (Option.some Jvm.ClassFile.FieldType.int)) ∈ WT := WT_of (sub_tables_1_8 _ (List.mem_of_getElem? (i := 204) rfl)) (by decide +kernel)
set_option maxRecDepth 20000 in
theorem t_2014 : (Jvm.Cond.methodLink "MatchTreesModel" (559 : Nat) ({ cls := "MatchTreesModel", name := "leftOf", desc := "(II)I" } : Jvm.MethodName)) ∈ WT := WT_of (sub_tables_1_8 _ (List.mem_of_getElem? (i := 205) (by decide +kernel))) (by decide +kernel)
set_option maxRecDepth 20000 in
theorem t_2015 : (Jvm.Cond.static ({ cls := "MatchTreesModel", name := "leftOf", desc := "(II)I" } : Jvm.MethodName)) ∈ WT := WT_of (sub_tables_1_8 _ (List.mem_of_getElem? (i := 206) (by decide +kernel))) (by decide +kernel)
set_option maxRecDepth 20000 in
theorem t_2016 : (Jvm.Cond.code ({ cls := "MatchTreesModel", name := "leftOf", desc := "(II)I" } : Jvm.MethodName) prog_14_method_86_code (2 : Nat) (Option.some Jvm.ClassFile.FieldType.int)) ∈ WT := WT_of (sub_tables_1_8 _ (List.mem_of_getElem? (i := 207) rfl)) (by decide +kernel)
set_option maxRecDepth 20000 in
theorem t_2017 : (Jvm.Cond.methodLink "MatchTreesModel" (547 : Nat) ({ cls := "MatchTreesModel", name := "armsIn", desc := "(I)I" } : Jvm.MethodName)) ∈ WT := WT_of (sub_tables_1_8 _ (List.mem_of_getElem? (i := 208) (by decide +kernel))) (by decide +kernel)
set_option maxRecDepth 20000 in
theorem t_2018 : (Jvm.Cond.static ({ cls := "MatchTreesModel", name := "armsIn", desc := "(I)I" } : Jvm.MethodName)) ∈ WT := WT_of (sub_tables_1_8 _ (List.mem_of_getElem? (i := 209) (by decide +kernel))) (by decide +kernel)
set_option maxRecDepth 20000 in
theorem t_2019 : (Jvm.Cond.code ({ cls := "MatchTreesModel", name := "armsIn", desc := "(I)I" } : Jvm.MethodName) prog_14_method_87_code (1 : Nat) (Option.some Jvm.ClassFile.FieldType.int)) ∈ WT := WT_of (sub_tables_1_8 _ (List.mem_of_getElem? (i := 210) rfl)) (by decide +kernel)
set_option maxRecDepth 20000 in
theorem t_2020 : (Jvm.Cond.methodLink "MatchTreesModel" (556 : Nat) ({ cls := "MatchTreesModel", name := "asksFor", desc := "(I)I" } : Jvm.MethodName)) ∈ WT := WT_of (sub_tables_1_8 _ (List.mem_of_getElem? (i := 211) (by decide +kernel))) (by decide +kernel)
set_option maxRecDepth 20000 in
theorem t_2022 : (Jvm.Cond.instanceMethod ({ cls := "MatchTreesModel", name := "asksFor", desc := "(I)I" } : Jvm.MethodName)) ∈ WT := WT_of (sub_tables_1_8 _ (List.mem_of_getElem? (i := 213) (by decide +kernel))) (by decide +kernel)
set_option maxRecDepth 20000 in
theorem t_2023 : (Jvm.Cond.code ({ cls := "MatchTreesModel", name := "asksFor", desc := "(I)I" } : Jvm.MethodName) prog_14_method_91_code (8 : Nat) (Option.some Jvm.ClassFile.FieldType.int)) ∈ WT := WT_of (sub_tables_1_8 _ (List.mem_of_getElem? (i := 214) rfl)) (by decide +kernel)
set_option maxRecDepth 20000 in
theorem t_2024 : (Jvm.Cond.methodLink "MatchTreesModel" (550 : Nat) ({ cls := "MatchTreesModel", name := "columnsIn", desc := "(I)I" } : Jvm.MethodName)) ∈ WT := WT_of (sub_tables_1_8 _ (List.mem_of_getElem? (i := 215) (by decide +kernel))) (by decide +kernel)
set_option maxRecDepth 20000 in
theorem t_2025 : (Jvm.Cond.static ({ cls := "MatchTreesModel", name := "columnsIn", desc := "(I)I" } : Jvm.MethodName)) ∈ WT := WT_of (sub_tables_1_8 _ (List.mem_of_getElem? (i := 216) (by decide +kernel))) (by decide +kernel)
set_option maxRecDepth 20000 in
theorem t_2026 : (Jvm.Cond.code ({ cls := "MatchTreesModel", name := "columnsIn", desc := "(I)I" } : Jvm.MethodName) prog_14_method_88_code (1 : Nat) (Option.some Jvm.ClassFile.FieldType.int)) ∈ WT := WT_of (sub_tables_1_8 _ (List.mem_of_getElem? (i := 217) rfl)) (by decide +kernel)
set_option maxRecDepth 20000 in
theorem t_2027 : (Jvm.Cond.methodLink "MatchTreesModel" (553 : Nat) ({ cls := "MatchTreesModel", name := "worthOf", desc := "(II)I" } : Jvm.MethodName)) ∈ WT := WT_of (sub_tables_1_8 _ (List.mem_of_getElem? (i := 218) (by decide +kernel))) (by decide +kernel)
set_option maxRecDepth 20000 in
theorem t_2029 : (Jvm.Cond.instanceMethod ({ cls := "MatchTreesModel", name := "worthOf", desc := "(II)I" } : Jvm.MethodName)) ∈ WT := WT_of (sub_tables_1_8 _ (List.mem_of_getElem? (i := 220) (by decide +kernel))) (by decide +kernel)
set_option maxRecDepth 20000 in
theorem t_2030 : (Jvm.Cond.code ({ cls := "MatchTreesModel", name := "worthOf", desc := "(II)I" } : Jvm.MethodName) prog_14_method_90_code (7 : Nat) (Option.some Jvm.ClassFile.FieldType.int)) ∈ WT := WT_of (sub_tables_1_8 _ (List.mem_of_getElem? (i := 221) rfl)) (by decide +kernel)
set_option maxRecDepth 20000 in
theorem t_2031 : (Jvm.Cond.methodLink "MatchTreesModel" (544 : Nat) ({ cls := "MatchTreesModel", name := "bitsOf", desc := "(I)I" } : Jvm.MethodName)) ∈ WT := WT_of (sub_tables_1_8 _ (List.mem_of_getElem? (i := 222) (by decide +kernel))) (by decide +kernel)
set_option maxRecDepth 20000 in
theorem t_2032 : (Jvm.Cond.static ({ cls := "MatchTreesModel", name := "bitsOf", desc := "(I)I" } : Jvm.MethodName)) ∈ WT := WT_of (sub_tables_1_8 _ (List.mem_of_getElem? (i := 223) (by decide +kernel))) (by decide +kernel)
set_option maxRecDepth 20000 in
theorem t_2033 : (Jvm.Cond.code ({ cls := "MatchTreesModel", name := "bitsOf", desc := "(I)I" } : Jvm.MethodName) prog_14_method_56_code (3 : Nat) (Option.some Jvm.ClassFile.FieldType.int)) ∈ WT := WT_of (sub_tables_1_8 _ (List.mem_of_getElem? (i := 224) rfl)) (by decide +kernel)
set_option maxRecDepth 20000 in
theorem t_2034 : (Jvm.Cond.methodLink "MatchTreesModel" (565 : Nat) ({ cls := "MatchTreesModel", name := "throughDoor", desc := "(I)I" } : Jvm.MethodName)) ∈ WT := WT_of (sub_tables_1_8 _ (List.mem_of_getElem? (i := 225) (by decide +kernel))) (by decide +kernel)
set_option maxRecDepth 20000 in
theorem t_2035 : (Jvm.Cond.static ({ cls := "MatchTreesModel", name := "throughDoor", desc := "(I)I" } : Jvm.MethodName)) ∈ WT := WT_of (sub_tables_1_8 _ (List.mem_of_getElem? (i := 226) (by decide +kernel))) (by decide +kernel)
set_option maxRecDepth 20000 in
theorem t_2036 : (Jvm.Cond.code ({ cls := "MatchTreesModel", name := "throughDoor", desc := "(I)I" } : Jvm.MethodName) prog_14_method_93_code (1 : Nat) (Option.some Jvm.ClassFile.FieldType.int)) ∈ WT := WT_of (sub_tables_1_8 _ (List.mem_of_getElem? (i := 227) rfl)) (by decide +kernel)
set_option maxRecDepth 20000 in
theorem t_2037 : (Jvm.Cond.methodLink "MatchTreesModel" (568 : Nat) ({ cls := "MatchTreesModel", name := "branchOf", desc := "(III)I" } : Jvm.MethodName)) ∈ WT := WT_of (sub_tables_1_8 _ (List.mem_of_getElem? (i := 228) (by decide +kernel))) (by decide +kernel)
set_option maxRecDepth 20000 in
theorem t_2039 : (Jvm.Cond.instanceMethod ({ cls := "MatchTreesModel", name := "branchOf", desc := "(III)I" } : Jvm.MethodName)) ∈ WT := WT_of (sub_tables_1_8 _ (List.mem_of_getElem? (i := 230) (by decide +kernel))) (by decide +kernel)
set_option maxRecDepth 20000 in
theorem t_2040 : (Jvm.Cond.code ({ cls := "MatchTreesModel", name := "branchOf", desc := "(III)I" } : Jvm.MethodName) prog_14_method_94_code (4 : Nat) (Option.some Jvm.ClassFile.FieldType.int)) ∈ WT := WT_of (sub_tables_1_8 _ (List.mem_of_getElem? (i := 231) rfl)) (by decide +kernel)
set_option maxRecDepth 20000 in
theorem t_2041 : (Jvm.Cond.methodLink "MatchTreesModel" (587 : Nat) ({ cls := "MatchTreesModel", name := "grows", desc := "()V" } : Jvm.MethodName)) ∈ WT := WT_of (sub_tables_1_8 _ (List.mem_of_getElem? (i := 232) (by decide +kernel))) (by decide +kernel)
set_option maxRecDepth 20000 in
theorem t_2043 : (Jvm.Cond.instanceMethod ({ cls := "MatchTreesModel", name := "grows", desc := "()V" } : Jvm.MethodName)) ∈ WT := WT_of (sub_tables_1_8 _ (List.mem_of_getElem? (i := 234) (by decide +kernel))) (by decide +kernel)
set_option maxRecDepth 20000 in
theorem t_2044 : (Jvm.Cond.code ({ cls := "MatchTreesModel", name := "grows", desc := "()V" } : Jvm.MethodName) prog_14_method_100_code (5 : Nat) (Option.none : Option Jvm.ClassFile.FieldType)) ∈ WT := WT_of (sub_tables_1_8 _ (List.mem_of_getElem? (i := 235) rfl)) (by decide +kernel)
set_option maxRecDepth 20000 in
theorem t_2045 : (Jvm.Cond.methodLink "MatchTreesModel" (574 : Nat) ({ cls := "MatchTreesModel", name := "reaches", desc := "(I)V" } : Jvm.MethodName)) ∈ WT := WT_of (sub_tables_1_8 _ (List.mem_of_getElem? (i := 236) (by decide +kernel))) (by decide +kernel)
set_option maxRecDepth 20000 in
theorem t_2047 : (Jvm.Cond.instanceMethod ({ cls := "MatchTreesModel", name := "reaches", desc := "(I)V" } : Jvm.MethodName)) ∈ WT := WT_of (sub_tables_1_8 _ (List.mem_of_getElem? (i := 238) (by decide +kernel))) (by decide +kernel)
set_option maxRecDepth 20000 in
theorem t_2048 : (Jvm.Cond.code ({ cls := "MatchTreesModel", name := "reaches", desc := "(I)V" } : Jvm.MethodName) prog_14_method_99_code (2 : Nat) (Option.none : Option Jvm.ClassFile.FieldType)) ∈ WT := WT_of (sub_tables_1_8 _ (List.mem_of_getElem? (i := 239) rfl)) (by decide +kernel)
set_option maxRecDepth 20000 in
theorem t_2049 : (Jvm.Cond.methodLink "MatchTreesModel" (577 : Nat) ({ cls := "MatchTreesModel", name := "isDoor", desc := "(I)Z" } : Jvm.MethodName)) ∈ WT := WT_of (sub_tables_1_9 _ (List.mem_of_getElem? (i := 0) (by decide +kernel))) (by decide +kernel)
set_option maxRecDepth 20000 in
theorem t_2051 : (Jvm.Cond.instanceMethod ({ cls := "MatchTreesModel", name := "isDoor", desc := "(I)Z" } : Jvm.MethodName)) ∈ WT := WT_of (sub_tables_1_9 _ (List.mem_of_getElem? (i := 2) (by decide +kernel))) (by decide +kernel)
set_option maxRecDepth 20000 in
theorem t_2052 : (Jvm.Cond.code ({ cls := "MatchTreesModel", name := "isDoor", desc := "(I)Z" } : Jvm.MethodName) prog_14_method_92_code (2 : Nat) (Option.some Jvm.ClassFile.FieldType.boolean)) ∈ WT := WT_of (sub_tables_1_9 _ (List.mem_of_getElem? (i := 3) rfl)) (by decide +kernel)
set_option maxRecDepth 20000 in
theorem t_2053 : (Jvm.Cond.methodLink "MatchTreesModel" (590 : Nat) ({ cls := "MatchTreesModel", name := "sizeOf", desc := "(I)I" } : Jvm.MethodName)) ∈ WT := WT_of (sub_tables_1_9 _ (List.mem_of_getElem? (i := 4) (by decide +kernel))) (by decide +kernel)
set_option maxRecDepth 20000 in
theorem t_2054 : (Jvm.Cond.static ({ cls := "MatchTreesModel", name := "sizeOf", desc := "(I)I" } : Jvm.MethodName)) ∈ WT := WT_of (sub_tables_1_9 _ (List.mem_of_getElem? (i := 5) (by decide +kernel))) (by decide +kernel)
set_option maxRecDepth 20000 in
theorem t_2055 : (Jvm.Cond.code ({ cls := "MatchTreesModel", name := "sizeOf", desc := "(I)I" } : Jvm.MethodName) prog_14_method_102_code (1 : Nat) (Option.some Jvm.ClassFile.FieldType.int)) ∈ WT := WT_of (sub_tables_1_9 _ (List.mem_of_getElem? (i := 6) rfl)) (by decide +kernel)
set_option maxRecDepth 20000 in
theorem t_2056 : (Jvm.Cond.methodLink "MatchTreesModel" (593 : Nat) ({ cls := "MatchTreesModel", name := "weighs", desc := "(I)V" } : Jvm.MethodName)) ∈ WT := WT_of (sub_tables_1_9 _ (List.mem_of_getElem? (i := 7) (by decide +kernel))) (by decide +kernel)
set_option maxRecDepth 20000 in
theorem t_2058 : (Jvm.Cond.instanceMethod ({ cls := "MatchTreesModel", name := "weighs", desc := "(I)V" } : Jvm.MethodName)) ∈ WT := WT_of (sub_tables_1_9 _ (List.mem_of_getElem? (i := 9) (by decide +kernel))) (by decide +kernel)
set_option maxRecDepth 20000 in
theorem t_2059 : (Jvm.Cond.code ({ cls := "MatchTreesModel", name := "weighs", desc := "(I)V" } : Jvm.MethodName) prog_14_method_101_code (8 : Nat) (Option.none : Option Jvm.ClassFile.FieldType)) ∈ WT := WT_of (sub_tables_1_9 _ (List.mem_of_getElem? (i := 10) rfl)) (by decide +kernel)
set_option maxRecDepth 20000 in
theorem t_2060 : (Jvm.Cond.constant "MatchTreesModel" (580 : Nat) (1000000 : Int32)) ∈ WT := WT_of (sub_tables_1_9 _ (List.mem_of_getElem? (i := 11) (by decide +kernel))) (by decide +kernel)
set_option maxRecDepth 20000 in
theorem t_2061 : (Jvm.Cond.methodLink "MatchTreesLaw" (86 : Nat) ({ cls := "MatchTreesModel", name := "first", desc := "(I)I" } : Jvm.MethodName)) ∈ WT := WT_of (sub_tables_1_9 _ (List.mem_of_getElem? (i := 12) (by decide +kernel))) (by decide +kernel)
set_option maxRecDepth 20000 in
theorem t_2062 : (Jvm.Cond.instanceMethod ({ cls := "MatchTreesModel", name := "first", desc := "(I)I" } : Jvm.MethodName)) ∈ WT := WT_of (sub_tables_1_9 _ (List.mem_of_getElem? (i := 13) (by decide +kernel))) (by decide +kernel)
set_option maxRecDepth 20000 in
theorem t_2063 : (Jvm.Cond.selects "MatchTreesModel" ({ cls := "MatchTreesModel", name := "first", desc := "(I)I" } : Jvm.MethodName) ({ cls := "MatchTreesModel", name := "first", desc := "(I)I" } : Jvm.MethodName)) ∈ WT := WT_of (sub_tables_1_9 _ (List.mem_of_getElem? (i := 14) (by decide +kernel))) (by decide +kernel)
set_option maxRecDepth 20000 in
theorem t_2064 : (Jvm.Cond.code ({ cls := "MatchTreesModel", name := "first", desc := "(I)I" } : Jvm.MethodName) prog_14_method_104_code (4 : Nat) (Option.some Jvm.ClassFile.FieldType.int)) ∈ WT := WT_of (sub_tables_1_9 _ (List.mem_of_getElem? (i := 15) rfl)) (by decide +kernel)
set_option maxRecDepth 20000 in
theorem t_2065 : (Jvm.Cond.methodLink "MatchTreesLaw" (90 : Nat) ({ cls := "MatchTreesModel", name := "scopes", desc := "(III)I" } : Jvm.MethodName)) ∈ WT := WT_of (sub_tables_1_9 _ (List.mem_of_getElem? (i := 16) (by decide +kernel))) (by decide +kernel)
set_option maxRecDepth 20000 in
theorem t_2066 : (Jvm.Cond.instanceMethod ({ cls := "MatchTreesModel", name := "scopes", desc := "(III)I" } : Jvm.MethodName)) ∈ WT := WT_of (sub_tables_1_9 _ (List.mem_of_getElem? (i := 17) (by decide +kernel))) (by decide +kernel)
set_option maxRecDepth 20000 in
theorem t_2067 : (Jvm.Cond.selects "MatchTreesModel" ({ cls := "MatchTreesModel", name := "scopes", desc := "(III)I" } : Jvm.MethodName) ({ cls := "MatchTreesModel", name := "scopes", desc := "(III)I" } : Jvm.MethodName)) ∈ WT := WT_of (sub_tables_1_9 _ (List.mem_of_getElem? (i := 18) (by decide +kernel))) (by decide +kernel)
set_option maxRecDepth 20000 in
theorem t_2068 : (Jvm.Cond.code ({ cls := "MatchTreesModel", name := "scopes", desc := "(III)I" } : Jvm.MethodName) prog_14_method_109_code (4 : Nat) (Option.some Jvm.ClassFile.FieldType.int)) ∈ WT := WT_of (sub_tables_1_9 _ (List.mem_of_getElem? (i := 19) rfl)) (by decide +kernel)
set_option maxRecDepth 20000 in
theorem t_2069 : (Jvm.Cond.methodLink "MatchTreesModel" (605 : Nat) ({ cls := "MatchTreesModel", name := "builds", desc := "()V" } : Jvm.MethodName)) ∈ WT := WT_of (sub_tables_1_9 _ (List.mem_of_getElem? (i := 20) (by decide +kernel))) (by decide +kernel)
set_option maxRecDepth 20000 in
theorem t_2071 : (Jvm.Cond.instanceMethod ({ cls := "MatchTreesModel", name := "builds", desc := "()V" } : Jvm.MethodName)) ∈ WT := WT_of (sub_tables_1_9 _ (List.mem_of_getElem? (i := 22) (by decide +kernel))) (by decide +kernel)
set_option maxRecDepth 20000 in
theorem t_2072 : (Jvm.Cond.code ({ cls := "MatchTreesModel", name := "builds", desc := "()V" } : Jvm.MethodName) prog_14_method_108_code (3 : Nat) (Option.none : Option Jvm.ClassFile.FieldType)) ∈ WT := WT_of (sub_tables_1_9 _ (List.mem_of_getElem? (i := 23) rfl)) (by decide +kernel)
set_option maxRecDepth 20000 in
theorem t_2073 : (Jvm.Cond.methodLink "MatchTreesModel" (599 : Nat) ({ cls := "MatchTreesModel", name := "opensScope", desc := "(II)V" } : Jvm.MethodName)) ∈ WT := WT_of (sub_tables_1_9 _ (List.mem_of_getElem? (i := 24) (by decide +kernel))) (by decide +kernel)
set_option maxRecDepth 20000 in
theorem t_2075 : (Jvm.Cond.instanceMethod ({ cls := "MatchTreesModel", name := "opensScope", desc := "(II)V" } : Jvm.MethodName)) ∈ WT := WT_of (sub_tables_1_9 _ (List.mem_of_getElem? (i := 26) (by decide +kernel))) (by decide +kernel)
set_option maxRecDepth 20000 in
theorem t_2076 : (Jvm.Cond.code ({ cls := "MatchTreesModel", name := "opensScope", desc := "(II)V" } : Jvm.MethodName) prog_14_method_107_code (3 : Nat) (Option.none : Option Jvm.ClassFile.FieldType)) ∈ WT := WT_of (sub_tables_1_9 _ (List.mem_of_getElem? (i := 27) rfl)) (by decide +kernel)
set_option maxRecDepth 20000 in
theorem t_2077 : (Jvm.Cond.methodLink "MatchTreesModel" (602 : Nat) ({ cls := "MatchTreesModel", name := "nextBranch", desc := "(I)I" } : Jvm.MethodName)) ∈ WT := WT_of (sub_tables_1_9 _ (List.mem_of_getElem? (i := 28) (by decide +kernel))) (by decide +kernel)
set_option maxRecDepth 20000 in
theorem t_2079 : (Jvm.Cond.instanceMethod ({ cls := "MatchTreesModel", name := "nextBranch", desc := "(I)I" } : Jvm.MethodName)) ∈ WT := WT_of (sub_tables_1_9 _ (List.mem_of_getElem? (i := 30) (by decide +kernel))) (by decide +kernel)
set_option maxRecDepth 20000 in
theorem t_2080 : (Jvm.Cond.code ({ cls := "MatchTreesModel", name := "nextBranch", desc := "(I)I" } : Jvm.MethodName) prog_14_method_106_code (5 : Nat) (Option.some Jvm.ClassFile.FieldType.int)) ∈ WT := WT_of (sub_tables_1_9 _ (List.mem_of_getElem? (i := 31) rfl)) (by decide +kernel)
set_option maxRecDepth 20000 in
theorem t_2081 : (Jvm.Cond.methodLink "MatchTreesModel" (596 : Nat) ({ cls := "MatchTreesModel", name := "isNewSet", desc := "(III)Z" } : Jvm.MethodName)) ∈ WT := WT_of (sub_tables_1_9 _ (List.mem_of_getElem? (i := 32) (by decide +kernel))) (by decide +kernel)
set_option maxRecDepth 20000 in
theorem t_2083 : (Jvm.Cond.instanceMethod ({ cls := "MatchTreesModel", name := "isNewSet", desc := "(III)Z" } : Jvm.MethodName)) ∈ WT := WT_of (sub_tables_1_9 _ (List.mem_of_getElem? (i := 34) (by decide +kernel))) (by decide +kernel)
set_option maxRecDepth 20000 in
theorem t_2084 : (Jvm.Cond.code ({ cls := "MatchTreesModel", name := "isNewSet", desc := "(III)Z" } : Jvm.MethodName) prog_14_method_105_code (5 : Nat) (Option.some Jvm.ClassFile.FieldType.boolean)) ∈ WT := WT_of (sub_tables_1_9 _ (List.mem_of_getElem? (i := 35) rfl)) (by decide +kernel)
set_option maxRecDepth 20000 in
theorem t_2085 : (Jvm.Cond.methodLink "MatchTreesLaw" (94 : Nat) ({ cls := "MatchTreesModel", name := "safe", desc := "(II)I" } : Jvm.MethodName)) ∈ WT := WT_of (sub_tables_1_9 _ (List.mem_of_getElem? (i := 36) (by decide +kernel))) (by decide +kernel)
set_option maxRecDepth 20000 in
theorem t_2086 : (Jvm.Cond.instanceMethod ({ cls := "MatchTreesModel", name := "safe", desc := "(II)I" } : Jvm.MethodName)) ∈ WT := WT_of (sub_tables_1_9 _ (List.mem_of_getElem? (i := 37) (by decide +kernel))) (by decide +kernel)
set_option maxRecDepth 20000 in
theorem t_2087 : (Jvm.Cond.selects "MatchTreesModel" ({ cls := "MatchTreesModel", name := "safe", desc := "(II)I" } : Jvm.MethodName) ({ cls := "MatchTreesModel", name := "safe", desc := "(II)I" } : Jvm.MethodName)) ∈ WT := WT_of (sub_tables_1_9 _ (List.mem_of_getElem? (i := 38) (by decide +kernel))) (by decide +kernel)
set_option maxRecDepth 20000 in
theorem t_2088 : (Jvm.Cond.code ({ cls := "MatchTreesModel", name := "safe", desc := "(II)I" } : Jvm.MethodName) prog_14_method_113_code (3 : Nat) (Option.some Jvm.ClassFile.FieldType.int)) ∈ WT := WT_of (sub_tables_1_9 _ (List.mem_of_getElem? (i := 39) rfl)) (by decide +kernel)
set_option maxRecDepth 20000 in
theorem t_2089 : (Jvm.Cond.methodLink "MatchTreesModel" (614 : Nat) ({ cls := "MatchTreesModel", name := "isSafe", desc := "(II)Z" } : Jvm.MethodName)) ∈ WT := WT_of (sub_tables_1_9 _ (List.mem_of_getElem? (i := 40) (by decide +kernel))) (by decide +kernel)
set_option maxRecDepth 20000 in
theorem t_2091 : (Jvm.Cond.instanceMethod ({ cls := "MatchTreesModel", name := "isSafe", desc := "(II)Z" } : Jvm.MethodName)) ∈ WT := WT_of (sub_tables_1_9 _ (List.mem_of_getElem? (i := 42) (by decide +kernel))) (by decide +kernel)
set_option maxRecDepth 20000 in
theorem t_2092 : (Jvm.Cond.code ({ cls := "MatchTreesModel", name := "isSafe", desc := "(II)Z" } : Jvm.MethodName) prog_14_method_112_code (8 : Nat) (Option.some Jvm.ClassFile.FieldType.boolean)) ∈ WT := WT_of (sub_tables_1_9 _ (List.mem_of_getElem? (i := 43) rfl)) (by decide +kernel)
set_option maxRecDepth 20000 in
theorem t_2093 : (Jvm.Cond.methodLink "MatchTreesModel" (608 : Nat) ({ cls := "MatchTreesModel", name := "swapped", desc := "(III)I" } : Jvm.MethodName)) ∈ WT := WT_of (sub_tables_1_9 _ (List.mem_of_getElem? (i := 44) (by decide +kernel))) (by decide +kernel)
set_option maxRecDepth 20000 in
theorem t_2094 : (Jvm.Cond.static ({ cls := "MatchTreesModel", name := "swapped", desc := "(III)I" } : Jvm.MethodName)) ∈ WT := WT_of (sub_tables_1_9 _ (List.mem_of_getElem? (i := 45) (by decide +kernel))) (by decide +kernel)
set_option maxRecDepth 20000 in
theorem t_2095 : (Jvm.Cond.code ({ cls := "MatchTreesModel", name := "swapped", desc := "(III)I" } : Jvm.MethodName) prog_14_method_110_code (3 : Nat) (Option.some Jvm.ClassFile.FieldType.int)) ∈ WT := WT_of (sub_tables_1_9 _ (List.mem_of_getElem? (i := 46) rfl)) (by decide +kernel)
set_option maxRecDepth 20000 in
theorem t_2096 : (Jvm.Cond.methodLink "MatchTreesModel" (611 : Nat) ({ cls := "MatchTreesModel", name := "moved", desc := "(III)I" } : Jvm.MethodName)) ∈ WT := WT_of (sub_tables_1_9 _ (List.mem_of_getElem? (i := 47) (by decide +kernel))) (by decide +kernel)
set_option maxRecDepth 20000 in
theorem t_2097 : (Jvm.Cond.static ({ cls := "MatchTreesModel", name := "moved", desc := "(III)I" } : Jvm.MethodName)) ∈ WT := WT_of (sub_tables_1_9 _ (List.mem_of_getElem? (i := 48) (by decide +kernel))) (by decide +kernel)
set_option maxRecDepth 20000 in
theorem t_2098 : (Jvm.Cond.code ({ cls := "MatchTreesModel", name := "moved", desc := "(III)I" } : Jvm.MethodName) prog_14_method_111_code (3 : Nat) (Option.some Jvm.ClassFile.FieldType.int)) ∈ WT := WT_of (sub_tables_1_9 _ (List.mem_of_getElem? (i := 49) rfl)) (by decide +kernel)
set_option maxRecDepth 20000 in
theorem t_2099 : (Jvm.Cond.methodLink "MatchTreesLaw" (98 : Nat) ({ cls := "MatchTreesModel", name := "best", desc := "(I)I" } : Jvm.MethodName)) ∈ WT := WT_of (sub_tables_1_9 _ (List.mem_of_getElem? (i := 50) (by decide +kernel))) (by decide +kernel)
set_option maxRecDepth 20000 in
theorem t_2100 : (Jvm.Cond.instanceMethod ({ cls := "MatchTreesModel", name := "best", desc := "(I)I" } : Jvm.MethodName)) ∈ WT := WT_of (sub_tables_1_9 _ (List.mem_of_getElem? (i := 51) (by decide +kernel))) (by decide +kernel)
set_option maxRecDepth 20000 in
theorem t_2101 : (Jvm.Cond.selects "MatchTreesModel" ({ cls := "MatchTreesModel", name := "best", desc := "(I)I" } : Jvm.MethodName) ({ cls := "MatchTreesModel", name := "best", desc := "(I)I" } : Jvm.MethodName)) ∈ WT := WT_of (sub_tables_1_9 _ (List.mem_of_getElem? (i := 52) (by decide +kernel))) (by decide +kernel)
set_option maxRecDepth 20000 in
theorem t_2102 : (Jvm.Cond.code ({ cls := "MatchTreesModel", name := "best", desc := "(I)I" } : Jvm.MethodName) prog_14_method_115_code (6 : Nat) (Option.some Jvm.ClassFile.FieldType.int)) ∈ WT := WT_of (sub_tables_1_9 _ (List.mem_of_getElem? (i := 53) rfl)) (by decide +kernel)
set_option maxRecDepth 20000 in
theorem t_2103 : (Jvm.Cond.methodLink "MatchTreesModel" (618 : Nat) ({ cls := "MatchTreesModel", name := "exchanges", desc := "(III)V" } : Jvm.MethodName)) ∈ WT := WT_of (sub_tables_1_9 _ (List.mem_of_getElem? (i := 54) (by decide +kernel))) (by decide +kernel)
set_option maxRecDepth 20000 in
theorem t_2105 : (Jvm.Cond.instanceMethod ({ cls := "MatchTreesModel", name := "exchanges", desc := "(III)V" } : Jvm.MethodName)) ∈ WT := WT_of (sub_tables_1_9 _ (List.mem_of_getElem? (i := 56) (by decide +kernel))) (by decide +kernel)
set_option maxRecDepth 20000 in
theorem t_2106 : (Jvm.Cond.code ({ cls := "MatchTreesModel", name := "exchanges", desc := "(III)V" } : Jvm.MethodName) prog_14_method_114_code (5 : Nat) (Option.none : Option Jvm.ClassFile.FieldType)) ∈ WT := WT_of (sub_tables_1_9 _ (List.mem_of_getElem? (i := 57) rfl)) (by decide +kernel)
set_option maxRecDepth 20000 in
theorem t_2107 : (Jvm.Cond.methodLink "MatchTreesLaw" (102 : Nat) ({ cls := "MatchTreesModel", name := "see", desc := "()I" } : Jvm.MethodName)) ∈ WT := WT_of (sub_tables_1_9 _ (List.mem_of_getElem? (i := 58) (by decide +kernel))) (by decide +kernel)
set_option maxRecDepth 20000 in
theorem t_2108 : (Jvm.Cond.instanceMethod ({ cls := "MatchTreesModel", name := "see", desc := "()I" } : Jvm.MethodName)) ∈ WT := WT_of (sub_tables_1_9 _ (List.mem_of_getElem? (i := 59) (by decide +kernel))) (by decide +kernel)
set_option maxRecDepth 20000 in
theorem t_2109 : (Jvm.Cond.selects "MatchTreesModel" ({ cls := "MatchTreesModel", name := "see", desc := "()I" } : Jvm.MethodName) ({ cls := "MatchTreesModel", name := "see", desc := "()I" } : Jvm.MethodName)) ∈ WT := WT_of (sub_tables_1_9 _ (List.mem_of_getElem? (i := 60) (by decide +kernel))) (by decide +kernel)
set_option maxRecDepth 20000 in
theorem t_2110 : (Jvm.Cond.code ({ cls := "MatchTreesModel", name := "see", desc := "()I" } : Jvm.MethodName) prog_14_method_116_code (4 : Nat) (Option.some Jvm.ClassFile.FieldType.int)) ∈ WT := WT_of (sub_tables_1_9 _ (List.mem_of_getElem? (i := 61) rfl)) (by decide +kernel)
set_option maxRecDepth 20000 in
theorem t_2111 : (Jvm.Cond.methodLink "MatchTreesLaw" (106 : Nat) ({ cls := "MatchTreesModel", name := "sets", desc := "(I)I" } : Jvm.MethodName)) ∈ WT := WT_of (sub_tables_1_9 _ (List.mem_of_getElem? (i := 62) (by decide +kernel))) (by decide +kernel)
set_option maxRecDepth 20000 in
theorem t_2112 : (Jvm.Cond.instanceMethod ({ cls := "MatchTreesModel", name := "sets", desc := "(I)I" } : Jvm.MethodName)) ∈ WT := WT_of (sub_tables_1_9 _ (List.mem_of_getElem? (i := 63) (by decide +kernel))) (by decide +kernel)
set_option maxRecDepth 20000 in
theorem t_2113 : (Jvm.Cond.selects "MatchTreesModel" ({ cls := "MatchTreesModel", name := "sets", desc := "(I)I" } : Jvm.MethodName) ({ cls := "MatchTreesModel", name := "sets", desc := "(I)I" } : Jvm.MethodName)) ∈ WT := WT_of (sub_tables_1_9 _ (List.mem_of_getElem? (i := 64) (by decide +kernel))) (by decide +kernel)
set_option maxRecDepth 20000 in
theorem t_2114 : (Jvm.Cond.code ({ cls := "MatchTreesModel", name := "sets", desc := "(I)I" } : Jvm.MethodName) prog_14_method_118_code (5 : Nat) (Option.some Jvm.ClassFile.FieldType.int)) ∈ WT := WT_of (sub_tables_1_9 _ (List.mem_of_getElem? (i := 65) rfl)) (by decide +kernel)
set_option maxRecDepth 20000 in
theorem t_2115 : (Jvm.Cond.methodLink "MatchTreesModel" (621 : Nat) ({ cls := "MatchTreesModel", name := "leaves", desc := "()I" } : Jvm.MethodName)) ∈ WT := WT_of (sub_tables_1_9 _ (List.mem_of_getElem? (i := 66) (by decide +kernel))) (by decide +kernel)
set_option maxRecDepth 20000 in
theorem t_2117 : (Jvm.Cond.instanceMethod ({ cls := "MatchTreesModel", name := "leaves", desc := "()I" } : Jvm.MethodName)) ∈ WT := WT_of (sub_tables_1_9 _ (List.mem_of_getElem? (i := 68) (by decide +kernel))) (by decide +kernel)
set_option maxRecDepth 20000 in
theorem t_2118 : (Jvm.Cond.code ({ cls := "MatchTreesModel", name := "leaves", desc := "()I" } : Jvm.MethodName) prog_14_method_117_code (5 : Nat) (Option.some Jvm.ClassFile.FieldType.int)) ∈ WT := WT_of (sub_tables_1_9 _ (List.mem_of_getElem? (i := 69) rfl)) (by decide +kernel)
set_option maxRecDepth 20000 in
theorem t_2119 : (Jvm.Cond.methodLink "MatchTreesLaw" (110 : Nat) ({ cls := "MatchTreesModel", name := "tells", desc := "(I)I" } : Jvm.MethodName)) ∈ WT := WT_of (sub_tables_1_9 _ (List.mem_of_getElem? (i := 70) (by decide +kernel))) (by decide +kernel)
set_option maxRecDepth 20000 in
theorem t_2120 : (Jvm.Cond.instanceMethod ({ cls := "MatchTreesModel", name := "tells", desc := "(I)I" } : Jvm.MethodName)) ∈ WT := WT_of (sub_tables_1_9 _ (List.mem_of_getElem? (i := 71) (by decide +kernel))) (by decide +kernel)
set_option maxRecDepth 20000 in
theorem t_2121 : (Jvm.Cond.selects "MatchTreesModel" ({ cls := "MatchTreesModel", name := "tells", desc := "(I)I" } : Jvm.MethodName) ({ cls := "MatchTreesModel", name := "tells", desc := "(I)I" } : Jvm.MethodName)) ∈ WT := WT_of (sub_tables_1_9 _ (List.mem_of_getElem? (i := 72) (by decide +kernel))) (by decide +kernel)
set_option maxRecDepth 20000 in
theorem t_2122 : (Jvm.Cond.code ({ cls := "MatchTreesModel", name := "tells", desc := "(I)I" } : Jvm.MethodName) prog_14_method_120_code (7 : Nat) (Option.some Jvm.ClassFile.FieldType.int)) ∈ WT := WT_of (sub_tables_1_9 _ (List.mem_of_getElem? (i := 73) rfl)) (by decide +kernel)
set_option maxRecDepth 20000 in
theorem t_2123 : (Jvm.Cond.constant "MatchTreesModel" (624 : Nat) (100000000 : Int32)) ∈ WT := WT_of (sub_tables_1_9 _ (List.mem_of_getElem? (i := 74) (by decide +kernel))) (by decide +kernel)
set_option maxRecDepth 20000 in
theorem t_2124 : (Jvm.Cond.methodLink "MatchTreesModel" (625 : Nat) ({ cls := "MatchTreesModel", name := "mostBy", desc := "(I)I" } : Jvm.MethodName)) ∈ WT := WT_of (sub_tables_1_9 _ (List.mem_of_getElem? (i := 75) (by decide +kernel))) (by decide +kernel)
set_option maxRecDepth 20000 in
theorem t_2126 : (Jvm.Cond.instanceMethod ({ cls := "MatchTreesModel", name := "mostBy", desc := "(I)I" } : Jvm.MethodName)) ∈ WT := WT_of (sub_tables_1_9 _ (List.mem_of_getElem? (i := 77) (by decide +kernel))) (by decide +kernel)
set_option maxRecDepth 20000 in
theorem t_2127 : (Jvm.Cond.code ({ cls := "MatchTreesModel", name := "mostBy", desc := "(I)I" } : Jvm.MethodName) prog_14_method_119_code (6 : Nat) (Option.some Jvm.ClassFile.FieldType.int)) ∈ WT := WT_of (sub_tables_1_9 _ (List.mem_of_getElem? (i := 78) rfl)) (by decide +kernel)
set_option maxRecDepth 20000 in
theorem t_2128 : (Jvm.Cond.methodLink "MatchTreesLaw" (114 : Nat) ({ cls := "MatchTreesModel", name := "run", desc := "(I)I" } : Jvm.MethodName)) ∈ WT := WT_of (sub_tables_1_9 _ (List.mem_of_getElem? (i := 79) (by decide +kernel))) (by decide +kernel)
set_option maxRecDepth 20000 in
theorem t_2129 : (Jvm.Cond.instanceMethod ({ cls := "MatchTreesModel", name := "run", desc := "(I)I" } : Jvm.MethodName)) ∈ WT := WT_of (sub_tables_1_9 _ (List.mem_of_getElem? (i := 80) (by decide +kernel))) (by decide +kernel)
set_option maxRecDepth 20000 in
theorem t_2130 : (Jvm.Cond.selects "MatchTreesModel" ({ cls := "MatchTreesModel", name := "run", desc := "(I)I" } : Jvm.MethodName) ({ cls := "MatchTreesModel", name := "run", desc := "(I)I" } : Jvm.MethodName)) ∈ WT := WT_of (sub_tables_1_9 _ (List.mem_of_getElem? (i := 81) (by decide +kernel))) (by decide +kernel)
set_option maxRecDepth 20000 in
theorem t_2131 : (Jvm.Cond.code ({ cls := "MatchTreesModel", name := "run", desc := "(I)I" } : Jvm.MethodName) prog_14_method_122_code (2 : Nat) (Option.some Jvm.ClassFile.FieldType.int)) ∈ WT := WT_of (sub_tables_1_9 _ (List.mem_of_getElem? (i := 82) rfl)) (by decide +kernel)
set_option maxRecDepth 20000 in
theorem t_2132 : (Jvm.Cond.methodLink "MatchTreesModel" (628 : Nat) ({ cls := "MatchTreesModel", name := "keeps", desc := "()V" } : Jvm.MethodName)) ∈ WT := WT_of (sub_tables_1_9 _ (List.mem_of_getElem? (i := 83) (by decide +kernel))) (by decide +kernel)
set_option maxRecDepth 20000 in
theorem t_2134 : (Jvm.Cond.instanceMethod ({ cls := "MatchTreesModel", name := "keeps", desc := "()V" } : Jvm.MethodName)) ∈ WT := WT_of (sub_tables_1_9 _ (List.mem_of_getElem? (i := 85) (by decide +kernel))) (by decide +kernel)
set_option maxRecDepth 20000 in
theorem t_2135 : (Jvm.Cond.code ({ cls := "MatchTreesModel", name := "keeps", desc := "()V" } : Jvm.MethodName) prog_14_method_50_code (1 : Nat) (Option.none : Option Jvm.ClassFile.FieldType)) ∈ WT := WT_of (sub_tables_1_9 _ (List.mem_of_getElem? (i := 86) rfl)) (by decide +kernel)
set_option maxRecDepth 20000 in
theorem t_2136 : (Jvm.Cond.methodLink "MatchTreesModel" (631 : Nat) ({ cls := "MatchTreesModel", name := "runs", desc := "(I)I" } : Jvm.MethodName)) ∈ WT := WT_of (sub_tables_1_9 _ (List.mem_of_getElem? (i := 87) (by decide +kernel))) (by decide +kernel)
set_option maxRecDepth 20000 in
theorem t_2138 : (Jvm.Cond.instanceMethod ({ cls := "MatchTreesModel", name := "runs", desc := "(I)I" } : Jvm.MethodName)) ∈ WT := WT_of (sub_tables_1_9 _ (List.mem_of_getElem? (i := 89) (by decide +kernel))) (by decide +kernel)
set_option maxRecDepth 20000 in
theorem t_2139 : (Jvm.Cond.code ({ cls := "MatchTreesModel", name := "runs", desc := "(I)I" } : Jvm.MethodName) prog_14_method_121_code (6 : Nat) (Option.some Jvm.ClassFile.FieldType.int)) ∈ WT := WT_of (sub_tables_1_9 _ (List.mem_of_getElem? (i := 90) rfl)) (by decide +kernel)
set_option maxRecDepth 20000 in
theorem t_2140 : (Jvm.Cond.methodLink "MatchTreesLaw" (118 : Nat) ({ cls := "MatchTreesModel", name := "chance", desc := "(I)I" } : Jvm.MethodName)) ∈ WT := WT_of (sub_tables_1_9 _ (List.mem_of_getElem? (i := 91) (by decide +kernel))) (by decide +kernel)
set_option maxRecDepth 20000 in
theorem t_2141 : (Jvm.Cond.instanceMethod ({ cls := "MatchTreesModel", name := "chance", desc := "(I)I" } : Jvm.MethodName)) ∈ WT := WT_of (sub_tables_1_9 _ (List.mem_of_getElem? (i := 92) (by decide +kernel))) (by decide +kernel)
set_option maxRecDepth 20000 in
theorem t_2142 : (Jvm.Cond.selects "MatchTreesModel" ({ cls := "MatchTreesModel", name := "chance", desc := "(I)I" } : Jvm.MethodName) ({ cls := "MatchTreesModel", name := "chance", desc := "(I)I" } : Jvm.MethodName)) ∈ WT := WT_of (sub_tables_1_9 _ (List.mem_of_getElem? (i := 93) (by decide +kernel))) (by decide +kernel)
set_option maxRecDepth 20000 in
theorem t_2143 : (Jvm.Cond.code ({ cls := "MatchTreesModel", name := "chance", desc := "(I)I" } : Jvm.MethodName) prog_14_method_124_code (4 : Nat) (Option.some Jvm.ClassFile.FieldType.int)) ∈ WT := WT_of (sub_tables_1_9 _ (List.mem_of_getElem? (i := 94) rfl)) (by decide +kernel)
set_option maxRecDepth 20000 in
theorem t_2144 : (Jvm.Cond.methodLink "MatchTreesModel" (642 : Nat) ({ cls := "MatchTreesModel", name := "draw", desc := "(I)I" } : Jvm.MethodName)) ∈ WT := WT_of (sub_tables_1_9 _ (List.mem_of_getElem? (i := 95) (by decide +kernel))) (by decide +kernel)
set_option maxRecDepth 20000 in
theorem t_2146 : (Jvm.Cond.instanceMethod ({ cls := "MatchTreesModel", name := "draw", desc := "(I)I" } : Jvm.MethodName)) ∈ WT := WT_of (sub_tables_1_9 _ (List.mem_of_getElem? (i := 97) (by decide +kernel))) (by decide +kernel)
set_option maxRecDepth 20000 in
theorem t_2147 : (Jvm.Cond.code ({ cls := "MatchTreesModel", name := "draw", desc := "(I)I" } : Jvm.MethodName) prog_14_method_123_code (2 : Nat) (Option.some Jvm.ClassFile.FieldType.int)) ∈ WT := WT_of (sub_tables_1_9 _ (List.mem_of_getElem? (i := 98) rfl)) (by decide +kernel)
set_option maxRecDepth 20000 in
theorem t_2148 : (Jvm.Cond.constantLong "MatchTreesModel" (634 : Nat) (1103515245 : Int64)) ∈ WT := WT_of (sub_tables_1_9 _ (List.mem_of_getElem? (i := 99) (by decide +kernel))) (by decide +kernel)
set_option maxRecDepth 20000 in
theorem t_2149 : (Jvm.Cond.constantLong "MatchTreesModel" (636 : Nat) (12345 : Int64)) ∈ WT := WT_of (sub_tables_1_9 _ (List.mem_of_getElem? (i := 100) (by decide +kernel))) (by decide +kernel)
set_option maxRecDepth 20000 in
theorem t_2150 : (Jvm.Cond.constantLong "MatchTreesModel" (638 : Nat) (2147483648 : Int64)) ∈ WT := WT_of (sub_tables_1_9 _ (List.mem_of_getElem? (i := 101) (by decide +kernel))) (by decide +kernel)
set_option maxRecDepth 20000 in
theorem t_2151 : (Jvm.Cond.constantLong "MatchTreesModel" (640 : Nat) (64 : Int64)) ∈ WT := WT_of (sub_tables_1_9 _ (List.mem_of_getElem? (i := 102) (by decide +kernel))) (by decide +kernel)
set_option maxRecDepth 20000 in
theorem t_2152 : (Jvm.Cond.methodLink "MatchTreesLaw" (123 : Nat) ({ cls := "MatchTreesModel", name := "swap", desc := "(II)Z" } : Jvm.MethodName)) ∈ WT := WT_of (sub_tables_1_9 _ (List.mem_of_getElem? (i := 103) (by decide +kernel))) (by decide +kernel)
set_option maxRecDepth 20000 in
theorem t_2153 : (Jvm.Cond.instanceMethod ({ cls := "MatchTreesModel", name := "swap", desc := "(II)Z" } : Jvm.MethodName)) ∈ WT := WT_of (sub_tables_1_9 _ (List.mem_of_getElem? (i := 104) (by decide +kernel))) (by decide +kernel)
set_option maxRecDepth 20000 in
theorem t_2154 : (Jvm.Cond.selects "MatchTreesModel" ({ cls := "MatchTreesModel", name := "swap", desc := "(II)Z" } : Jvm.MethodName) ({ cls := "MatchTreesModel", name := "swap", desc := "(II)Z" } : Jvm.MethodName)) ∈ WT := WT_of (sub_tables_1_9 _ (List.mem_of_getElem? (i := 105) (by decide +kernel))) (by decide +kernel)
set_option maxRecDepth 20000 in
theorem t_2155 : (Jvm.Cond.code ({ cls := "MatchTreesModel", name := "swap", desc := "(II)Z" } : Jvm.MethodName) prog_14_method_125_code (3 : Nat) (Option.some Jvm.ClassFile.FieldType.boolean)) ∈ WT := WT_of (sub_tables_1_9 _ (List.mem_of_getElem? (i := 106) rfl)) (by decide +kernel)
set_option maxRecDepth 20000 in
theorem t_2156 : (Jvm.Cond.methodLink "MatchTreesLaw" (127 : Nat) ({ cls := "MatchTreesModel", name := "drop", desc := "(I)Z" } : Jvm.MethodName)) ∈ WT := WT_of (sub_tables_1_9 _ (List.mem_of_getElem? (i := 107) (by decide +kernel))) (by decide +kernel)
set_option maxRecDepth 20000 in
theorem t_2157 : (Jvm.Cond.instanceMethod ({ cls := "MatchTreesModel", name := "drop", desc := "(I)Z" } : Jvm.MethodName)) ∈ WT := WT_of (sub_tables_1_9 _ (List.mem_of_getElem? (i := 108) (by decide +kernel))) (by decide +kernel)
set_option maxRecDepth 20000 in
theorem t_2158 : (Jvm.Cond.selects "MatchTreesModel" ({ cls := "MatchTreesModel", name := "drop", desc := "(I)Z" } : Jvm.MethodName) ({ cls := "MatchTreesModel", name := "drop", desc := "(I)Z" } : Jvm.MethodName)) ∈ WT := WT_of (sub_tables_1_9 _ (List.mem_of_getElem? (i := 109) (by decide +kernel))) (by decide +kernel)
set_option maxRecDepth 20000 in
theorem t_2159 : (Jvm.Cond.code ({ cls := "MatchTreesModel", name := "drop", desc := "(I)Z" } : Jvm.MethodName) prog_14_method_126_code (3 : Nat) (Option.some Jvm.ClassFile.FieldType.boolean)) ∈ WT := WT_of (sub_tables_1_9 _ (List.mem_of_getElem? (i := 110) rfl)) (by decide +kernel)
set_option maxRecDepth 20000 in
theorem t_2160 : (Jvm.Cond.methodLink "MatchTreesLaw" (131 : Nat) ({ cls := "MatchTreesModel", name := "turn", desc := "(I)I" } : Jvm.MethodName)) ∈ WT := WT_of (sub_tables_1_9 _ (List.mem_of_getElem? (i := 111) (by decide +kernel))) (by decide +kernel)
set_option maxRecDepth 20000 in
theorem t_2161 : (Jvm.Cond.instanceMethod ({ cls := "MatchTreesModel", name := "turn", desc := "(I)I" } : Jvm.MethodName)) ∈ WT := WT_of (sub_tables_1_9 _ (List.mem_of_getElem? (i := 112) (by decide +kernel))) (by decide +kernel)
set_option maxRecDepth 20000 in
theorem t_2162 : (Jvm.Cond.selects "MatchTreesModel" ({ cls := "MatchTreesModel", name := "turn", desc := "(I)I" } : Jvm.MethodName) ({ cls := "MatchTreesModel", name := "turn", desc := "(I)I" } : Jvm.MethodName)) ∈ WT := WT_of (sub_tables_1_9 _ (List.mem_of_getElem? (i := 113) (by decide +kernel))) (by decide +kernel)
set_option maxRecDepth 20000 in
theorem t_2163 : (Jvm.Cond.code ({ cls := "MatchTreesModel", name := "turn", desc := "(I)I" } : Jvm.MethodName) prog_14_method_127_code (2 : Nat) (Option.some Jvm.ClassFile.FieldType.int)) ∈ WT := WT_of (sub_tables_1_9 _ (List.mem_of_getElem? (i := 114) rfl)) (by decide +kernel)
set_option maxRecDepth 20000 in
theorem t_2164 : (Jvm.Cond.methodLink "MatchTreesLaw" (135 : Nat) ({ cls := "MatchTreesModel", name := "choose", desc := "(I)Z" } : Jvm.MethodName)) ∈ WT := WT_of (sub_tables_1_9 _ (List.mem_of_getElem? (i := 115) (by decide +kernel))) (by decide +kernel)
set_option maxRecDepth 20000 in
theorem t_2165 : (Jvm.Cond.instanceMethod ({ cls := "MatchTreesModel", name := "choose", desc := "(I)Z" } : Jvm.MethodName)) ∈ WT := WT_of (sub_tables_1_9 _ (List.mem_of_getElem? (i := 116) (by decide +kernel))) (by decide +kernel)
set_option maxRecDepth 20000 in
theorem t_2166 : (Jvm.Cond.selects "MatchTreesModel" ({ cls := "MatchTreesModel", name := "choose", desc := "(I)Z" } : Jvm.MethodName) ({ cls := "MatchTreesModel", name := "choose", desc := "(I)Z" } : Jvm.MethodName)) ∈ WT := WT_of (sub_tables_1_9 _ (List.mem_of_getElem? (i := 117) (by decide +kernel))) (by decide +kernel)
set_option maxRecDepth 20000 in
theorem t_2167 : (Jvm.Cond.code ({ cls := "MatchTreesModel", name := "choose", desc := "(I)Z" } : Jvm.MethodName) prog_14_method_128_code (2 : Nat) (Option.some Jvm.ClassFile.FieldType.boolean)) ∈ WT := WT_of (sub_tables_1_9 _ (List.mem_of_getElem? (i := 118) rfl)) (by decide +kernel)
set_option maxRecDepth 20000 in
theorem t_2168 : (Jvm.Cond.methodLink "MatchTreesLaw" (144 : Nat) ({ cls := "MatchTreesModel", name := "seed", desc := "(I)Z" } : Jvm.MethodName)) ∈ WT := WT_of (sub_tables_1_9 _ (List.mem_of_getElem? (i := 119) (by decide +kernel))) (by decide +kernel)
set_option maxRecDepth 20000 in
theorem t_2169 : (Jvm.Cond.instanceMethod ({ cls := "MatchTreesModel", name := "seed", desc := "(I)Z" } : Jvm.MethodName)) ∈ WT := WT_of (sub_tables_1_9 _ (List.mem_of_getElem? (i := 120) (by decide +kernel))) (by decide +kernel)
set_option maxRecDepth 20000 in
theorem t_2170 : (Jvm.Cond.selects "MatchTreesModel" ({ cls := "MatchTreesModel", name := "seed", desc := "(I)Z" } : Jvm.MethodName) ({ cls := "MatchTreesModel", name := "seed", desc := "(I)Z" } : Jvm.MethodName)) ∈ WT := WT_of (sub_tables_1_9 _ (List.mem_of_getElem? (i := 121) (by decide +kernel))) (by decide +kernel)
set_option maxRecDepth 20000 in
theorem t_2171 : (Jvm.Cond.code ({ cls := "MatchTreesModel", name := "seed", desc := "(I)Z" } : Jvm.MethodName) prog_14_method_129_code (2 : Nat) (Option.some Jvm.ClassFile.FieldType.boolean)) ∈ WT := WT_of (sub_tables_1_9 _ (List.mem_of_getElem? (i := 122) rfl)) (by decide +kernel)
set_option maxRecDepth 20000 in
theorem t_2172 : (Jvm.Cond.methodLink "MatchTreesLaw" (148 : Nat) ({ cls := "MatchTreesModel", name := "kept", desc := "(II)I" } : Jvm.MethodName)) ∈ WT := WT_of (sub_tables_1_9 _ (List.mem_of_getElem? (i := 123) (by decide +kernel))) (by decide +kernel)
set_option maxRecDepth 20000 in
theorem t_2173 : (Jvm.Cond.instanceMethod ({ cls := "MatchTreesModel", name := "kept", desc := "(II)I" } : Jvm.MethodName)) ∈ WT := WT_of (sub_tables_1_9 _ (List.mem_of_getElem? (i := 124) (by decide +kernel))) (by decide +kernel)
set_option maxRecDepth 20000 in
theorem t_2174 : (Jvm.Cond.selects "MatchTreesModel" ({ cls := "MatchTreesModel", name := "kept", desc := "(II)I" } : Jvm.MethodName) ({ cls := "MatchTreesModel", name := "kept", desc := "(II)I" } : Jvm.MethodName)) ∈ WT := WT_of (sub_tables_1_9 _ (List.mem_of_getElem? (i := 125) (by decide +kernel))) (by decide +kernel)
set_option maxRecDepth 20000 in
theorem t_2175 : (Jvm.Cond.code ({ cls := "MatchTreesModel", name := "kept", desc := "(II)I" } : Jvm.MethodName) prog_14_method_130_code (3 : Nat) (Option.some Jvm.ClassFile.FieldType.int)) ∈ WT := WT_of (sub_tables_1_9 _ (List.mem_of_getElem? (i := 126) rfl)) (by decide +kernel)
set_option maxRecDepth 20000 in
theorem t_2176 : (Jvm.Cond.methodLink "MatchTreesLaw" (152 : Nat) ({ cls := "MatchTreesModel", name := "image", desc := "()I" } : Jvm.MethodName)) ∈ WT := WT_of (sub_tables_1_9 _ (List.mem_of_getElem? (i := 127) (by decide +kernel))) (by decide +kernel)
set_option maxRecDepth 20000 in
theorem t_2177 : (Jvm.Cond.instanceMethod ({ cls := "MatchTreesModel", name := "image", desc := "()I" } : Jvm.MethodName)) ∈ WT := WT_of (sub_tables_1_9 _ (List.mem_of_getElem? (i := 128) (by decide +kernel))) (by decide +kernel)
set_option maxRecDepth 20000 in
theorem t_2178 : (Jvm.Cond.selects "MatchTreesModel" ({ cls := "MatchTreesModel", name := "image", desc := "()I" } : Jvm.MethodName) ({ cls := "MatchTreesModel", name := "image", desc := "()I" } : Jvm.MethodName)) ∈ WT := WT_of (sub_tables_1_9 _ (List.mem_of_getElem? (i := 129) (by decide +kernel))) (by decide +kernel)
set_option maxRecDepth 20000 in
theorem t_2179 : (Jvm.Cond.code ({ cls := "MatchTreesModel", name := "image", desc := "()I" } : Jvm.MethodName) prog_14_method_131_code (3 : Nat) (Option.some Jvm.ClassFile.FieldType.int)) ∈ WT := WT_of (sub_tables_1_9 _ (List.mem_of_getElem? (i := 130) rfl)) (by decide +kernel)
set_option maxRecDepth 20000 in
theorem t_2180 : (Jvm.Cond.methodLink "MatchTreesLaw" (156 : Nat) ({ cls := "MatchTreesModel", name := "on", desc := "()Z" } : Jvm.MethodName)) ∈ WT := WT_of (sub_tables_1_9 _ (List.mem_of_getElem? (i := 131) (by decide +kernel))) (by decide +kernel)
set_option maxRecDepth 20000 in
theorem t_2181 : (Jvm.Cond.instanceMethod ({ cls := "MatchTreesModel", name := "on", desc := "()Z" } : Jvm.MethodName)) ∈ WT := WT_of (sub_tables_1_9 _ (List.mem_of_getElem? (i := 132) (by decide +kernel))) (by decide +kernel)
set_option maxRecDepth 20000 in
theorem t_2182 : (Jvm.Cond.selects "MatchTreesModel" ({ cls := "MatchTreesModel", name := "on", desc := "()Z" } : Jvm.MethodName) ({ cls := "MatchTreesModel", name := "on", desc := "()Z" } : Jvm.MethodName)) ∈ WT := WT_of (sub_tables_1_9 _ (List.mem_of_getElem? (i := 133) (by decide +kernel))) (by decide +kernel)
set_option maxRecDepth 20000 in
theorem t_2183 : (Jvm.Cond.code ({ cls := "MatchTreesModel", name := "on", desc := "()Z" } : Jvm.MethodName) prog_14_method_133_code (2 : Nat) (Option.some Jvm.ClassFile.FieldType.boolean)) ∈ WT := WT_of (sub_tables_1_9 _ (List.mem_of_getElem? (i := 134) rfl)) (by decide +kernel)
set_option maxRecDepth 20000 in
theorem t_2184 : (Jvm.Cond.methodLink "MatchTreesModel" (645 : Nat) ({ cls := "MatchTreesModel", name := "comesOn", desc := "(I)Z" } : Jvm.MethodName)) ∈ WT := WT_of (sub_tables_1_9 _ (List.mem_of_getElem? (i := 135) (by decide +kernel))) (by decide +kernel)
set_option maxRecDepth 20000 in
theorem t_2186 : (Jvm.Cond.instanceMethod ({ cls := "MatchTreesModel", name := "comesOn", desc := "(I)Z" } : Jvm.MethodName)) ∈ WT := WT_of (sub_tables_1_9 _ (List.mem_of_getElem? (i := 137) (by decide +kernel))) (by decide +kernel)
set_option maxRecDepth 20000 in
theorem t_2187 : (Jvm.Cond.code ({ cls := "MatchTreesModel", name := "comesOn", desc := "(I)Z" } : Jvm.MethodName) prog_14_method_132_code (6 : Nat) (Option.some Jvm.ClassFile.FieldType.boolean)) ∈ WT := WT_of (sub_tables_1_9 _ (List.mem_of_getElem? (i := 138) rfl)) (by decide +kernel)
set_option maxRecDepth 20000 in
theorem t_2188 : (Jvm.Cond.fieldLink "java/lang/String" (9 : Nat) "java/lang/String" "value" "[B") ∈ WT := WT_of (sub_tables_1_9 _ (List.mem_of_getElem? (i := 139) (by decide +kernel))) (by decide +kernel)
set_option maxRecDepth 20000 in
theorem t_2189 : (Jvm.Cond.fieldLink "java/lang/String" (15 : Nat) "java/lang/String" "coder" "B") ∈ WT := WT_of (sub_tables_1_9 _ (List.mem_of_getElem? (i := 140) (by decide +kernel))) (by decide +kernel)
