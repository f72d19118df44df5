section
set_option maxRecDepth 20000 in
theorem t_1307 : (Jvm.Cond.selects "MatchTrees" ({ cls := "MatchTrees", name := "choose", desc := "(I)Z" } : Jvm.MethodName) ({ cls := "MatchTrees", name := "choose", desc := "(I)Z" } : Jvm.MethodName)) ∈ WT := WT_of (sub_tables_1_5 _ (List.mem_of_getElem? (i := 218) (by decide +kernel))) (by decide +kernel)
set_option maxRecDepth 20000 in
theorem t_1308 : (Jvm.Cond.code ({ cls := "MatchTrees", name := "choose", desc := "(I)Z" } : Jvm.MethodName) prog_1_method_41_code (2 : Nat) (Option.some Jvm.ClassFile.FieldType.boolean)) ∈ WT := WT_of (sub_tables_1_5 _ (List.mem_of_getElem? (i := 219) rfl)) (by decide +kernel)
set_option maxRecDepth 20000 in
theorem t_1309 : (Jvm.Cond.methodLink "MatchTreesLaw" (136 : Nat) ({ cls := "MatchTrees", name := "undo", desc := "()Z" } : Jvm.MethodName)) ∈ WT := WT_of (sub_tables_1_5 _ (List.mem_of_getElem? (i := 220) (by decide +kernel))) (by decide +kernel)
set_option maxRecDepth 20000 in
theorem t_1310 : (Jvm.Cond.instanceMethod ({ cls := "MatchTrees", name := "undo", desc := "()Z" } : Jvm.MethodName)) ∈ WT := WT_of (sub_tables_1_5 _ (List.mem_of_getElem? (i := 221) (by decide +kernel))) (by decide +kernel)
set_option maxRecDepth 20000 in
theorem t_1311 : (Jvm.Cond.selects "MatchTrees" ({ cls := "MatchTrees", name := "undo", desc := "()Z" } : Jvm.MethodName) ({ cls := "MatchTrees", name := "undo", desc := "()Z" } : Jvm.MethodName)) ∈ WT := WT_of (sub_tables_1_5 _ (List.mem_of_getElem? (i := 222) (by decide +kernel))) (by decide +kernel)
set_option maxRecDepth 20000 in
theorem t_1312 : (Jvm.Cond.code ({ cls := "MatchTrees", name := "undo", desc := "()Z" } : Jvm.MethodName) prog_1_method_42_code (1 : Nat) (Option.some Jvm.ClassFile.FieldType.boolean)) ∈ WT := WT_of (sub_tables_1_5 _ (List.mem_of_getElem? (i := 223) rfl)) (by decide +kernel)
set_option maxRecDepth 20000 in
theorem t_1313 : (Jvm.Cond.methodLink "MatchTrees" (409 : Nat) ({ cls := "MatchTrees$Acts", name := "takeBack", desc := "(LMatchTrees$Order;)V" } : Jvm.MethodName)) ∈ WT := WT_of (sub_tables_1_5 _ (List.mem_of_getElem? (i := 224) (by decide +kernel))) (by decide +kernel)
set_option maxRecDepth 20000 in
theorem t_1314 : (Jvm.Cond.instanceMethod ({ cls := "MatchTrees$Acts", name := "takeBack", desc := "(LMatchTrees$Order;)V" } : Jvm.MethodName)) ∈ WT := WT_of (sub_tables_1_5 _ (List.mem_of_getElem? (i := 225) (by decide +kernel))) (by decide +kernel)
set_option maxRecDepth 20000 in
theorem t_1315 : (Jvm.Cond.selects "MatchTrees$Acts" ({ cls := "MatchTrees$Acts", name := "takeBack", desc := "(LMatchTrees$Order;)V" } : Jvm.MethodName) ({ cls := "MatchTrees$Acts", name := "takeBack", desc := "(LMatchTrees$Order;)V" } : Jvm.MethodName)) ∈ WT := WT_of (sub_tables_1_5 _ (List.mem_of_getElem? (i := 226) (by decide +kernel))) (by decide +kernel)
set_option maxRecDepth 20000 in
theorem t_1316 : (Jvm.Cond.code ({ cls := "MatchTrees$Acts", name := "takeBack", desc := "(LMatchTrees$Order;)V" } : Jvm.MethodName) prog_2_method_7_code (3 : Nat) (Option.none : Option Jvm.ClassFile.FieldType)) ∈ WT := WT_of (sub_tables_1_5 _ (List.mem_of_getElem? (i := 227) rfl)) (by decide +kernel)
set_option maxRecDepth 20000 in
theorem t_1317 : (Jvm.Cond.methodLink "MatchTrees$Acts" (58 : Nat) ({ cls := "java/lang/Math", name := "max", desc := "(II)I" } : Jvm.MethodName)) ∈ WT := WT_of (sub_tables_1_5 _ (List.mem_of_getElem? (i := 228) (by decide +kernel))) (by decide +kernel)
set_option maxRecDepth 20000 in
theorem t_1318 : (Jvm.Cond.methodLink "MatchTreesLaw" (141 : Nat) ({ cls := "MatchTrees", name := "seed", desc := "(I)Z" } : Jvm.MethodName)) ∈ WT := WT_of (sub_tables_1_5 _ (List.mem_of_getElem? (i := 229) (by decide +kernel))) (by decide +kernel)
set_option maxRecDepth 20000 in
theorem t_1319 : (Jvm.Cond.instanceMethod ({ cls := "MatchTrees", name := "seed", desc := "(I)Z" } : Jvm.MethodName)) ∈ WT := WT_of (sub_tables_1_5 _ (List.mem_of_getElem? (i := 230) (by decide +kernel))) (by decide +kernel)
set_option maxRecDepth 20000 in
theorem t_1320 : (Jvm.Cond.selects "MatchTrees" ({ cls := "MatchTrees", name := "seed", desc := "(I)Z" } : Jvm.MethodName) ({ cls := "MatchTrees", name := "seed", desc := "(I)Z" } : Jvm.MethodName)) ∈ WT := WT_of (sub_tables_1_5 _ (List.mem_of_getElem? (i := 231) (by decide +kernel))) (by decide +kernel)
set_option maxRecDepth 20000 in
theorem t_1321 : (Jvm.Cond.code ({ cls := "MatchTrees", name := "seed", desc := "(I)Z" } : Jvm.MethodName) prog_1_method_44_code (2 : Nat) (Option.some Jvm.ClassFile.FieldType.boolean)) ∈ WT := WT_of (sub_tables_1_5 _ (List.mem_of_getElem? (i := 232) rfl)) (by decide +kernel)
set_option maxRecDepth 20000 in
theorem t_1322 : (Jvm.Cond.methodLink "MatchTreesLaw" (145 : Nat) ({ cls := "MatchTrees", name := "kept", desc := "(II)I" } : Jvm.MethodName)) ∈ WT := WT_of (sub_tables_1_5 _ (List.mem_of_getElem? (i := 233) (by decide +kernel))) (by decide +kernel)
set_option maxRecDepth 20000 in
theorem t_1323 : (Jvm.Cond.instanceMethod ({ cls := "MatchTrees", name := "kept", desc := "(II)I" } : Jvm.MethodName)) ∈ WT := WT_of (sub_tables_1_5 _ (List.mem_of_getElem? (i := 234) (by decide +kernel))) (by decide +kernel)
set_option maxRecDepth 20000 in
theorem t_1324 : (Jvm.Cond.selects "MatchTrees" ({ cls := "MatchTrees", name := "kept", desc := "(II)I" } : Jvm.MethodName) ({ cls := "MatchTrees", name := "kept", desc := "(II)I" } : Jvm.MethodName)) ∈ WT := WT_of (sub_tables_1_5 _ (List.mem_of_getElem? (i := 235) (by decide +kernel))) (by decide +kernel)
set_option maxRecDepth 20000 in
theorem t_1325 : (Jvm.Cond.code ({ cls := "MatchTrees", name := "kept", desc := "(II)I" } : Jvm.MethodName) prog_1_method_45_code (3 : Nat) (Option.some Jvm.ClassFile.FieldType.int)) ∈ WT := WT_of (sub_tables_1_5 _ (List.mem_of_getElem? (i := 236) rfl)) (by decide +kernel)
set_option maxRecDepth 20000 in
theorem t_1326 : (Jvm.Cond.methodLink "MatchTrees" (414 : Nat) ({ cls := "MatchTrees$Acts", name := "tellKept", desc := "(II)I" } : Jvm.MethodName)) ∈ WT := WT_of (sub_tables_1_5 _ (List.mem_of_getElem? (i := 237) (by decide +kernel))) (by decide +kernel)
set_option maxRecDepth 20000 in
theorem t_1327 : (Jvm.Cond.instanceMethod ({ cls := "MatchTrees$Acts", name := "tellKept", desc := "(II)I" } : Jvm.MethodName)) ∈ WT := WT_of (sub_tables_1_5 _ (List.mem_of_getElem? (i := 238) (by decide +kernel))) (by decide +kernel)
set_option maxRecDepth 20000 in
theorem t_1328 : (Jvm.Cond.selects "MatchTrees$Acts" ({ cls := "MatchTrees$Acts", name := "tellKept", desc := "(II)I" } : Jvm.MethodName) ({ cls := "MatchTrees$Acts", name := "tellKept", desc := "(II)I" } : Jvm.MethodName)) ∈ WT := WT_of (sub_tables_1_5 _ (List.mem_of_getElem? (i := 239) (by decide +kernel))) (by decide +kernel)
set_option maxRecDepth 20000 in
theorem t_1329 : (Jvm.Cond.code ({ cls := "MatchTrees$Acts", name := "tellKept", desc := "(II)I" } : Jvm.MethodName) prog_2_method_5_code (4 : Nat) (Option.some Jvm.ClassFile.FieldType.int)) ∈ WT := WT_of (sub_tables_1_6 _ (List.mem_of_getElem? (i := 0) rfl)) (by decide +kernel)
set_option maxRecDepth 20000 in
theorem t_1330 : (Jvm.Cond.methodLink "MatchTrees$Acts" (47 : Nat) ({ cls := "MatchTrees$Acts", name := "keptTold", desc := "()I" } : Jvm.MethodName)) ∈ WT := WT_of (sub_tables_1_6 _ (List.mem_of_getElem? (i := 1) (by decide +kernel))) (by decide +kernel)
set_option maxRecDepth 20000 in
theorem t_1331 : (Jvm.Cond.methodLink "MatchTreesLaw" (149 : Nat) ({ cls := "MatchTrees", name := "image", desc := "()I" } : Jvm.MethodName)) ∈ WT := WT_of (sub_tables_1_6 _ (List.mem_of_getElem? (i := 2) (by decide +kernel))) (by decide +kernel)
set_option maxRecDepth 20000 in
theorem t_1332 : (Jvm.Cond.instanceMethod ({ cls := "MatchTrees", name := "image", desc := "()I" } : Jvm.MethodName)) ∈ WT := WT_of (sub_tables_1_6 _ (List.mem_of_getElem? (i := 3) (by decide +kernel))) (by decide +kernel)
set_option maxRecDepth 20000 in
theorem t_1333 : (Jvm.Cond.selects "MatchTrees" ({ cls := "MatchTrees", name := "image", desc := "()I" } : Jvm.MethodName) ({ cls := "MatchTrees", name := "image", desc := "()I" } : Jvm.MethodName)) ∈ WT := WT_of (sub_tables_1_6 _ (List.mem_of_getElem? (i := 4) (by decide +kernel))) (by decide +kernel)
set_option maxRecDepth 20000 in
theorem t_1334 : (Jvm.Cond.code ({ cls := "MatchTrees", name := "image", desc := "()I" } : Jvm.MethodName) prog_1_method_46_code (2 : Nat) (Option.some Jvm.ClassFile.FieldType.int)) ∈ WT := WT_of (sub_tables_1_6 _ (List.mem_of_getElem? (i := 5) rfl)) (by decide +kernel)
set_option maxRecDepth 20000 in
theorem t_1335 : (Jvm.Cond.methodLink "MatchTrees" (420 : Nat) ({ cls := "MatchTrees$Bytes", name := "checkByte", desc := "(I)I" } : Jvm.MethodName)) ∈ WT := WT_of (sub_tables_1_6 _ (List.mem_of_getElem? (i := 6) (by decide +kernel))) (by decide +kernel)
set_option maxRecDepth 20000 in
theorem t_1336 : (Jvm.Cond.instanceMethod ({ cls := "MatchTrees$Bytes", name := "checkByte", desc := "(I)I" } : Jvm.MethodName)) ∈ WT := WT_of (sub_tables_1_6 _ (List.mem_of_getElem? (i := 7) (by decide +kernel))) (by decide +kernel)
set_option maxRecDepth 20000 in
theorem t_1337 : (Jvm.Cond.selects "MatchTrees$Bytes" ({ cls := "MatchTrees$Bytes", name := "checkByte", desc := "(I)I" } : Jvm.MethodName) ({ cls := "MatchTrees$Bytes", name := "checkByte", desc := "(I)I" } : Jvm.MethodName)) ∈ WT := WT_of (sub_tables_1_6 _ (List.mem_of_getElem? (i := 8) (by decide +kernel))) (by decide +kernel)
set_option maxRecDepth 20000 in
theorem t_1338 : (Jvm.Cond.code ({ cls := "MatchTrees$Bytes", name := "checkByte", desc := "(I)I" } : Jvm.MethodName) prog_3_method_7_code (4 : Nat) (Option.some Jvm.ClassFile.FieldType.int)) ∈ WT := WT_of (sub_tables_1_6 _ (List.mem_of_getElem? (i := 9) rfl)) (by decide +kernel)
set_option maxRecDepth 20000 in
theorem t_1339 : (Jvm.Cond.methodLink "MatchTreesLaw" (153 : Nat) ({ cls := "MatchTrees", name := "on", desc := "()Z" } : Jvm.MethodName)) ∈ WT := WT_of (sub_tables_1_6 _ (List.mem_of_getElem? (i := 10) (by decide +kernel))) (by decide +kernel)
set_option maxRecDepth 20000 in
theorem t_1340 : (Jvm.Cond.instanceMethod ({ cls := "MatchTrees", name := "on", desc := "()Z" } : Jvm.MethodName)) ∈ WT := WT_of (sub_tables_1_6 _ (List.mem_of_getElem? (i := 11) (by decide +kernel))) (by decide +kernel)
set_option maxRecDepth 20000 in
theorem t_1341 : (Jvm.Cond.selects "MatchTrees" ({ cls := "MatchTrees", name := "on", desc := "()Z" } : Jvm.MethodName) ({ cls := "MatchTrees", name := "on", desc := "()Z" } : Jvm.MethodName)) ∈ WT := WT_of (sub_tables_1_6 _ (List.mem_of_getElem? (i := 12) (by decide +kernel))) (by decide +kernel)
set_option maxRecDepth 20000 in
theorem t_1342 : (Jvm.Cond.code ({ cls := "MatchTrees", name := "on", desc := "()Z" } : Jvm.MethodName) prog_1_method_47_code (2 : Nat) (Option.some Jvm.ClassFile.FieldType.boolean)) ∈ WT := WT_of (sub_tables_1_6 _ (List.mem_of_getElem? (i := 13) rfl)) (by decide +kernel)
set_option maxRecDepth 20000 in
theorem t_1343 : (Jvm.Cond.methodLink "MatchTrees" (423 : Nat) ({ cls := "MatchTrees", name := "isImage", desc := "()Z" } : Jvm.MethodName)) ∈ WT := WT_of (sub_tables_1_6 _ (List.mem_of_getElem? (i := 14) (by decide +kernel))) (by decide +kernel)
set_option maxRecDepth 20000 in
theorem t_1345 : (Jvm.Cond.instanceMethod ({ cls := "MatchTrees", name := "isImage", desc := "()Z" } : Jvm.MethodName)) ∈ WT := WT_of (sub_tables_1_6 _ (List.mem_of_getElem? (i := 16) (by decide +kernel))) (by decide +kernel)
set_option maxRecDepth 20000 in
theorem t_1346 : (Jvm.Cond.code ({ cls := "MatchTrees", name := "isImage", desc := "()Z" } : Jvm.MethodName) prog_1_method_48_code (5 : Nat) (Option.some Jvm.ClassFile.FieldType.boolean)) ∈ WT := WT_of (sub_tables_1_6 _ (List.mem_of_getElem? (i := 17) rfl)) (by decide +kernel)
set_option maxRecDepth 20000 in
theorem t_1347 : (Jvm.Cond.methodLink "MatchTrees" (426 : Nat) ({ cls := "MatchTrees", name := "takeImage", desc := "()V" } : Jvm.MethodName)) ∈ WT := WT_of (sub_tables_1_6 _ (List.mem_of_getElem? (i := 18) (by decide +kernel))) (by decide +kernel)
set_option maxRecDepth 20000 in
theorem t_1349 : (Jvm.Cond.instanceMethod ({ cls := "MatchTrees", name := "takeImage", desc := "()V" } : Jvm.MethodName)) ∈ WT := WT_of (sub_tables_1_6 _ (List.mem_of_getElem? (i := 20) (by decide +kernel))) (by decide +kernel)
set_option maxRecDepth 20000 in
theorem t_1350 : (Jvm.Cond.code ({ cls := "MatchTrees", name := "takeImage", desc := "()V" } : Jvm.MethodName) prog_1_method_49_code (3 : Nat) (Option.none : Option Jvm.ClassFile.FieldType)) ∈ WT := WT_of (sub_tables_1_6 _ (List.mem_of_getElem? (i := 21) rfl)) (by decide +kernel)
set_option maxRecDepth 20000 in
theorem t_1351 : (Jvm.Cond.methodLink "MatchTrees" (429 : Nat) ({ cls := "java/lang/Math", name := "min", desc := "(II)I" } : Jvm.MethodName)) ∈ WT := WT_of (sub_tables_1_6 _ (List.mem_of_getElem? (i := 22) (by decide +kernel))) (by decide +kernel)
set_option maxRecDepth 20000 in
theorem t_1352 : (Jvm.Cond.methodLink "MatchTrees" (434 : Nat) ({ cls := "java/lang/Math", name := "max", desc := "(II)I" } : Jvm.MethodName)) ∈ WT := WT_of (sub_tables_1_6 _ (List.mem_of_getElem? (i := 23) (by decide +kernel))) (by decide +kernel)
set_option maxRecDepth 20000 in
theorem t_1353 : (Jvm.Cond.methodLink "MatchTreesLaw" (157 : Nat) ({ cls := "MatchTrees", name := "status", desc := "(I)I" } : Jvm.MethodName)) ∈ WT := WT_of (sub_tables_1_6 _ (List.mem_of_getElem? (i := 24) (by decide +kernel))) (by decide +kernel)
set_option maxRecDepth 20000 in
theorem t_1354 : (Jvm.Cond.instanceMethod ({ cls := "MatchTrees", name := "status", desc := "(I)I" } : Jvm.MethodName)) ∈ WT := WT_of (sub_tables_1_6 _ (List.mem_of_getElem? (i := 25) (by decide +kernel))) (by decide +kernel)
set_option maxRecDepth 20000 in
theorem t_1355 : (Jvm.Cond.selects "MatchTrees" ({ cls := "MatchTrees", name := "status", desc := "(I)I" } : Jvm.MethodName) ({ cls := "MatchTrees", name := "status", desc := "(I)I" } : Jvm.MethodName)) ∈ WT := WT_of (sub_tables_1_6 _ (List.mem_of_getElem? (i := 26) (by decide +kernel))) (by decide +kernel)
set_option maxRecDepth 20000 in
theorem t_1356 : (Jvm.Cond.code ({ cls := "MatchTrees", name := "status", desc := "(I)I" } : Jvm.MethodName) prog_1_method_50_code (2 : Nat) (Option.some Jvm.ClassFile.FieldType.int)) ∈ WT := WT_of (sub_tables_1_6 _ (List.mem_of_getElem? (i := 27) rfl)) (by decide +kernel)
set_option maxRecDepth 20000 in
theorem t_1357 : (Jvm.Cond.classLink "MatchTreesLaw" (10 : Nat) "MatchTreesModel") ∈ WT := WT_of (sub_tables_1_6 _ (List.mem_of_getElem? (i := 28) (by decide +kernel))) (by decide +kernel)
set_option maxRecDepth 20000 in
theorem t_1358 : (Jvm.Cond.instantiable "MatchTreesModel" (98 : Nat)) ∈ WT := WT_of (sub_tables_1_6 _ (List.mem_of_getElem? (i := 29) (by decide +kernel))) (by decide +kernel)
set_option maxRecDepth 20000 in
theorem t_1359 : (Jvm.Cond.methodLink "MatchTreesLaw" (12 : Nat) ({ cls := "MatchTreesModel", name := "<init>", desc := "()V" } : Jvm.MethodName)) ∈ WT := WT_of (sub_tables_1_6 _ (List.mem_of_getElem? (i := 30) (by decide +kernel))) (by decide +kernel)
set_option maxRecDepth 20000 in
theorem t_1360 : (Jvm.Cond.instanceMethod ({ cls := "MatchTreesModel", name := "<init>", desc := "()V" } : Jvm.MethodName)) ∈ WT := WT_of (sub_tables_1_6 _ (List.mem_of_getElem? (i := 31) (by decide +kernel))) (by decide +kernel)
set_option maxRecDepth 20000 in
theorem t_1361 : (Jvm.Cond.code ({ cls := "MatchTreesModel", name := "<init>", desc := "()V" } : Jvm.MethodName) prog_14_method_1_code (1 : Nat) (Option.none : Option Jvm.ClassFile.FieldType)) ∈ WT := WT_of (sub_tables_1_6 _ (List.mem_of_getElem? (i := 32) rfl)) (by decide +kernel)
set_option maxRecDepth 20000 in
theorem t_1362 : (Jvm.Cond.methodLink "MatchTreesModel" (1 : Nat) ({ cls := "java/lang/Object", name := "<init>", desc := "()V" } : Jvm.MethodName)) ∈ WT := WT_of (sub_tables_1_6 _ (List.mem_of_getElem? (i := 33) (by decide +kernel))) (by decide +kernel)
set_option maxRecDepth 20000 in
theorem t_1363 : (Jvm.Cond.constant "MatchTreesModel" (239 : Nat) (65536 : Int32)) ∈ WT := WT_of (sub_tables_1_6 _ (List.mem_of_getElem? (i := 34) (by decide +kernel))) (by decide +kernel)
set_option maxRecDepth 20000 in
theorem t_1364 : (Jvm.Cond.methodLink "MatchTreesModel" (309 : Nat) ({ cls := "MatchTreesModel", name := "begin", desc := "()V" } : Jvm.MethodName)) ∈ WT := WT_of (sub_tables_1_6 _ (List.mem_of_getElem? (i := 35) (by decide +kernel))) (by decide +kernel)
set_option maxRecDepth 20000 in
theorem t_1366 : (Jvm.Cond.instanceMethod ({ cls := "MatchTreesModel", name := "begin", desc := "()V" } : Jvm.MethodName)) ∈ WT := WT_of (sub_tables_1_6 _ (List.mem_of_getElem? (i := 37) (by decide +kernel))) (by decide +kernel)
set_option maxRecDepth 20000 in
theorem t_1367 : (Jvm.Cond.code ({ cls := "MatchTreesModel", name := "begin", desc := "()V" } : Jvm.MethodName) prog_14_method_48_code (2 : Nat) (Option.none : Option Jvm.ClassFile.FieldType)) ∈ WT := WT_of (sub_tables_1_6 _ (List.mem_of_getElem? (i := 38) rfl)) (by decide +kernel)
set_option maxRecDepth 20000 in
theorem t_1368 : (Jvm.Cond.fieldLink "MatchTreesModel" (7 : Nat) "MatchTreesModel" "tape" "[I") ∈ WT := WT_of (sub_tables_1_6 _ (List.mem_of_getElem? (i := 39) (by decide +kernel))) (by decide +kernel)
set_option maxRecDepth 20000 in
theorem t_1369 : (Jvm.Cond.fieldLink "MatchTreesModel" (13 : Nat) "MatchTreesModel" "taped" "I") ∈ WT := WT_of (sub_tables_1_6 _ (List.mem_of_getElem? (i := 40) (by decide +kernel))) (by decide +kernel)
set_option maxRecDepth 20000 in
theorem t_1370 : (Jvm.Cond.fieldLink "MatchTreesModel" (17 : Nat) "MatchTreesModel" "size" "I") ∈ WT := WT_of (sub_tables_1_6 _ (List.mem_of_getElem? (i := 41) (by decide +kernel))) (by decide +kernel)
set_option maxRecDepth 20000 in
theorem t_1371 : (Jvm.Cond.fieldLink "MatchTreesModel" (20 : Nat) "MatchTreesModel" "sign" "I") ∈ WT := WT_of (sub_tables_1_6 _ (List.mem_of_getElem? (i := 42) (by decide +kernel))) (by decide +kernel)
set_option maxRecDepth 20000 in
theorem t_1372 : (Jvm.Cond.fieldLink "MatchTreesModel" (23 : Nat) "MatchTreesModel" "signAt" "I") ∈ WT := WT_of (sub_tables_1_6 _ (List.mem_of_getElem? (i := 43) (by decide +kernel))) (by decide +kernel)
set_option maxRecDepth 20000 in
theorem t_1373 : (Jvm.Cond.fieldLink "MatchTreesModel" (26 : Nat) "MatchTreesModel" "signEnd" "I") ∈ WT := WT_of (sub_tables_1_6 _ (List.mem_of_getElem? (i := 44) (by decide +kernel))) (by decide +kernel)
set_option maxRecDepth 20000 in
theorem t_1374 : (Jvm.Cond.fieldLink "MatchTreesModel" (29 : Nat) "MatchTreesModel" "value" "I") ∈ WT := WT_of (sub_tables_1_6 _ (List.mem_of_getElem? (i := 45) (by decide +kernel))) (by decide +kernel)
set_option maxRecDepth 20000 in
theorem t_1375 : (Jvm.Cond.fieldLink "MatchTreesModel" (32 : Nat) "MatchTreesModel" "word" "J") ∈ WT := WT_of (sub_tables_1_6 _ (List.mem_of_getElem? (i := 46) (by decide +kernel))) (by decide +kernel)
set_option maxRecDepth 20000 in
theorem t_1376 : (Jvm.Cond.fieldLink "MatchTreesModel" (36 : Nat) "MatchTreesModel" "faultKind" "I") ∈ WT := WT_of (sub_tables_1_6 _ (List.mem_of_getElem? (i := 47) (by decide +kernel))) (by decide +kernel)
set_option maxRecDepth 20000 in
theorem t_1377 : (Jvm.Cond.fieldLink "MatchTreesModel" (39 : Nat) "MatchTreesModel" "faultPlace" "I") ∈ WT := WT_of (sub_tables_1_6 _ (List.mem_of_getElem? (i := 48) (by decide +kernel))) (by decide +kernel)
set_option maxRecDepth 20000 in
theorem t_1378 : (Jvm.Cond.fieldLink "MatchTreesModel" (42 : Nat) "MatchTreesModel" "toldKind" "I") ∈ WT := WT_of (sub_tables_1_6 _ (List.mem_of_getElem? (i := 49) (by decide +kernel))) (by decide +kernel)
set_option maxRecDepth 20000 in
theorem t_1379 : (Jvm.Cond.fieldLink "MatchTreesModel" (45 : Nat) "MatchTreesModel" "toldPlace" "I") ∈ WT := WT_of (sub_tables_1_6 _ (List.mem_of_getElem? (i := 50) (by decide +kernel))) (by decide +kernel)
set_option maxRecDepth 20000 in
theorem t_1380 : (Jvm.Cond.fieldLink "MatchTreesModel" (48 : Nat) "MatchTreesModel" "lexAt" "I") ∈ WT := WT_of (sub_tables_1_6 _ (List.mem_of_getElem? (i := 51) (by decide +kernel))) (by decide +kernel)
set_option maxRecDepth 20000 in
theorem t_1381 : (Jvm.Cond.fieldLink "MatchTreesModel" (51 : Nat) "MatchTreesModel" "bank" "I") ∈ WT := WT_of (sub_tables_1_6 _ (List.mem_of_getElem? (i := 52) (by decide +kernel))) (by decide +kernel)
set_option maxRecDepth 20000 in
theorem t_1382 : (Jvm.Cond.fieldLink "MatchTreesModel" (54 : Nat) "MatchTreesModel" "kindMany" "[I") ∈ WT := WT_of (sub_tables_1_6 _ (List.mem_of_getElem? (i := 53) (by decide +kernel))) (by decide +kernel)
set_option maxRecDepth 20000 in
theorem t_1383 : (Jvm.Cond.fieldLink "MatchTreesModel" (57 : Nat) "MatchTreesModel" "kindValues" "[I") ∈ WT := WT_of (sub_tables_1_6 _ (List.mem_of_getElem? (i := 54) (by decide +kernel))) (by decide +kernel)
set_option maxRecDepth 20000 in
theorem t_1384 : (Jvm.Cond.fieldLink "MatchTreesModel" (60 : Nat) "MatchTreesModel" "kindCons" "[I") ∈ WT := WT_of (sub_tables_1_6 _ (List.mem_of_getElem? (i := 55) (by decide +kernel))) (by decide +kernel)
set_option maxRecDepth 20000 in
theorem t_1385 : (Jvm.Cond.fieldLink "MatchTreesModel" (63 : Nat) "MatchTreesModel" "conMany" "[I") ∈ WT := WT_of (sub_tables_1_6 _ (List.mem_of_getElem? (i := 56) (by decide +kernel))) (by decide +kernel)
set_option maxRecDepth 20000 in
theorem t_1386 : (Jvm.Cond.fieldLink "MatchTreesModel" (66 : Nat) "MatchTreesModel" "conKind" "[I") ∈ WT := WT_of (sub_tables_1_6 _ (List.mem_of_getElem? (i := 57) (by decide +kernel))) (by decide +kernel)
set_option maxRecDepth 20000 in
theorem t_1387 : (Jvm.Cond.fieldLink "MatchTreesModel" (69 : Nat) "MatchTreesModel" "conFields" "[I") ∈ WT := WT_of (sub_tables_1_6 _ (List.mem_of_getElem? (i := 58) (by decide +kernel))) (by decide +kernel)
set_option maxRecDepth 20000 in
theorem t_1388 : (Jvm.Cond.fieldLink "MatchTreesModel" (72 : Nat) "MatchTreesModel" "conField" "[I") ∈ WT := WT_of (sub_tables_1_6 _ (List.mem_of_getElem? (i := 59) (by decide +kernel))) (by decide +kernel)
set_option maxRecDepth 20000 in
theorem t_1389 : (Jvm.Cond.fieldLink "MatchTreesModel" (75 : Nat) "MatchTreesModel" "conFrom" "[I") ∈ WT := WT_of (sub_tables_1_6 _ (List.mem_of_getElem? (i := 60) (by decide +kernel))) (by decide +kernel)
set_option maxRecDepth 20000 in
theorem t_1390 : (Jvm.Cond.fieldLink "MatchTreesModel" (78 : Nat) "MatchTreesModel" "conValues" "[I") ∈ WT := WT_of (sub_tables_1_6 _ (List.mem_of_getElem? (i := 61) (by decide +kernel))) (by decide +kernel)
set_option maxRecDepth 20000 in
theorem t_1391 : (Jvm.Cond.fieldLink "MatchTreesModel" (81 : Nat) "MatchTreesModel" "columnMany" "[I") ∈ WT := WT_of (sub_tables_1_6 _ (List.mem_of_getElem? (i := 62) (by decide +kernel))) (by decide +kernel)
set_option maxRecDepth 20000 in
theorem t_1392 : (Jvm.Cond.fieldLink "MatchTreesModel" (84 : Nat) "MatchTreesModel" "columnKind" "[I") ∈ WT := WT_of (sub_tables_1_6 _ (List.mem_of_getElem? (i := 63) (by decide +kernel))) (by decide +kernel)
set_option maxRecDepth 20000 in
theorem t_1393 : (Jvm.Cond.fieldLink "MatchTreesModel" (87 : Nat) "MatchTreesModel" "armMany" "[I") ∈ WT := WT_of (sub_tables_1_6 _ (List.mem_of_getElem? (i := 64) (by decide +kernel))) (by decide +kernel)
set_option maxRecDepth 20000 in
theorem t_1394 : (Jvm.Cond.fieldLink "MatchTreesModel" (90 : Nat) "MatchTreesModel" "armGuard" "[I") ∈ WT := WT_of (sub_tables_1_6 _ (List.mem_of_getElem? (i := 65) (by decide +kernel))) (by decide +kernel)
set_option maxRecDepth 20000 in
theorem t_1395 : (Jvm.Cond.fieldLink "MatchTreesModel" (93 : Nat) "MatchTreesModel" "ruleTold" "[I") ∈ WT := WT_of (sub_tables_1_6 _ (List.mem_of_getElem? (i := 66) (by decide +kernel))) (by decide +kernel)
set_option maxRecDepth 20000 in
theorem t_1396 : (Jvm.Cond.fieldLink "MatchTreesModel" (96 : Nat) "MatchTreesModel" "budgetTold" "[I") ∈ WT := WT_of (sub_tables_1_6 _ (List.mem_of_getElem? (i := 67) (by decide +kernel))) (by decide +kernel)
set_option maxRecDepth 20000 in
theorem t_1397 : (Jvm.Cond.fieldLink "MatchTreesModel" (99 : Nat) "MatchTreesModel" "patFrom" "[I") ∈ WT := WT_of (sub_tables_1_6 _ (List.mem_of_getElem? (i := 68) (by decide +kernel))) (by decide +kernel)
set_option maxRecDepth 20000 in
theorem t_1398 : (Jvm.Cond.fieldLink "MatchTreesModel" (102 : Nat) "MatchTreesModel" "patBehind" "[I") ∈ WT := WT_of (sub_tables_1_6 _ (List.mem_of_getElem? (i := 69) (by decide +kernel))) (by decide +kernel)
set_option maxRecDepth 20000 in
theorem t_1399 : (Jvm.Cond.fieldLink "MatchTreesModel" (105 : Nat) "MatchTreesModel" "codeOp" "[I") ∈ WT := WT_of (sub_tables_1_6 _ (List.mem_of_getElem? (i := 70) (by decide +kernel))) (by decide +kernel)
set_option maxRecDepth 20000 in
theorem t_1400 : (Jvm.Cond.fieldLink "MatchTreesModel" (108 : Nat) "MatchTreesModel" "codeA" "[I") ∈ WT := WT_of (sub_tables_1_6 _ (List.mem_of_getElem? (i := 71) (by decide +kernel))) (by decide +kernel)
set_option maxRecDepth 20000 in
theorem t_1401 : (Jvm.Cond.fieldLink "MatchTreesModel" (111 : Nat) "MatchTreesModel" "codeB" "[I") ∈ WT := WT_of (sub_tables_1_6 _ (List.mem_of_getElem? (i := 72) (by decide +kernel))) (by decide +kernel)
set_option maxRecDepth 20000 in
theorem t_1402 : (Jvm.Cond.fieldLink "MatchTreesModel" (114 : Nat) "MatchTreesModel" "kindName" "[J") ∈ WT := WT_of (sub_tables_1_6 _ (List.mem_of_getElem? (i := 73) (by decide +kernel))) (by decide +kernel)
set_option maxRecDepth 20000 in
theorem t_1403 : (Jvm.Cond.fieldLink "MatchTreesModel" (118 : Nat) "MatchTreesModel" "conName" "[J") ∈ WT := WT_of (sub_tables_1_6 _ (List.mem_of_getElem? (i := 74) (by decide +kernel))) (by decide +kernel)
set_option maxRecDepth 20000 in
theorem t_1404 : (Jvm.Cond.fieldLink "MatchTreesModel" (121 : Nat) "MatchTreesModel" "codes" "I") ∈ WT := WT_of (sub_tables_1_6 _ (List.mem_of_getElem? (i := 75) (by decide +kernel))) (by decide +kernel)
set_option maxRecDepth 20000 in
theorem t_1405 : (Jvm.Cond.fieldLink "MatchTreesModel" (124 : Nat) "MatchTreesModel" "in" "I") ∈ WT := WT_of (sub_tables_1_6 _ (List.mem_of_getElem? (i := 76) (by decide +kernel))) (by decide +kernel)
set_option maxRecDepth 20000 in
theorem t_1406 : (Jvm.Cond.fieldLink "MatchTreesModel" (127 : Nat) "MatchTreesModel" "isMatched" "Z") ∈ WT := WT_of (sub_tables_1_6 _ (List.mem_of_getElem? (i := 77) (by decide +kernel))) (by decide +kernel)
set_option maxRecDepth 20000 in
theorem t_1407 : (Jvm.Cond.fieldLink "MatchTreesModel" (131 : Nat) "MatchTreesModel" "openKind" "[I") ∈ WT := WT_of (sub_tables_1_6 _ (List.mem_of_getElem? (i := 78) (by decide +kernel))) (by decide +kernel)
set_option maxRecDepth 20000 in
theorem t_1408 : (Jvm.Cond.fieldLink "MatchTreesModel" (134 : Nat) "MatchTreesModel" "openAlts" "[I") ∈ WT := WT_of (sub_tables_1_6 _ (List.mem_of_getElem? (i := 79) (by decide +kernel))) (by decide +kernel)
set_option maxRecDepth 20000 in
theorem t_1409 : (Jvm.Cond.fieldLink "MatchTreesModel" (137 : Nat) "MatchTreesModel" "openCon" "[I") ∈ WT := WT_of (sub_tables_1_6 _ (List.mem_of_getElem? (i := 80) (by decide +kernel))) (by decide +kernel)
set_option maxRecDepth 20000 in
theorem t_1410 : (Jvm.Cond.fieldLink "MatchTreesModel" (140 : Nat) "MatchTreesModel" "openField" "[I") ∈ WT := WT_of (sub_tables_1_6 _ (List.mem_of_getElem? (i := 81) (by decide +kernel))) (by decide +kernel)
set_option maxRecDepth 20000 in
theorem t_1411 : (Jvm.Cond.fieldLink "MatchTreesModel" (143 : Nat) "MatchTreesModel" "open" "I") ∈ WT := WT_of (sub_tables_1_6 _ (List.mem_of_getElem? (i := 82) (by decide +kernel))) (by decide +kernel)
set_option maxRecDepth 20000 in
theorem t_1412 : (Jvm.Cond.fieldLink "MatchTreesModel" (146 : Nat) "MatchTreesModel" "isMatch" "Z") ∈ WT := WT_of (sub_tables_1_6 _ (List.mem_of_getElem? (i := 83) (by decide +kernel))) (by decide +kernel)
set_option maxRecDepth 20000 in
theorem t_1413 : (Jvm.Cond.fieldLink "MatchTreesModel" (149 : Nat) "MatchTreesModel" "refused" "[I") ∈ WT := WT_of (sub_tables_1_6 _ (List.mem_of_getElem? (i := 84) (by decide +kernel))) (by decide +kernel)
set_option maxRecDepth 20000 in
theorem t_1414 : (Jvm.Cond.fieldLink "MatchTreesModel" (152 : Nat) "MatchTreesModel" "gone" "[I") ∈ WT := WT_of (sub_tables_1_6 _ (List.mem_of_getElem? (i := 85) (by decide +kernel))) (by decide +kernel)
set_option maxRecDepth 20000 in
theorem t_1415 : (Jvm.Cond.fieldLink "MatchTreesModel" (155 : Nat) "MatchTreesModel" "truth" "[I") ∈ WT := WT_of (sub_tables_1_6 _ (List.mem_of_getElem? (i := 86) (by decide +kernel))) (by decide +kernel)
set_option maxRecDepth 20000 in
theorem t_1416 : (Jvm.Cond.fieldLink "MatchTreesModel" (158 : Nat) "MatchTreesModel" "setOf" "[I") ∈ WT := WT_of (sub_tables_1_6 _ (List.mem_of_getElem? (i := 87) (by decide +kernel))) (by decide +kernel)
set_option maxRecDepth 20000 in
theorem t_1417 : (Jvm.Cond.fieldLink "MatchTreesModel" (161 : Nat) "MatchTreesModel" "toldSet" "[I") ∈ WT := WT_of (sub_tables_1_6 _ (List.mem_of_getElem? (i := 88) (by decide +kernel))) (by decide +kernel)
set_option maxRecDepth 20000 in
theorem t_1418 : (Jvm.Cond.fieldLink "MatchTreesModel" (164 : Nat) "MatchTreesModel" "setMany" "[I") ∈ WT := WT_of (sub_tables_1_6 _ (List.mem_of_getElem? (i := 89) (by decide +kernel))) (by decide +kernel)
set_option maxRecDepth 20000 in
theorem t_1419 : (Jvm.Cond.fieldLink "MatchTreesModel" (167 : Nat) "MatchTreesModel" "setNumber" "[I") ∈ WT := WT_of (sub_tables_1_6 _ (List.mem_of_getElem? (i := 90) (by decide +kernel))) (by decide +kernel)
set_option maxRecDepth 20000 in
theorem t_1420 : (Jvm.Cond.fieldLink "MatchTreesModel" (170 : Nat) "MatchTreesModel" "rowMany" "I") ∈ WT := WT_of (sub_tables_1_6 _ (List.mem_of_getElem? (i := 91) (by decide +kernel))) (by decide +kernel)
set_option maxRecDepth 20000 in
theorem t_1421 : (Jvm.Cond.fieldLink "MatchTreesModel" (173 : Nat) "MatchTreesModel" "armsOf" "[I") ∈ WT := WT_of (sub_tables_1_6 _ (List.mem_of_getElem? (i := 92) (by decide +kernel))) (by decide +kernel)
set_option maxRecDepth 20000 in
theorem t_1422 : (Jvm.Cond.fieldLink "MatchTreesModel" (176 : Nat) "MatchTreesModel" "orderOf" "[I") ∈ WT := WT_of (sub_tables_1_6 _ (List.mem_of_getElem? (i := 93) (by decide +kernel))) (by decide +kernel)
set_option maxRecDepth 20000 in
theorem t_1423 : (Jvm.Cond.fieldLink "MatchTreesModel" (179 : Nat) "MatchTreesModel" "guardsOf" "[I") ∈ WT := WT_of (sub_tables_1_6 _ (List.mem_of_getElem? (i := 94) (by decide +kernel))) (by decide +kernel)
set_option maxRecDepth 20000 in
theorem t_1424 : (Jvm.Cond.fieldLink "MatchTreesModel" (182 : Nat) "MatchTreesModel" "ruleOf" "[I") ∈ WT := WT_of (sub_tables_1_6 _ (List.mem_of_getElem? (i := 95) (by decide +kernel))) (by decide +kernel)
set_option maxRecDepth 20000 in
theorem t_1425 : (Jvm.Cond.fieldLink "MatchTreesModel" (185 : Nat) "MatchTreesModel" "keptMany" "[I") ∈ WT := WT_of (sub_tables_1_6 _ (List.mem_of_getElem? (i := 96) (by decide +kernel))) (by decide +kernel)
set_option maxRecDepth 20000 in
theorem t_1426 : (Jvm.Cond.fieldLink "MatchTreesModel" (188 : Nat) "MatchTreesModel" "keptRow" "[I") ∈ WT := WT_of (sub_tables_1_6 _ (List.mem_of_getElem? (i := 97) (by decide +kernel))) (by decide +kernel)
set_option maxRecDepth 20000 in
theorem t_1427 : (Jvm.Cond.fieldLink "MatchTreesModel" (191 : Nat) "MatchTreesModel" "undoFirst" "I") ∈ WT := WT_of (sub_tables_1_6 _ (List.mem_of_getElem? (i := 98) (by decide +kernel))) (by decide +kernel)
set_option maxRecDepth 20000 in
theorem t_1428 : (Jvm.Cond.fieldLink "MatchTreesModel" (194 : Nat) "MatchTreesModel" "undos" "I") ∈ WT := WT_of (sub_tables_1_6 _ (List.mem_of_getElem? (i := 99) (by decide +kernel))) (by decide +kernel)
set_option maxRecDepth 20000 in
theorem t_1429 : (Jvm.Cond.fieldLink "MatchTreesModel" (197 : Nat) "MatchTreesModel" "seeds" "J") ∈ WT := WT_of (sub_tables_1_6 _ (List.mem_of_getElem? (i := 100) (by decide +kernel))) (by decide +kernel)
set_option maxRecDepth 20000 in
theorem t_1430 : (Jvm.Cond.fieldLink "MatchTreesModel" (200 : Nat) "MatchTreesModel" "places" "I") ∈ WT := WT_of (sub_tables_1_6 _ (List.mem_of_getElem? (i := 101) (by decide +kernel))) (by decide +kernel)
set_option maxRecDepth 20000 in
theorem t_1431 : (Jvm.Cond.fieldLink "MatchTreesModel" (203 : Nat) "MatchTreesModel" "placeSet" "[I") ∈ WT := WT_of (sub_tables_1_6 _ (List.mem_of_getElem? (i := 102) (by decide +kernel))) (by decide +kernel)
set_option maxRecDepth 20000 in
theorem t_1432 : (Jvm.Cond.fieldLink "MatchTreesModel" (206 : Nat) "MatchTreesModel" "fullIn" "[I") ∈ WT := WT_of (sub_tables_1_6 _ (List.mem_of_getElem? (i := 103) (by decide +kernel))) (by decide +kernel)
set_option maxRecDepth 20000 in
theorem t_1433 : (Jvm.Cond.fieldLink "MatchTreesModel" (209 : Nat) "MatchTreesModel" "guardAt" "[I") ∈ WT := WT_of (sub_tables_1_6 _ (List.mem_of_getElem? (i := 104) (by decide +kernel))) (by decide +kernel)
set_option maxRecDepth 20000 in
theorem t_1434 : (Jvm.Cond.fieldLink "MatchTreesModel" (212 : Nat) "MatchTreesModel" "unguarded" "I") ∈ WT := WT_of (sub_tables_1_6 _ (List.mem_of_getElem? (i := 105) (by decide +kernel))) (by decide +kernel)
set_option maxRecDepth 20000 in
theorem t_1435 : (Jvm.Cond.fieldLink "MatchTreesModel" (215 : Nat) "MatchTreesModel" "valueAt" "[I") ∈ WT := WT_of (sub_tables_1_6 _ (List.mem_of_getElem? (i := 106) (by decide +kernel))) (by decide +kernel)
set_option maxRecDepth 20000 in
theorem t_1436 : (Jvm.Cond.fieldLink "MatchTreesModel" (218 : Nat) "MatchTreesModel" "manyBy" "[I") ∈ WT := WT_of (sub_tables_1_6 _ (List.mem_of_getElem? (i := 107) (by decide +kernel))) (by decide +kernel)
set_option maxRecDepth 20000 in
theorem t_1437 : (Jvm.Cond.fieldLink "MatchTreesModel" (221 : Nat) "MatchTreesModel" "out" "[I") ∈ WT := WT_of (sub_tables_1_6 _ (List.mem_of_getElem? (i := 108) (by decide +kernel))) (by decide +kernel)
set_option maxRecDepth 20000 in
theorem t_1438 : (Jvm.Cond.fieldLink "MatchTreesModel" (224 : Nat) "MatchTreesModel" "outs" "I") ∈ WT := WT_of (sub_tables_1_6 _ (List.mem_of_getElem? (i := 109) (by decide +kernel))) (by decide +kernel)
set_option maxRecDepth 20000 in
theorem t_1439 : (Jvm.Cond.fieldLink "MatchTreesModel" (227 : Nat) "MatchTreesModel" "todoKind" "[I") ∈ WT := WT_of (sub_tables_1_6 _ (List.mem_of_getElem? (i := 110) (by decide +kernel))) (by decide +kernel)
set_option maxRecDepth 20000 in
theorem t_1440 : (Jvm.Cond.fieldLink "MatchTreesModel" (230 : Nat) "MatchTreesModel" "todo" "[I") ∈ WT := WT_of (sub_tables_1_6 _ (List.mem_of_getElem? (i := 111) (by decide +kernel))) (by decide +kernel)
set_option maxRecDepth 20000 in
theorem t_1441 : (Jvm.Cond.fieldLink "MatchTreesModel" (233 : Nat) "MatchTreesModel" "todos" "I") ∈ WT := WT_of (sub_tables_1_6 _ (List.mem_of_getElem? (i := 112) (by decide +kernel))) (by decide +kernel)
set_option maxRecDepth 20000 in
theorem t_1442 : (Jvm.Cond.fieldLink "MatchTreesModel" (236 : Nat) "MatchTreesModel" "stamp" "I") ∈ WT := WT_of (sub_tables_1_6 _ (List.mem_of_getElem? (i := 113) (by decide +kernel))) (by decide +kernel)
set_option maxRecDepth 20000 in
theorem t_1443 : (Jvm.Cond.fieldLink "MatchTreesModel" (240 : Nat) "MatchTreesModel" "chosen" "[I") ∈ WT := WT_of (sub_tables_1_6 _ (List.mem_of_getElem? (i := 114) (by decide +kernel))) (by decide +kernel)
set_option maxRecDepth 20000 in
theorem t_1444 : (Jvm.Cond.fieldLink "MatchTreesModel" (243 : Nat) "MatchTreesModel" "ruleNow" "I") ∈ WT := WT_of (sub_tables_1_6 _ (List.mem_of_getElem? (i := 115) (by decide +kernel))) (by decide +kernel)
set_option maxRecDepth 20000 in
theorem t_1445 : (Jvm.Cond.fieldLink "MatchTreesModel" (246 : Nat) "MatchTreesModel" "metBy" "[I") ∈ WT := WT_of (sub_tables_1_6 _ (List.mem_of_getElem? (i := 116) (by decide +kernel))) (by decide +kernel)
set_option maxRecDepth 20000 in
theorem t_1446 : (Jvm.Cond.fieldLink "MatchTreesModel" (249 : Nat) "MatchTreesModel" "meeting" "I") ∈ WT := WT_of (sub_tables_1_6 _ (List.mem_of_getElem? (i := 117) (by decide +kernel))) (by decide +kernel)
set_option maxRecDepth 20000 in
theorem t_1447 : (Jvm.Cond.fieldLink "MatchTreesModel" (252 : Nat) "MatchTreesModel" "reached" "[I") ∈ WT := WT_of (sub_tables_1_6 _ (List.mem_of_getElem? (i := 118) (by decide +kernel))) (by decide +kernel)
set_option maxRecDepth 20000 in
theorem t_1448 : (Jvm.Cond.fieldLink "MatchTreesModel" (255 : Nat) "MatchTreesModel" "states" "[I") ∈ WT := WT_of (sub_tables_1_6 _ (List.mem_of_getElem? (i := 119) (by decide +kernel))) (by decide +kernel)
set_option maxRecDepth 20000 in
theorem t_1449 : (Jvm.Cond.fieldLink "MatchTreesModel" (258 : Nat) "MatchTreesModel" "stateMany" "I") ∈ WT := WT_of (sub_tables_1_6 _ (List.mem_of_getElem? (i := 120) (by decide +kernel))) (by decide +kernel)
set_option maxRecDepth 20000 in
theorem t_1450 : (Jvm.Cond.fieldLink "MatchTreesModel" (261 : Nat) "MatchTreesModel" "below" "[I") ∈ WT := WT_of (sub_tables_1_6 _ (List.mem_of_getElem? (i := 121) (by decide +kernel))) (by decide +kernel)
set_option maxRecDepth 20000 in
theorem t_1451 : (Jvm.Cond.fieldLink "MatchTreesModel" (264 : Nat) "MatchTreesModel" "openLeft" "[I") ∈ WT := WT_of (sub_tables_1_6 _ (List.mem_of_getElem? (i := 122) (by decide +kernel))) (by decide +kernel)
set_option maxRecDepth 20000 in
theorem t_1452 : (Jvm.Cond.fieldLink "MatchTreesModel" (267 : Nat) "MatchTreesModel" "openNext" "[I") ∈ WT := WT_of (sub_tables_1_6 _ (List.mem_of_getElem? (i := 123) (by decide +kernel))) (by decide +kernel)
set_option maxRecDepth 20000 in
theorem t_1453 : (Jvm.Cond.fieldLink "MatchTreesModel" (270 : Nat) "MatchTreesModel" "openScope" "[I") ∈ WT := WT_of (sub_tables_1_6 _ (List.mem_of_getElem? (i := 124) (by decide +kernel))) (by decide +kernel)
set_option maxRecDepth 20000 in
theorem t_1454 : (Jvm.Cond.fieldLink "MatchTreesModel" (273 : Nat) "MatchTreesModel" "shut" "[I") ∈ WT := WT_of (sub_tables_1_6 _ (List.mem_of_getElem? (i := 125) (by decide +kernel))) (by decide +kernel)
set_option maxRecDepth 20000 in
theorem t_1455 : (Jvm.Cond.fieldLink "MatchTreesModel" (276 : Nat) "MatchTreesModel" "scopeMany" "I") ∈ WT := WT_of (sub_tables_1_6 _ (List.mem_of_getElem? (i := 126) (by decide +kernel))) (by decide +kernel)
set_option maxRecDepth 20000 in
theorem t_1456 : (Jvm.Cond.fieldLink "MatchTreesModel" (279 : Nat) "MatchTreesModel" "shutMany" "I") ∈ WT := WT_of (sub_tables_1_6 _ (List.mem_of_getElem? (i := 127) (by decide +kernel))) (by decide +kernel)
set_option maxRecDepth 20000 in
theorem t_1457 : (Jvm.Cond.fieldLink "MatchTreesModel" (282 : Nat) "MatchTreesModel" "mostOpen" "I") ∈ WT := WT_of (sub_tables_1_6 _ (List.mem_of_getElem? (i := 128) (by decide +kernel))) (by decide +kernel)
set_option maxRecDepth 20000 in
theorem t_1458 : (Jvm.Cond.fieldLink "MatchTreesModel" (285 : Nat) "MatchTreesModel" "isStopped" "Z") ∈ WT := WT_of (sub_tables_1_6 _ (List.mem_of_getElem? (i := 129) (by decide +kernel))) (by decide +kernel)
set_option maxRecDepth 20000 in
theorem t_1459 : (Jvm.Cond.fieldLink "MatchTreesModel" (288 : Nat) "MatchTreesModel" "isFair" "[I") ∈ WT := WT_of (sub_tables_1_6 _ (List.mem_of_getElem? (i := 130) (by decide +kernel))) (by decide +kernel)
set_option maxRecDepth 20000 in
theorem t_1460 : (Jvm.Cond.fieldLink "MatchTreesModel" (291 : Nat) "MatchTreesModel" "seenMany" "I") ∈ WT := WT_of (sub_tables_1_6 _ (List.mem_of_getElem? (i := 131) (by decide +kernel))) (by decide +kernel)
set_option maxRecDepth 20000 in
theorem t_1461 : (Jvm.Cond.fieldLink "MatchTreesModel" (294 : Nat) "MatchTreesModel" "seenRow" "[I") ∈ WT := WT_of (sub_tables_1_6 _ (List.mem_of_getElem? (i := 132) (by decide +kernel))) (by decide +kernel)
set_option maxRecDepth 20000 in
theorem t_1462 : (Jvm.Cond.fieldLink "MatchTreesModel" (297 : Nat) "MatchTreesModel" "seenArm" "[I") ∈ WT := WT_of (sub_tables_1_6 _ (List.mem_of_getElem? (i := 133) (by decide +kernel))) (by decide +kernel)
set_option maxRecDepth 20000 in
theorem t_1463 : (Jvm.Cond.fieldLink "MatchTreesModel" (300 : Nat) "MatchTreesModel" "isLeft" "[I") ∈ WT := WT_of (sub_tables_1_6 _ (List.mem_of_getElem? (i := 134) (by decide +kernel))) (by decide +kernel)
set_option maxRecDepth 20000 in
theorem t_1464 : (Jvm.Cond.fieldLink "MatchTreesModel" (303 : Nat) "MatchTreesModel" "openOf" "[I") ∈ WT := WT_of (sub_tables_1_6 _ (List.mem_of_getElem? (i := 135) (by decide +kernel))) (by decide +kernel)
set_option maxRecDepth 20000 in
theorem t_1465 : (Jvm.Cond.fieldLink "MatchTreesModel" (306 : Nat) "MatchTreesModel" "manyArm" "[I") ∈ WT := WT_of (sub_tables_1_6 _ (List.mem_of_getElem? (i := 136) (by decide +kernel))) (by decide +kernel)
set_option maxRecDepth 20000 in
theorem t_1466 : (Jvm.Cond.laysFinal "MatchTreesModel" "MatchTreesModel" "tape" "[I") ∈ WT := WT_of (sub_tables_1_6 _ (List.mem_of_getElem? (i := 137) (by decide +kernel))) (by decide +kernel)
set_option maxRecDepth 20000 in
theorem t_1468 : (Jvm.Cond.lays "MatchTreesModel" "MatchTreesModel" "taped" "I") ∈ WT := WT_of (sub_tables_1_6 _ (List.mem_of_getElem? (i := 139) (by decide +kernel))) (by decide +kernel)
set_option maxRecDepth 20000 in
theorem t_1470 : (Jvm.Cond.lays "MatchTreesModel" "MatchTreesModel" "size" "I") ∈ WT := WT_of (sub_tables_1_6 _ (List.mem_of_getElem? (i := 141) (by decide +kernel))) (by decide +kernel)
set_option maxRecDepth 20000 in
theorem t_1472 : (Jvm.Cond.lays "MatchTreesModel" "MatchTreesModel" "sign" "I") ∈ WT := WT_of (sub_tables_1_6 _ (List.mem_of_getElem? (i := 143) (by decide +kernel))) (by decide +kernel)
set_option maxRecDepth 20000 in
theorem t_1474 : (Jvm.Cond.lays "MatchTreesModel" "MatchTreesModel" "signAt" "I") ∈ WT := WT_of (sub_tables_1_6 _ (List.mem_of_getElem? (i := 145) (by decide +kernel))) (by decide +kernel)
set_option maxRecDepth 20000 in
theorem t_1476 : (Jvm.Cond.lays "MatchTreesModel" "MatchTreesModel" "signEnd" "I") ∈ WT := WT_of (sub_tables_1_6 _ (List.mem_of_getElem? (i := 147) (by decide +kernel))) (by decide +kernel)
set_option maxRecDepth 20000 in
theorem t_1478 : (Jvm.Cond.lays "MatchTreesModel" "MatchTreesModel" "value" "I") ∈ WT := WT_of (sub_tables_1_6 _ (List.mem_of_getElem? (i := 149) (by decide +kernel))) (by decide +kernel)
set_option maxRecDepth 20000 in
theorem t_1480 : (Jvm.Cond.lays "MatchTreesModel" "MatchTreesModel" "word" "J") ∈ WT := WT_of (sub_tables_1_6 _ (List.mem_of_getElem? (i := 151) (by decide +kernel))) (by decide +kernel)
set_option maxRecDepth 20000 in
theorem t_1482 : (Jvm.Cond.lays "MatchTreesModel" "MatchTreesModel" "faultKind" "I") ∈ WT := WT_of (sub_tables_1_6 _ (List.mem_of_getElem? (i := 153) (by decide +kernel))) (by decide +kernel)
set_option maxRecDepth 20000 in
theorem t_1484 : (Jvm.Cond.lays "MatchTreesModel" "MatchTreesModel" "faultPlace" "I") ∈ WT := WT_of (sub_tables_1_6 _ (List.mem_of_getElem? (i := 155) (by decide +kernel))) (by decide +kernel)
set_option maxRecDepth 20000 in
theorem t_1486 : (Jvm.Cond.lays "MatchTreesModel" "MatchTreesModel" "toldKind" "I") ∈ WT := WT_of (sub_tables_1_6 _ (List.mem_of_getElem? (i := 157) (by decide +kernel))) (by decide +kernel)
set_option maxRecDepth 20000 in
theorem t_1488 : (Jvm.Cond.lays "MatchTreesModel" "MatchTreesModel" "toldPlace" "I") ∈ WT := WT_of (sub_tables_1_6 _ (List.mem_of_getElem? (i := 159) (by decide +kernel))) (by decide +kernel)
set_option maxRecDepth 20000 in
theorem t_1490 : (Jvm.Cond.lays "MatchTreesModel" "MatchTreesModel" "lexAt" "I") ∈ WT := WT_of (sub_tables_1_6 _ (List.mem_of_getElem? (i := 161) (by decide +kernel))) (by decide +kernel)
set_option maxRecDepth 20000 in
theorem t_1492 : (Jvm.Cond.lays "MatchTreesModel" "MatchTreesModel" "bank" "I") ∈ WT := WT_of (sub_tables_1_6 _ (List.mem_of_getElem? (i := 163) (by decide +kernel))) (by decide +kernel)
set_option maxRecDepth 20000 in
theorem t_1494 : (Jvm.Cond.laysFinal "MatchTreesModel" "MatchTreesModel" "kindMany" "[I") ∈ WT := WT_of (sub_tables_1_6 _ (List.mem_of_getElem? (i := 165) (by decide +kernel))) (by decide +kernel)
set_option maxRecDepth 20000 in
theorem t_1496 : (Jvm.Cond.laysFinal "MatchTreesModel" "MatchTreesModel" "kindValues" "[I") ∈ WT := WT_of (sub_tables_1_6 _ (List.mem_of_getElem? (i := 167) (by decide +kernel))) (by decide +kernel)
set_option maxRecDepth 20000 in
theorem t_1498 : (Jvm.Cond.laysFinal "MatchTreesModel" "MatchTreesModel" "kindCons" "[I") ∈ WT := WT_of (sub_tables_1_6 _ (List.mem_of_getElem? (i := 169) (by decide +kernel))) (by decide +kernel)
set_option maxRecDepth 20000 in
theorem t_1500 : (Jvm.Cond.laysFinal "MatchTreesModel" "MatchTreesModel" "conMany" "[I") ∈ WT := WT_of (sub_tables_1_6 _ (List.mem_of_getElem? (i := 171) (by decide +kernel))) (by decide +kernel)
set_option maxRecDepth 20000 in
theorem t_1502 : (Jvm.Cond.laysFinal "MatchTreesModel" "MatchTreesModel" "conKind" "[I") ∈ WT := WT_of (sub_tables_1_6 _ (List.mem_of_getElem? (i := 173) (by decide +kernel))) (by decide +kernel)
set_option maxRecDepth 20000 in
theorem t_1504 : (Jvm.Cond.laysFinal "MatchTreesModel" "MatchTreesModel" "conFields" "[I") ∈ WT := WT_of (sub_tables_1_6 _ (List.mem_of_getElem? (i := 175) (by decide +kernel))) (by decide +kernel)
set_option maxRecDepth 20000 in
theorem t_1506 : (Jvm.Cond.laysFinal "MatchTreesModel" "MatchTreesModel" "conField" "[I") ∈ WT := WT_of (sub_tables_1_6 _ (List.mem_of_getElem? (i := 177) (by decide +kernel))) (by decide +kernel)
set_option maxRecDepth 20000 in
theorem t_1508 : (Jvm.Cond.laysFinal "MatchTreesModel" "MatchTreesModel" "conFrom" "[I") ∈ WT := WT_of (sub_tables_1_6 _ (List.mem_of_getElem? (i := 179) (by decide +kernel))) (by decide +kernel)
set_option maxRecDepth 20000 in
theorem t_1510 : (Jvm.Cond.laysFinal "MatchTreesModel" "MatchTreesModel" "conValues" "[I") ∈ WT := WT_of (sub_tables_1_6 _ (List.mem_of_getElem? (i := 181) (by decide +kernel))) (by decide +kernel)
set_option maxRecDepth 20000 in
theorem t_1512 : (Jvm.Cond.laysFinal "MatchTreesModel" "MatchTreesModel" "columnMany" "[I") ∈ WT := WT_of (sub_tables_1_6 _ (List.mem_of_getElem? (i := 183) (by decide +kernel))) (by decide +kernel)
set_option maxRecDepth 20000 in
theorem t_1514 : (Jvm.Cond.laysFinal "MatchTreesModel" "MatchTreesModel" "columnKind" "[I") ∈ WT := WT_of (sub_tables_1_6 _ (List.mem_of_getElem? (i := 185) (by decide +kernel))) (by decide +kernel)
set_option maxRecDepth 20000 in
theorem t_1516 : (Jvm.Cond.laysFinal "MatchTreesModel" "MatchTreesModel" "armMany" "[I") ∈ WT := WT_of (sub_tables_1_6 _ (List.mem_of_getElem? (i := 187) (by decide +kernel))) (by decide +kernel)
set_option maxRecDepth 20000 in
theorem t_1518 : (Jvm.Cond.laysFinal "MatchTreesModel" "MatchTreesModel" "armGuard" "[I") ∈ WT := WT_of (sub_tables_1_6 _ (List.mem_of_getElem? (i := 189) (by decide +kernel))) (by decide +kernel)
set_option maxRecDepth 20000 in
theorem t_1520 : (Jvm.Cond.laysFinal "MatchTreesModel" "MatchTreesModel" "ruleTold" "[I") ∈ WT := WT_of (sub_tables_1_6 _ (List.mem_of_getElem? (i := 191) (by decide +kernel))) (by decide +kernel)
set_option maxRecDepth 20000 in
theorem t_1522 : (Jvm.Cond.laysFinal "MatchTreesModel" "MatchTreesModel" "budgetTold" "[I") ∈ WT := WT_of (sub_tables_1_6 _ (List.mem_of_getElem? (i := 193) (by decide +kernel))) (by decide +kernel)
set_option maxRecDepth 20000 in
theorem t_1524 : (Jvm.Cond.laysFinal "MatchTreesModel" "MatchTreesModel" "patFrom" "[I") ∈ WT := WT_of (sub_tables_1_6 _ (List.mem_of_getElem? (i := 195) (by decide +kernel))) (by decide +kernel)
set_option maxRecDepth 20000 in
theorem t_1526 : (Jvm.Cond.laysFinal "MatchTreesModel" "MatchTreesModel" "patBehind" "[I") ∈ WT := WT_of (sub_tables_1_6 _ (List.mem_of_getElem? (i := 197) (by decide +kernel))) (by decide +kernel)
set_option maxRecDepth 20000 in
theorem t_1528 : (Jvm.Cond.laysFinal "MatchTreesModel" "MatchTreesModel" "codeOp" "[I") ∈ WT := WT_of (sub_tables_1_6 _ (List.mem_of_getElem? (i := 199) (by decide +kernel))) (by decide +kernel)
set_option maxRecDepth 20000 in
theorem t_1530 : (Jvm.Cond.laysFinal "MatchTreesModel" "MatchTreesModel" "codeA" "[I") ∈ WT := WT_of (sub_tables_1_6 _ (List.mem_of_getElem? (i := 201) (by decide +kernel))) (by decide +kernel)
set_option maxRecDepth 20000 in
theorem t_1532 : (Jvm.Cond.laysFinal "MatchTreesModel" "MatchTreesModel" "codeB" "[I") ∈ WT := WT_of (sub_tables_1_6 _ (List.mem_of_getElem? (i := 203) (by decide +kernel))) (by decide +kernel)
set_option maxRecDepth 20000 in
theorem t_1534 : (Jvm.Cond.laysFinal "MatchTreesModel" "MatchTreesModel" "kindName" "[J") ∈ WT := WT_of (sub_tables_1_6 _ (List.mem_of_getElem? (i := 205) (by decide +kernel))) (by decide +kernel)
set_option maxRecDepth 20000 in
theorem t_1536 : (Jvm.Cond.laysFinal "MatchTreesModel" "MatchTreesModel" "conName" "[J") ∈ WT := WT_of (sub_tables_1_6 _ (List.mem_of_getElem? (i := 207) (by decide +kernel))) (by decide +kernel)
set_option maxRecDepth 20000 in
theorem t_1538 : (Jvm.Cond.lays "MatchTreesModel" "MatchTreesModel" "codes" "I") ∈ WT := WT_of (sub_tables_1_6 _ (List.mem_of_getElem? (i := 209) (by decide +kernel))) (by decide +kernel)
set_option maxRecDepth 20000 in
theorem t_1540 : (Jvm.Cond.lays "MatchTreesModel" "MatchTreesModel" "in" "I") ∈ WT := WT_of (sub_tables_1_6 _ (List.mem_of_getElem? (i := 211) (by decide +kernel))) (by decide +kernel)
set_option maxRecDepth 20000 in
theorem t_1542 : (Jvm.Cond.lays "MatchTreesModel" "MatchTreesModel" "isMatched" "Z") ∈ WT := WT_of (sub_tables_1_6 _ (List.mem_of_getElem? (i := 213) (by decide +kernel))) (by decide +kernel)
set_option maxRecDepth 20000 in
theorem t_1544 : (Jvm.Cond.laysFinal "MatchTreesModel" "MatchTreesModel" "openKind" "[I") ∈ WT := WT_of (sub_tables_1_6 _ (List.mem_of_getElem? (i := 215) (by decide +kernel))) (by decide +kernel)
set_option maxRecDepth 20000 in
theorem t_1546 : (Jvm.Cond.laysFinal "MatchTreesModel" "MatchTreesModel" "openAlts" "[I") ∈ WT := WT_of (sub_tables_1_6 _ (List.mem_of_getElem? (i := 217) (by decide +kernel))) (by decide +kernel)
set_option maxRecDepth 20000 in
theorem t_1548 : (Jvm.Cond.laysFinal "MatchTreesModel" "MatchTreesModel" "openCon" "[I") ∈ WT := WT_of (sub_tables_1_6 _ (List.mem_of_getElem? (i := 219) (by decide +kernel))) (by decide +kernel)
set_option maxRecDepth 20000 in
theorem t_1550 : (Jvm.Cond.laysFinal "MatchTreesModel" "MatchTreesModel" "openField" "[I") ∈ WT := WT_of (sub_tables_1_6 _ (List.mem_of_getElem? (i := 221) (by decide +kernel))) (by decide +kernel)
set_option maxRecDepth 20000 in
theorem t_1552 : (Jvm.Cond.lays "MatchTreesModel" "MatchTreesModel" "open" "I") ∈ WT := WT_of (sub_tables_1_6 _ (List.mem_of_getElem? (i := 223) (by decide +kernel))) (by decide +kernel)
set_option maxRecDepth 20000 in
theorem t_1554 : (Jvm.Cond.lays "MatchTreesModel" "MatchTreesModel" "isMatch" "Z") ∈ WT := WT_of (sub_tables_1_6 _ (List.mem_of_getElem? (i := 225) (by decide +kernel))) (by decide +kernel)
set_option maxRecDepth 20000 in
theorem t_1556 : (Jvm.Cond.laysFinal "MatchTreesModel" "MatchTreesModel" "refused" "[I") ∈ WT := WT_of (sub_tables_1_6 _ (List.mem_of_getElem? (i := 227) (by decide +kernel))) (by decide +kernel)
set_option maxRecDepth 20000 in
theorem t_1558 : (Jvm.Cond.laysFinal "MatchTreesModel" "MatchTreesModel" "gone" "[I") ∈ WT := WT_of (sub_tables_1_6 _ (List.mem_of_getElem? (i := 229) (by decide +kernel))) (by decide +kernel)
set_option maxRecDepth 20000 in
theorem t_1560 : (Jvm.Cond.laysFinal "MatchTreesModel" "MatchTreesModel" "truth" "[I") ∈ WT := WT_of (sub_tables_1_6 _ (List.mem_of_getElem? (i := 231) (by decide +kernel))) (by decide +kernel)
set_option maxRecDepth 20000 in
theorem t_1562 : (Jvm.Cond.laysFinal "MatchTreesModel" "MatchTreesModel" "setOf" "[I") ∈ WT := WT_of (sub_tables_1_6 _ (List.mem_of_getElem? (i := 233) (by decide +kernel))) (by decide +kernel)
set_option maxRecDepth 20000 in
theorem t_1564 : (Jvm.Cond.laysFinal "MatchTreesModel" "MatchTreesModel" "toldSet" "[I") ∈ WT := WT_of (sub_tables_1_6 _ (List.mem_of_getElem? (i := 235) (by decide +kernel))) (by decide +kernel)
set_option maxRecDepth 20000 in
theorem t_1566 : (Jvm.Cond.laysFinal "MatchTreesModel" "MatchTreesModel" "setMany" "[I") ∈ WT := WT_of (sub_tables_1_6 _ (List.mem_of_getElem? (i := 237) (by decide +kernel))) (by decide +kernel)
set_option maxRecDepth 20000 in
theorem t_1568 : (Jvm.Cond.laysFinal "MatchTreesModel" "MatchTreesModel" "setNumber" "[I") ∈ WT := WT_of (sub_tables_1_6 _ (List.mem_of_getElem? (i := 239) (by decide +kernel))) (by decide +kernel)
set_option maxRecDepth 20000 in
theorem t_1570 : (Jvm.Cond.lays "MatchTreesModel" "MatchTreesModel" "rowMany" "I") ∈ WT := WT_of (sub_tables_1_7 _ (List.mem_of_getElem? (i := 1) (by decide +kernel))) (by decide +kernel)
set_option maxRecDepth 20000 in
theorem t_1572 : (Jvm.Cond.laysFinal "MatchTreesModel" "MatchTreesModel" "armsOf" "[I") ∈ WT := WT_of (sub_tables_1_7 _ (List.mem_of_getElem? (i := 3) (by decide +kernel))) (by decide +kernel)
set_option maxRecDepth 20000 in
theorem t_1574 : (Jvm.Cond.laysFinal "MatchTreesModel" "MatchTreesModel" "orderOf" "[I") ∈ WT := WT_of (sub_tables_1_7 _ (List.mem_of_getElem? (i := 5) (by decide +kernel))) (by decide +kernel)
set_option maxRecDepth 20000 in
theorem t_1576 : (Jvm.Cond.laysFinal "MatchTreesModel" "MatchTreesModel" "guardsOf" "[I") ∈ WT := WT_of (sub_tables_1_7 _ (List.mem_of_getElem? (i := 7) (by decide +kernel))) (by decide +kernel)
set_option maxRecDepth 20000 in
theorem t_1578 : (Jvm.Cond.laysFinal "MatchTreesModel" "MatchTreesModel" "ruleOf" "[I") ∈ WT := WT_of (sub_tables_1_7 _ (List.mem_of_getElem? (i := 9) (by decide +kernel))) (by decide +kernel)
set_option maxRecDepth 20000 in
theorem t_1580 : (Jvm.Cond.laysFinal "MatchTreesModel" "MatchTreesModel" "keptMany" "[I") ∈ WT := WT_of (sub_tables_1_7 _ (List.mem_of_getElem? (i := 11) (by decide +kernel))) (by decide +kernel)
set_option maxRecDepth 20000 in
theorem t_1582 : (Jvm.Cond.laysFinal "MatchTreesModel" "MatchTreesModel" "keptRow" "[I") ∈ WT := WT_of (sub_tables_1_7 _ (List.mem_of_getElem? (i := 13) (by decide +kernel))) (by decide +kernel)
set_option maxRecDepth 20000 in
theorem t_1584 : (Jvm.Cond.lays "MatchTreesModel" "MatchTreesModel" "undoFirst" "I") ∈ WT := WT_of (sub_tables_1_7 _ (List.mem_of_getElem? (i := 15) (by decide +kernel))) (by decide +kernel)
set_option maxRecDepth 20000 in
theorem t_1586 : (Jvm.Cond.lays "MatchTreesModel" "MatchTreesModel" "undos" "I") ∈ WT := WT_of (sub_tables_1_7 _ (List.mem_of_getElem? (i := 17) (by decide +kernel))) (by decide +kernel)
set_option maxRecDepth 20000 in
theorem t_1588 : (Jvm.Cond.lays "MatchTreesModel" "MatchTreesModel" "seeds" "J") ∈ WT := WT_of (sub_tables_1_7 _ (List.mem_of_getElem? (i := 19) (by decide +kernel))) (by decide +kernel)
set_option maxRecDepth 20000 in
theorem t_1590 : (Jvm.Cond.lays "MatchTreesModel" "MatchTreesModel" "places" "I") ∈ WT := WT_of (sub_tables_1_7 _ (List.mem_of_getElem? (i := 21) (by decide +kernel))) (by decide +kernel)
set_option maxRecDepth 20000 in
theorem t_1592 : (Jvm.Cond.laysFinal "MatchTreesModel" "MatchTreesModel" "placeSet" "[I") ∈ WT := WT_of (sub_tables_1_7 _ (List.mem_of_getElem? (i := 23) (by decide +kernel))) (by decide +kernel)
set_option maxRecDepth 20000 in
theorem t_1594 : (Jvm.Cond.laysFinal "MatchTreesModel" "MatchTreesModel" "fullIn" "[I") ∈ WT := WT_of (sub_tables_1_7 _ (List.mem_of_getElem? (i := 25) (by decide +kernel))) (by decide +kernel)
set_option maxRecDepth 20000 in
theorem t_1596 : (Jvm.Cond.laysFinal "MatchTreesModel" "MatchTreesModel" "guardAt" "[I") ∈ WT := WT_of (sub_tables_1_7 _ (List.mem_of_getElem? (i := 27) (by decide +kernel))) (by decide +kernel)
set_option maxRecDepth 20000 in
theorem t_1598 : (Jvm.Cond.lays "MatchTreesModel" "MatchTreesModel" "unguarded" "I") ∈ WT := WT_of (sub_tables_1_7 _ (List.mem_of_getElem? (i := 29) (by decide +kernel))) (by decide +kernel)
set_option maxRecDepth 20000 in
theorem t_1600 : (Jvm.Cond.laysFinal "MatchTreesModel" "MatchTreesModel" "valueAt" "[I") ∈ WT := WT_of (sub_tables_1_7 _ (List.mem_of_getElem? (i := 31) (by decide +kernel))) (by decide +kernel)
set_option maxRecDepth 20000 in
theorem t_1602 : (Jvm.Cond.laysFinal "MatchTreesModel" "MatchTreesModel" "manyBy" "[I") ∈ WT := WT_of (sub_tables_1_7 _ (List.mem_of_getElem? (i := 33) (by decide +kernel))) (by decide +kernel)
set_option maxRecDepth 20000 in
theorem t_1604 : (Jvm.Cond.laysFinal "MatchTreesModel" "MatchTreesModel" "out" "[I") ∈ WT := WT_of (sub_tables_1_7 _ (List.mem_of_getElem? (i := 35) (by decide +kernel))) (by decide +kernel)
set_option maxRecDepth 20000 in
theorem t_1606 : (Jvm.Cond.lays "MatchTreesModel" "MatchTreesModel" "outs" "I") ∈ WT := WT_of (sub_tables_1_7 _ (List.mem_of_getElem? (i := 37) (by decide +kernel))) (by decide +kernel)
set_option maxRecDepth 20000 in
theorem t_1608 : (Jvm.Cond.laysFinal "MatchTreesModel" "MatchTreesModel" "todoKind" "[I") ∈ WT := WT_of (sub_tables_1_7 _ (List.mem_of_getElem? (i := 39) (by decide +kernel))) (by decide +kernel)
set_option maxRecDepth 20000 in
theorem t_1610 : (Jvm.Cond.laysFinal "MatchTreesModel" "MatchTreesModel" "todo" "[I") ∈ WT := WT_of (sub_tables_1_7 _ (List.mem_of_getElem? (i := 41) (by decide +kernel))) (by decide +kernel)
set_option maxRecDepth 20000 in
theorem t_1612 : (Jvm.Cond.lays "MatchTreesModel" "MatchTreesModel" "todos" "I") ∈ WT := WT_of (sub_tables_1_7 _ (List.mem_of_getElem? (i := 43) (by decide +kernel))) (by decide +kernel)
set_option maxRecDepth 20000 in
theorem t_1614 : (Jvm.Cond.lays "MatchTreesModel" "MatchTreesModel" "stamp" "I") ∈ WT := WT_of (sub_tables_1_7 _ (List.mem_of_getElem? (i := 45) (by decide +kernel))) (by decide +kernel)
set_option maxRecDepth 20000 in
theorem t_1616 : (Jvm.Cond.laysFinal "MatchTreesModel" "MatchTreesModel" "chosen" "[I") ∈ WT := WT_of (sub_tables_1_7 _ (List.mem_of_getElem? (i := 47) (by decide +kernel))) (by decide +kernel)
set_option maxRecDepth 20000 in
theorem t_1618 : (Jvm.Cond.lays "MatchTreesModel" "MatchTreesModel" "ruleNow" "I") ∈ WT := WT_of (sub_tables_1_7 _ (List.mem_of_getElem? (i := 49) (by decide +kernel))) (by decide +kernel)
set_option maxRecDepth 20000 in
theorem t_1620 : (Jvm.Cond.laysFinal "MatchTreesModel" "MatchTreesModel" "metBy" "[I") ∈ WT := WT_of (sub_tables_1_7 _ (List.mem_of_getElem? (i := 51) (by decide +kernel))) (by decide +kernel)
set_option maxRecDepth 20000 in
theorem t_1622 : (Jvm.Cond.lays "MatchTreesModel" "MatchTreesModel" "meeting" "I") ∈ WT := WT_of (sub_tables_1_7 _ (List.mem_of_getElem? (i := 53) (by decide +kernel))) (by decide +kernel)
set_option maxRecDepth 20000 in
theorem t_1624 : (Jvm.Cond.laysFinal "MatchTreesModel" "MatchTreesModel" "reached" "[I") ∈ WT := WT_of (sub_tables_1_7 _ (List.mem_of_getElem? (i := 55) (by decide +kernel))) (by decide +kernel)
set_option maxRecDepth 20000 in
theorem t_1626 : (Jvm.Cond.laysFinal "MatchTreesModel" "MatchTreesModel" "states" "[I") ∈ WT := WT_of (sub_tables_1_7 _ (List.mem_of_getElem? (i := 57) (by decide +kernel))) (by decide +kernel)
set_option maxRecDepth 20000 in
theorem t_1628 : (Jvm.Cond.lays "MatchTreesModel" "MatchTreesModel" "stateMany" "I") ∈ WT := WT_of (sub_tables_1_7 _ (List.mem_of_getElem? (i := 59) (by decide +kernel))) (by decide +kernel)
set_option maxRecDepth 20000 in
theorem t_1630 : (Jvm.Cond.laysFinal "MatchTreesModel" "MatchTreesModel" "below" "[I") ∈ WT := WT_of (sub_tables_1_7 _ (List.mem_of_getElem? (i := 61) (by decide +kernel))) (by decide +kernel)
set_option maxRecDepth 20000 in
theorem t_1632 : (Jvm.Cond.laysFinal "MatchTreesModel" "MatchTreesModel" "openLeft" "[I") ∈ WT := WT_of (sub_tables_1_7 _ (List.mem_of_getElem? (i := 63) (by decide +kernel))) (by decide +kernel)
set_option maxRecDepth 20000 in
theorem t_1634 : (Jvm.Cond.laysFinal "MatchTreesModel" "MatchTreesModel" "openNext" "[I") ∈ WT := WT_of (sub_tables_1_7 _ (List.mem_of_getElem? (i := 65) (by decide +kernel))) (by decide +kernel)
set_option maxRecDepth 20000 in
theorem t_1636 : (Jvm.Cond.laysFinal "MatchTreesModel" "MatchTreesModel" "openScope" "[I") ∈ WT := WT_of (sub_tables_1_7 _ (List.mem_of_getElem? (i := 67) (by decide +kernel))) (by decide +kernel)
set_option maxRecDepth 20000 in
theorem t_1638 : (Jvm.Cond.laysFinal "MatchTreesModel" "MatchTreesModel" "shut" "[I") ∈ WT := WT_of (sub_tables_1_7 _ (List.mem_of_getElem? (i := 69) (by decide +kernel))) (by decide +kernel)
set_option maxRecDepth 20000 in
theorem t_1640 : (Jvm.Cond.lays "MatchTreesModel" "MatchTreesModel" "scopeMany" "I") ∈ WT := WT_of (sub_tables_1_7 _ (List.mem_of_getElem? (i := 71) (by decide +kernel))) (by decide +kernel)
set_option maxRecDepth 20000 in
theorem t_1642 : (Jvm.Cond.lays "MatchTreesModel" "MatchTreesModel" "shutMany" "I") ∈ WT := WT_of (sub_tables_1_7 _ (List.mem_of_getElem? (i := 73) (by decide +kernel))) (by decide +kernel)
set_option maxRecDepth 20000 in
theorem t_1644 : (Jvm.Cond.lays "MatchTreesModel" "MatchTreesModel" "mostOpen" "I") ∈ WT := WT_of (sub_tables_1_7 _ (List.mem_of_getElem? (i := 75) (by decide +kernel))) (by decide +kernel)
set_option maxRecDepth 20000 in
theorem t_1646 : (Jvm.Cond.lays "MatchTreesModel" "MatchTreesModel" "isStopped" "Z") ∈ WT := WT_of (sub_tables_1_7 _ (List.mem_of_getElem? (i := 77) (by decide +kernel))) (by decide +kernel)
set_option maxRecDepth 20000 in
theorem t_1648 : (Jvm.Cond.laysFinal "MatchTreesModel" "MatchTreesModel" "isFair" "[I") ∈ WT := WT_of (sub_tables_1_7 _ (List.mem_of_getElem? (i := 79) (by decide +kernel))) (by decide +kernel)
set_option maxRecDepth 20000 in
theorem t_1650 : (Jvm.Cond.lays "MatchTreesModel" "MatchTreesModel" "seenMany" "I") ∈ WT := WT_of (sub_tables_1_7 _ (List.mem_of_getElem? (i := 81) (by decide +kernel))) (by decide +kernel)
set_option maxRecDepth 20000 in
theorem t_1652 : (Jvm.Cond.laysFinal "MatchTreesModel" "MatchTreesModel" "seenRow" "[I") ∈ WT := WT_of (sub_tables_1_7 _ (List.mem_of_getElem? (i := 83) (by decide +kernel))) (by decide +kernel)
set_option maxRecDepth 20000 in
theorem t_1654 : (Jvm.Cond.laysFinal "MatchTreesModel" "MatchTreesModel" "seenArm" "[I") ∈ WT := WT_of (sub_tables_1_7 _ (List.mem_of_getElem? (i := 85) (by decide +kernel))) (by decide +kernel)
set_option maxRecDepth 20000 in
theorem t_1656 : (Jvm.Cond.laysFinal "MatchTreesModel" "MatchTreesModel" "isLeft" "[I") ∈ WT := WT_of (sub_tables_1_7 _ (List.mem_of_getElem? (i := 87) (by decide +kernel))) (by decide +kernel)
set_option maxRecDepth 20000 in
theorem t_1658 : (Jvm.Cond.laysFinal "MatchTreesModel" "MatchTreesModel" "openOf" "[I") ∈ WT := WT_of (sub_tables_1_7 _ (List.mem_of_getElem? (i := 89) (by decide +kernel))) (by decide +kernel)
set_option maxRecDepth 20000 in
theorem t_1660 : (Jvm.Cond.laysFinal "MatchTreesModel" "MatchTreesModel" "manyArm" "[I") ∈ WT := WT_of (sub_tables_1_7 _ (List.mem_of_getElem? (i := 91) (by decide +kernel))) (by decide +kernel)
set_option maxRecDepth 20000 in
theorem t_1663 : (Jvm.Cond.methodLink "MatchTreesLaw" (17 : Nat) ({ cls := "MatchTreesModel", name := "feed", desc := "(IIIII)I" } : Jvm.MethodName)) ∈ WT := WT_of (sub_tables_1_7 _ (List.mem_of_getElem? (i := 94) (by decide +kernel))) (by decide +kernel)
set_option maxRecDepth 20000 in
theorem t_1664 : (Jvm.Cond.instanceMethod ({ cls := "MatchTreesModel", name := "feed", desc := "(IIIII)I" } : Jvm.MethodName)) ∈ WT := WT_of (sub_tables_1_7 _ (List.mem_of_getElem? (i := 95) (by decide +kernel))) (by decide +kernel)
set_option maxRecDepth 20000 in
theorem t_1665 : (Jvm.Cond.selects "MatchTreesModel" ({ cls := "MatchTreesModel", name := "feed", desc := "(IIIII)I" } : Jvm.MethodName) ({ cls := "MatchTreesModel", name := "feed", desc := "(IIIII)I" } : Jvm.MethodName)) ∈ WT := WT_of (sub_tables_1_7 _ (List.mem_of_getElem? (i := 96) (by decide +kernel))) (by decide +kernel)
set_option maxRecDepth 20000 in
theorem t_1666 : (Jvm.Cond.code ({ cls := "MatchTreesModel", name := "feed", desc := "(IIIII)I" } : Jvm.MethodName) prog_14_method_4_code (6 : Nat) (Option.some Jvm.ClassFile.FieldType.int)) ∈ WT := WT_of (sub_tables_1_7 _ (List.mem_of_getElem? (i := 97) rfl)) (by decide +kernel)
set_option maxRecDepth 20000 in
theorem t_1667 : (Jvm.Cond.methodLink "MatchTreesModel" (312 : Nat) ({ cls := "MatchTreesModel", name := "refuses", desc := "(I)I" } : Jvm.MethodName)) ∈ WT := WT_of (sub_tables_1_7 _ (List.mem_of_getElem? (i := 98) (by decide +kernel))) (by decide +kernel)
set_option maxRecDepth 20000 in
theorem t_1669 : (Jvm.Cond.instanceMethod ({ cls := "MatchTreesModel", name := "refuses", desc := "(I)I" } : Jvm.MethodName)) ∈ WT := WT_of (sub_tables_1_7 _ (List.mem_of_getElem? (i := 100) (by decide +kernel))) (by decide +kernel)
set_option maxRecDepth 20000 in
theorem t_1670 : (Jvm.Cond.code ({ cls := "MatchTreesModel", name := "refuses", desc := "(I)I" } : Jvm.MethodName) prog_14_method_40_code (2 : Nat) (Option.some Jvm.ClassFile.FieldType.int)) ∈ WT := WT_of (sub_tables_1_7 _ (List.mem_of_getElem? (i := 101) rfl)) (by decide +kernel)
set_option maxRecDepth 20000 in
theorem t_1671 : (Jvm.Cond.methodLink "MatchTreesModel" (316 : Nat) ({ cls := "MatchTreesModel", name := "put", desc := "(I)V" } : Jvm.MethodName)) ∈ WT := WT_of (sub_tables_1_7 _ (List.mem_of_getElem? (i := 102) (by decide +kernel))) (by decide +kernel)
set_option maxRecDepth 20000 in
theorem t_1673 : (Jvm.Cond.instanceMethod ({ cls := "MatchTreesModel", name := "put", desc := "(I)V" } : Jvm.MethodName)) ∈ WT := WT_of (sub_tables_1_7 _ (List.mem_of_getElem? (i := 104) (by decide +kernel))) (by decide +kernel)
set_option maxRecDepth 20000 in
theorem t_1674 : (Jvm.Cond.code ({ cls := "MatchTreesModel", name := "put", desc := "(I)V" } : Jvm.MethodName) prog_14_method_3_code (3 : Nat) (Option.none : Option Jvm.ClassFile.FieldType)) ∈ WT := WT_of (sub_tables_1_7 _ (List.mem_of_getElem? (i := 105) rfl)) (by decide +kernel)
set_option maxRecDepth 20000 in
theorem t_1675 : (Jvm.Cond.methodLink "MatchTreesLaw" (22 : Nat) ({ cls := "MatchTreesModel", name := "end", desc := "(I)Z" } : Jvm.MethodName)) ∈ WT := WT_of (sub_tables_1_7 _ (List.mem_of_getElem? (i := 106) (by decide +kernel))) (by decide +kernel)
set_option maxRecDepth 20000 in
theorem t_1676 : (Jvm.Cond.instanceMethod ({ cls := "MatchTreesModel", name := "end", desc := "(I)Z" } : Jvm.MethodName)) ∈ WT := WT_of (sub_tables_1_7 _ (List.mem_of_getElem? (i := 107) (by decide +kernel))) (by decide +kernel)
set_option maxRecDepth 20000 in
theorem t_1677 : (Jvm.Cond.selects "MatchTreesModel" ({ cls := "MatchTreesModel", name := "end", desc := "(I)Z" } : Jvm.MethodName) ({ cls := "MatchTreesModel", name := "end", desc := "(I)Z" } : Jvm.MethodName)) ∈ WT := WT_of (sub_tables_1_7 _ (List.mem_of_getElem? (i := 108) (by decide +kernel))) (by decide +kernel)
set_option maxRecDepth 20000 in
theorem t_1678 : (Jvm.Cond.code ({ cls := "MatchTreesModel", name := "end", desc := "(I)Z" } : Jvm.MethodName) prog_14_method_5_code (2 : Nat) (Option.some Jvm.ClassFile.FieldType.boolean)) ∈ WT := WT_of (sub_tables_1_7 _ (List.mem_of_getElem? (i := 109) rfl)) (by decide +kernel)
set_option maxRecDepth 20000 in
theorem t_1679 : (Jvm.Cond.methodLink "MatchTreesLaw" (27 : Nat) ({ cls := "MatchTreesModel", name := "match", desc := "()I" } : Jvm.MethodName)) ∈ WT := WT_of (sub_tables_1_7 _ (List.mem_of_getElem? (i := 110) (by decide +kernel))) (by decide +kernel)
set_option maxRecDepth 20000 in
theorem t_1680 : (Jvm.Cond.instanceMethod ({ cls := "MatchTreesModel", name := "match", desc := "()I" } : Jvm.MethodName)) ∈ WT := WT_of (sub_tables_1_7 _ (List.mem_of_getElem? (i := 111) (by decide +kernel))) (by decide +kernel)
set_option maxRecDepth 20000 in
theorem t_1681 : (Jvm.Cond.selects "MatchTreesModel" ({ cls := "MatchTreesModel", name := "match", desc := "()I" } : Jvm.MethodName) ({ cls := "MatchTreesModel", name := "match", desc := "()I" } : Jvm.MethodName)) ∈ WT := WT_of (sub_tables_1_7 _ (List.mem_of_getElem? (i := 112) (by decide +kernel))) (by decide +kernel)
set_option maxRecDepth 20000 in
theorem t_1682 : (Jvm.Cond.code ({ cls := "MatchTreesModel", name := "match", desc := "()I" } : Jvm.MethodName) prog_14_method_38_code (2 : Nat) (Option.some Jvm.ClassFile.FieldType.int)) ∈ WT := WT_of (sub_tables_1_7 _ (List.mem_of_getElem? (i := 113) rfl)) (by decide +kernel)
set_option maxRecDepth 20000 in
theorem t_1683 : (Jvm.Cond.methodLink "MatchTreesModel" (337 : Nat) ({ cls := "MatchTreesModel", name := "ahead", desc := "()V" } : Jvm.MethodName)) ∈ WT := WT_of (sub_tables_1_7 _ (List.mem_of_getElem? (i := 114) (by decide +kernel))) (by decide +kernel)
set_option maxRecDepth 20000 in
theorem t_1685 : (Jvm.Cond.instanceMethod ({ cls := "MatchTreesModel", name := "ahead", desc := "()V" } : Jvm.MethodName)) ∈ WT := WT_of (sub_tables_1_7 _ (List.mem_of_getElem? (i := 116) (by decide +kernel))) (by decide +kernel)
set_option maxRecDepth 20000 in
theorem t_1686 : (Jvm.Cond.code ({ cls := "MatchTreesModel", name := "ahead", desc := "()V" } : Jvm.MethodName) prog_14_method_10_code (6 : Nat) (Option.none : Option Jvm.ClassFile.FieldType)) ∈ WT := WT_of (sub_tables_1_7 _ (List.mem_of_getElem? (i := 117) rfl)) (by decide +kernel)
set_option maxRecDepth 20000 in
theorem t_1687 : (Jvm.Cond.methodLink "MatchTreesModel" (324 : Nat) ({ cls := "MatchTreesModel", name := "isLetter", desc := "(I)Z" } : Jvm.MethodName)) ∈ WT := WT_of (sub_tables_1_7 _ (List.mem_of_getElem? (i := 118) (by decide +kernel))) (by decide +kernel)
set_option maxRecDepth 20000 in
theorem t_1688 : (Jvm.Cond.static ({ cls := "MatchTreesModel", name := "isLetter", desc := "(I)Z" } : Jvm.MethodName)) ∈ WT := WT_of (sub_tables_1_7 _ (List.mem_of_getElem? (i := 119) (by decide +kernel))) (by decide +kernel)
set_option maxRecDepth 20000 in
theorem t_1689 : (Jvm.Cond.code ({ cls := "MatchTreesModel", name := "isLetter", desc := "(I)Z" } : Jvm.MethodName) prog_14_method_7_code (1 : Nat) (Option.some Jvm.ClassFile.FieldType.boolean)) ∈ WT := WT_of (sub_tables_1_7 _ (List.mem_of_getElem? (i := 120) rfl)) (by decide +kernel)
set_option maxRecDepth 20000 in
theorem t_1690 : (Jvm.Cond.methodLink "MatchTreesModel" (328 : Nat) ({ cls := "MatchTreesModel", name := "isDigit", desc := "(I)Z" } : Jvm.MethodName)) ∈ WT := WT_of (sub_tables_1_7 _ (List.mem_of_getElem? (i := 121) (by decide +kernel))) (by decide +kernel)
set_option maxRecDepth 20000 in
theorem t_1691 : (Jvm.Cond.static ({ cls := "MatchTreesModel", name := "isDigit", desc := "(I)Z" } : Jvm.MethodName)) ∈ WT := WT_of (sub_tables_1_7 _ (List.mem_of_getElem? (i := 122) (by decide +kernel))) (by decide +kernel)
set_option maxRecDepth 20000 in
theorem t_1692 : (Jvm.Cond.code ({ cls := "MatchTreesModel", name := "isDigit", desc := "(I)Z" } : Jvm.MethodName) prog_14_method_8_code (1 : Nat) (Option.some Jvm.ClassFile.FieldType.boolean)) ∈ WT := WT_of (sub_tables_1_7 _ (List.mem_of_getElem? (i := 123) rfl)) (by decide +kernel)
set_option maxRecDepth 20000 in
theorem t_1693 : (Jvm.Cond.methodLink "MatchTreesModel" (446 : Nat) ({ cls := "MatchTreesModel", name := "statement", desc := "()V" } : Jvm.MethodName)) ∈ WT := WT_of (sub_tables_1_7 _ (List.mem_of_getElem? (i := 124) (by decide +kernel))) (by decide +kernel)
set_option maxRecDepth 20000 in
theorem t_1695 : (Jvm.Cond.instanceMethod ({ cls := "MatchTreesModel", name := "statement", desc := "()V" } : Jvm.MethodName)) ∈ WT := WT_of (sub_tables_1_7 _ (List.mem_of_getElem? (i := 126) (by decide +kernel))) (by decide +kernel)
set_option maxRecDepth 20000 in
theorem t_1696 : (Jvm.Cond.code ({ cls := "MatchTreesModel", name := "statement", desc := "()V" } : Jvm.MethodName) prog_14_method_36_code (1 : Nat) (Option.none : Option Jvm.ClassFile.FieldType)) ∈ WT := WT_of (sub_tables_1_7 _ (List.mem_of_getElem? (i := 127) rfl)) (by decide +kernel)
set_option maxRecDepth 20000 in
theorem t_1697 : (Jvm.Cond.methodLink "MatchTreesModel" (331 : Nat) ({ cls := "MatchTreesModel", name := "lex", desc := "()V" } : Jvm.MethodName)) ∈ WT := WT_of (sub_tables_1_7 _ (List.mem_of_getElem? (i := 128) (by decide +kernel))) (by decide +kernel)
set_option maxRecDepth 20000 in
theorem t_1699 : (Jvm.Cond.instanceMethod ({ cls := "MatchTreesModel", name := "lex", desc := "()V" } : Jvm.MethodName)) ∈ WT := WT_of (sub_tables_1_7 _ (List.mem_of_getElem? (i := 130) (by decide +kernel))) (by decide +kernel)
set_option maxRecDepth 20000 in
theorem t_1700 : (Jvm.Cond.code ({ cls := "MatchTreesModel", name := "lex", desc := "()V" } : Jvm.MethodName) prog_14_method_9_code (1 : Nat) (Option.none : Option Jvm.ClassFile.FieldType)) ∈ WT := WT_of (sub_tables_1_7 _ (List.mem_of_getElem? (i := 131) rfl)) (by decide +kernel)
set_option maxRecDepth 20000 in
theorem t_1701 : (Jvm.Cond.methodLink "MatchTreesModel" (320 : Nat) ({ cls := "MatchTreesModel", name := "blame", desc := "(II)V" } : Jvm.MethodName)) ∈ WT := WT_of (sub_tables_1_7 _ (List.mem_of_getElem? (i := 132) (by decide +kernel))) (by decide +kernel)
set_option maxRecDepth 20000 in
theorem t_1703 : (Jvm.Cond.instanceMethod ({ cls := "MatchTreesModel", name := "blame", desc := "(II)V" } : Jvm.MethodName)) ∈ WT := WT_of (sub_tables_1_7 _ (List.mem_of_getElem? (i := 134) (by decide +kernel))) (by decide +kernel)
set_option maxRecDepth 20000 in
theorem t_1704 : (Jvm.Cond.code ({ cls := "MatchTreesModel", name := "blame", desc := "(II)V" } : Jvm.MethodName) prog_14_method_6_code (3 : Nat) (Option.none : Option Jvm.ClassFile.FieldType)) ∈ WT := WT_of (sub_tables_1_7 _ (List.mem_of_getElem? (i := 135) rfl)) (by decide +kernel)
set_option maxRecDepth 20000 in
theorem t_1705 : (Jvm.Cond.constantLong "MatchTreesModel" (340 : Nat) (1802071652 : Int64)) ∈ WT := WT_of (sub_tables_1_7 _ (List.mem_of_getElem? (i := 136) (by decide +kernel))) (by decide +kernel)
set_option maxRecDepth 20000 in
theorem t_1706 : (Jvm.Cond.methodLink "MatchTreesModel" (386 : Nat) ({ cls := "MatchTreesModel", name := "isWord", desc := "(J)Z" } : Jvm.MethodName)) ∈ WT := WT_of (sub_tables_1_7 _ (List.mem_of_getElem? (i := 137) (by decide +kernel))) (by decide +kernel)
set_option maxRecDepth 20000 in
theorem t_1708 : (Jvm.Cond.instanceMethod ({ cls := "MatchTreesModel", name := "isWord", desc := "(J)Z" } : Jvm.MethodName)) ∈ WT := WT_of (sub_tables_1_7 _ (List.mem_of_getElem? (i := 139) (by decide +kernel))) (by decide +kernel)
set_option maxRecDepth 20000 in
theorem t_1709 : (Jvm.Cond.code ({ cls := "MatchTreesModel", name := "isWord", desc := "(J)Z" } : Jvm.MethodName) prog_14_method_12_code (3 : Nat) (Option.some Jvm.ClassFile.FieldType.boolean)) ∈ WT := WT_of (sub_tables_1_7 _ (List.mem_of_getElem? (i := 140) rfl)) (by decide +kernel)
set_option maxRecDepth 20000 in
theorem t_1710 : (Jvm.Cond.methodLink "MatchTreesModel" (428 : Nat) ({ cls := "MatchTreesModel", name := "kindIs", desc := "()V" } : Jvm.MethodName)) ∈ WT := WT_of (sub_tables_1_7 _ (List.mem_of_getElem? (i := 141) (by decide +kernel))) (by decide +kernel)
set_option maxRecDepth 20000 in
theorem t_1712 : (Jvm.Cond.instanceMethod ({ cls := "MatchTreesModel", name := "kindIs", desc := "()V" } : Jvm.MethodName)) ∈ WT := WT_of (sub_tables_1_7 _ (List.mem_of_getElem? (i := 143) (by decide +kernel))) (by decide +kernel)
set_option maxRecDepth 20000 in
theorem t_1713 : (Jvm.Cond.code ({ cls := "MatchTreesModel", name := "kindIs", desc := "()V" } : Jvm.MethodName) prog_14_method_21_code (4 : Nat) (Option.none : Option Jvm.ClassFile.FieldType)) ∈ WT := WT_of (sub_tables_1_7 _ (List.mem_of_getElem? (i := 144) rfl)) (by decide +kernel)
set_option maxRecDepth 20000 in
theorem t_1714 : (Jvm.Cond.methodLink "MatchTreesModel" (378 : Nat) ({ cls := "MatchTreesModel", name := "isCounted", desc := "(Z)Z" } : Jvm.MethodName)) ∈ WT := WT_of (sub_tables_1_7 _ (List.mem_of_getElem? (i := 145) (by decide +kernel))) (by decide +kernel)
set_option maxRecDepth 20000 in
theorem t_1716 : (Jvm.Cond.instanceMethod ({ cls := "MatchTreesModel", name := "isCounted", desc := "(Z)Z" } : Jvm.MethodName)) ∈ WT := WT_of (sub_tables_1_7 _ (List.mem_of_getElem? (i := 147) (by decide +kernel))) (by decide +kernel)
set_option maxRecDepth 20000 in
theorem t_1717 : (Jvm.Cond.code ({ cls := "MatchTreesModel", name := "isCounted", desc := "(Z)Z" } : Jvm.MethodName) prog_14_method_16_code (2 : Nat) (Option.some Jvm.ClassFile.FieldType.boolean)) ∈ WT := WT_of (sub_tables_1_7 _ (List.mem_of_getElem? (i := 148) rfl)) (by decide +kernel)
set_option maxRecDepth 20000 in
theorem t_1718 : (Jvm.Cond.methodLink "MatchTreesModel" (382 : Nat) ({ cls := "MatchTreesModel", name := "fresh", desc := "()J" } : Jvm.MethodName)) ∈ WT := WT_of (sub_tables_1_7 _ (List.mem_of_getElem? (i := 149) (by decide +kernel))) (by decide +kernel)
set_option maxRecDepth 20000 in
theorem t_1720 : (Jvm.Cond.instanceMethod ({ cls := "MatchTreesModel", name := "fresh", desc := "()J" } : Jvm.MethodName)) ∈ WT := WT_of (sub_tables_1_7 _ (List.mem_of_getElem? (i := 151) (by decide +kernel))) (by decide +kernel)
set_option maxRecDepth 20000 in
theorem t_1721 : (Jvm.Cond.code ({ cls := "MatchTreesModel", name := "fresh", desc := "()J" } : Jvm.MethodName) prog_14_method_20_code (3 : Nat) (Option.some Jvm.ClassFile.FieldType.long)) ∈ WT := WT_of (sub_tables_1_7 _ (List.mem_of_getElem? (i := 152) rfl)) (by decide +kernel)
set_option maxRecDepth 20000 in
theorem t_1722 : (Jvm.Cond.methodLink "MatchTreesModel" (366 : Nat) ({ cls := "MatchTreesModel", name := "isOwn", desc := "(J)Z" } : Jvm.MethodName)) ∈ WT := WT_of (sub_tables_1_7 _ (List.mem_of_getElem? (i := 153) (by decide +kernel))) (by decide +kernel)
set_option maxRecDepth 20000 in
theorem t_1724 : (Jvm.Cond.instanceMethod ({ cls := "MatchTreesModel", name := "isOwn", desc := "(J)Z" } : Jvm.MethodName)) ∈ WT := WT_of (sub_tables_1_7 _ (List.mem_of_getElem? (i := 155) (by decide +kernel))) (by decide +kernel)
set_option maxRecDepth 20000 in
theorem t_1725 : (Jvm.Cond.code ({ cls := "MatchTreesModel", name := "isOwn", desc := "(J)Z" } : Jvm.MethodName) prog_14_method_14_code (3 : Nat) (Option.some Jvm.ClassFile.FieldType.boolean)) ∈ WT := WT_of (sub_tables_1_7 _ (List.mem_of_getElem? (i := 156) rfl)) (by decide +kernel)
set_option maxRecDepth 20000 in
theorem t_1726 : (Jvm.Cond.constantLong "MatchTreesModel" (342 : Nat) (6516590 : Int64)) ∈ WT := WT_of (sub_tables_1_7 _ (List.mem_of_getElem? (i := 157) (by decide +kernel))) (by decide +kernel)
set_option maxRecDepth 20000 in
theorem t_1727 : (Jvm.Cond.constantLong "MatchTreesModel" (344 : Nat) (469786452840 : Int64)) ∈ WT := WT_of (sub_tables_1_7 _ (List.mem_of_getElem? (i := 158) (by decide +kernel))) (by decide +kernel)
set_option maxRecDepth 20000 in
theorem t_1728 : (Jvm.Cond.constantLong "MatchTreesModel" (346 : Nat) (6386285 : Int64)) ∈ WT := WT_of (sub_tables_1_7 _ (List.mem_of_getElem? (i := 159) (by decide +kernel))) (by decide +kernel)
set_option maxRecDepth 20000 in
theorem t_1729 : (Jvm.Cond.constantLong "MatchTreesModel" (348 : Nat) (2003330414 : Int64)) ∈ WT := WT_of (sub_tables_1_7 _ (List.mem_of_getElem? (i := 160) (by decide +kernel))) (by decide +kernel)
set_option maxRecDepth 20000 in
theorem t_1730 : (Jvm.Cond.constantLong "MatchTreesModel" (350 : Nat) (1920298085 : Int64)) ∈ WT := WT_of (sub_tables_1_7 _ (List.mem_of_getElem? (i := 161) (by decide +kernel))) (by decide +kernel)
set_option maxRecDepth 20000 in
theorem t_1731 : (Jvm.Cond.constantLong "MatchTreesModel" (352 : Nat) (108256335193460 : Int64)) ∈ WT := WT_of (sub_tables_1_7 _ (List.mem_of_getElem? (i := 162) (by decide +kernel))) (by decide +kernel)
set_option maxRecDepth 20000 in
theorem t_1732 : (Jvm.Cond.constantLong "MatchTreesModel" (354 : Nat) (7239021 : Int64)) ∈ WT := WT_of (sub_tables_1_7 _ (List.mem_of_getElem? (i := 163) (by decide +kernel))) (by decide +kernel)
set_option maxRecDepth 20000 in
theorem t_1733 : (Jvm.Cond.constantLong "MatchTreesModel" (356 : Nat) (6385273 : Int64)) ∈ WT := WT_of (sub_tables_1_7 _ (List.mem_of_getElem? (i := 164) (by decide +kernel))) (by decide +kernel)
set_option maxRecDepth 20000 in
theorem t_1734 : (Jvm.Cond.constantLong "MatchTreesModel" (358 : Nat) (28530 : Int64)) ∈ WT := WT_of (sub_tables_1_7 _ (List.mem_of_getElem? (i := 165) (by decide +kernel))) (by decide +kernel)
set_option maxRecDepth 20000 in
theorem t_1735 : (Jvm.Cond.constantLong "MatchTreesModel" (360 : Nat) (29807 : Int64)) ∈ WT := WT_of (sub_tables_1_7 _ (List.mem_of_getElem? (i := 166) (by decide +kernel))) (by decide +kernel)
set_option maxRecDepth 20000 in
theorem t_1736 : (Jvm.Cond.methodLink "MatchTreesModel" (370 : Nat) ({ cls := "MatchTreesModel", name := "kindNamed", desc := "(J)I" } : Jvm.MethodName)) ∈ WT := WT_of (sub_tables_1_7 _ (List.mem_of_getElem? (i := 167) (by decide +kernel))) (by decide +kernel)
set_option maxRecDepth 20000 in
theorem t_1738 : (Jvm.Cond.instanceMethod ({ cls := "MatchTreesModel", name := "kindNamed", desc := "(J)I" } : Jvm.MethodName)) ∈ WT := WT_of (sub_tables_1_7 _ (List.mem_of_getElem? (i := 169) (by decide +kernel))) (by decide +kernel)
set_option maxRecDepth 20000 in
theorem t_1739 : (Jvm.Cond.code ({ cls := "MatchTreesModel", name := "kindNamed", desc := "(J)I" } : Jvm.MethodName) prog_14_method_17_code (4 : Nat) (Option.some Jvm.ClassFile.FieldType.int)) ∈ WT := WT_of (sub_tables_1_7 _ (List.mem_of_getElem? (i := 170) rfl)) (by decide +kernel)
set_option maxRecDepth 20000 in
theorem t_1740 : (Jvm.Cond.methodLink "MatchTreesModel" (374 : Nat) ({ cls := "MatchTreesModel", name := "conNamed", desc := "(IJ)I" } : Jvm.MethodName)) ∈ WT := WT_of (sub_tables_1_7 _ (List.mem_of_getElem? (i := 171) (by decide +kernel))) (by decide +kernel)
set_option maxRecDepth 20000 in
theorem t_1742 : (Jvm.Cond.instanceMethod ({ cls := "MatchTreesModel", name := "conNamed", desc := "(IJ)I" } : Jvm.MethodName)) ∈ WT := WT_of (sub_tables_1_7 _ (List.mem_of_getElem? (i := 173) (by decide +kernel))) (by decide +kernel)
set_option maxRecDepth 20000 in
theorem t_1743 : (Jvm.Cond.code ({ cls := "MatchTreesModel", name := "conNamed", desc := "(IJ)I" } : Jvm.MethodName) prog_14_method_18_code (5 : Nat) (Option.some Jvm.ClassFile.FieldType.int)) ∈ WT := WT_of (sub_tables_1_7 _ (List.mem_of_getElem? (i := 174) rfl)) (by decide +kernel)
set_option maxRecDepth 20000 in
theorem t_1744 : (Jvm.Cond.methodLink "MatchTreesModel" (431 : Nat) ({ cls := "MatchTreesModel", name := "conIs", desc := "()V" } : Jvm.MethodName)) ∈ WT := WT_of (sub_tables_1_7 _ (List.mem_of_getElem? (i := 175) (by decide +kernel))) (by decide +kernel)
set_option maxRecDepth 20000 in
theorem t_1746 : (Jvm.Cond.instanceMethod ({ cls := "MatchTreesModel", name := "conIs", desc := "()V" } : Jvm.MethodName)) ∈ WT := WT_of (sub_tables_1_7 _ (List.mem_of_getElem? (i := 177) (by decide +kernel))) (by decide +kernel)
set_option maxRecDepth 20000 in
theorem t_1747 : (Jvm.Cond.code ({ cls := "MatchTreesModel", name := "conIs", desc := "()V" } : Jvm.MethodName) prog_14_method_24_code (7 : Nat) (Option.none : Option Jvm.ClassFile.FieldType)) ∈ WT := WT_of (sub_tables_1_7 _ (List.mem_of_getElem? (i := 178) rfl)) (by decide +kernel)
set_option maxRecDepth 20000 in
theorem t_1748 : (Jvm.Cond.methodLink "MatchTreesModel" (389 : Nat) ({ cls := "MatchTreesModel", name := "isKindHere", desc := "()Z" } : Jvm.MethodName)) ∈ WT := WT_of (sub_tables_1_7 _ (List.mem_of_getElem? (i := 179) (by decide +kernel))) (by decide +kernel)
set_option maxRecDepth 20000 in
theorem t_1750 : (Jvm.Cond.instanceMethod ({ cls := "MatchTreesModel", name := "isKindHere", desc := "()Z" } : Jvm.MethodName)) ∈ WT := WT_of (sub_tables_1_7 _ (List.mem_of_getElem? (i := 181) (by decide +kernel))) (by decide +kernel)
set_option maxRecDepth 20000 in
theorem t_1751 : (Jvm.Cond.code ({ cls := "MatchTreesModel", name := "isKindHere", desc := "()Z" } : Jvm.MethodName) prog_14_method_23_code (1 : Nat) (Option.some Jvm.ClassFile.FieldType.boolean)) ∈ WT := WT_of (sub_tables_1_7 _ (List.mem_of_getElem? (i := 182) rfl)) (by decide +kernel)
set_option maxRecDepth 20000 in
theorem t_1752 : (Jvm.Cond.methodLink "MatchTreesModel" (393 : Nat) ({ cls := "MatchTreesModel", name := "known", desc := "(I)I" } : Jvm.MethodName)) ∈ WT := WT_of (sub_tables_1_7 _ (List.mem_of_getElem? (i := 183) (by decide +kernel))) (by decide +kernel)
set_option maxRecDepth 20000 in
theorem t_1754 : (Jvm.Cond.instanceMethod ({ cls := "MatchTreesModel", name := "known", desc := "(I)I" } : Jvm.MethodName)) ∈ WT := WT_of (sub_tables_1_7 _ (List.mem_of_getElem? (i := 185) (by decide +kernel))) (by decide +kernel)
set_option maxRecDepth 20000 in
theorem t_1755 : (Jvm.Cond.code ({ cls := "MatchTreesModel", name := "known", desc := "(I)I" } : Jvm.MethodName) prog_14_method_22_code (4 : Nat) (Option.some Jvm.ClassFile.FieldType.int)) ∈ WT := WT_of (sub_tables_1_7 _ (List.mem_of_getElem? (i := 186) rfl)) (by decide +kernel)
set_option maxRecDepth 20000 in
theorem t_1756 : (Jvm.Cond.methodLink "MatchTreesModel" (396 : Nat) ({ cls := "MatchTreesModel", name := "valuesOf", desc := "(II)I" } : Jvm.MethodName)) ∈ WT := WT_of (sub_tables_1_7 _ (List.mem_of_getElem? (i := 187) (by decide +kernel))) (by decide +kernel)
set_option maxRecDepth 20000 in
theorem t_1758 : (Jvm.Cond.instanceMethod ({ cls := "MatchTreesModel", name := "valuesOf", desc := "(II)I" } : Jvm.MethodName)) ∈ WT := WT_of (sub_tables_1_7 _ (List.mem_of_getElem? (i := 189) (by decide +kernel))) (by decide +kernel)
set_option maxRecDepth 20000 in
theorem t_1759 : (Jvm.Cond.code ({ cls := "MatchTreesModel", name := "valuesOf", desc := "(II)I" } : Jvm.MethodName) prog_14_method_19_code (3 : Nat) (Option.some Jvm.ClassFile.FieldType.int)) ∈ WT := WT_of (sub_tables_1_7 _ (List.mem_of_getElem? (i := 190) rfl)) (by decide +kernel)
set_option maxRecDepth 20000 in
theorem t_1760 : (Jvm.Cond.methodLink "MatchTreesModel" (434 : Nat) ({ cls := "MatchTreesModel", name := "matchIs", desc := "()V" } : Jvm.MethodName)) ∈ WT := WT_of (sub_tables_1_7 _ (List.mem_of_getElem? (i := 191) (by decide +kernel))) (by decide +kernel)
set_option maxRecDepth 20000 in
theorem t_1762 : (Jvm.Cond.instanceMethod ({ cls := "MatchTreesModel", name := "matchIs", desc := "()V" } : Jvm.MethodName)) ∈ WT := WT_of (sub_tables_1_7 _ (List.mem_of_getElem? (i := 193) (by decide +kernel))) (by decide +kernel)
set_option maxRecDepth 20000 in
theorem t_1763 : (Jvm.Cond.code ({ cls := "MatchTreesModel", name := "matchIs", desc := "()V" } : Jvm.MethodName) prog_14_method_25_code (3 : Nat) (Option.none : Option Jvm.ClassFile.FieldType)) ∈ WT := WT_of (sub_tables_1_7 _ (List.mem_of_getElem? (i := 194) rfl)) (by decide +kernel)
set_option maxRecDepth 20000 in
theorem t_1764 : (Jvm.Cond.methodLink "MatchTreesModel" (437 : Nat) ({ cls := "MatchTreesModel", name := "armIs", desc := "()V" } : Jvm.MethodName)) ∈ WT := WT_of (sub_tables_1_7 _ (List.mem_of_getElem? (i := 195) (by decide +kernel))) (by decide +kernel)
set_option maxRecDepth 20000 in
theorem t_1766 : (Jvm.Cond.instanceMethod ({ cls := "MatchTreesModel", name := "armIs", desc := "()V" } : Jvm.MethodName)) ∈ WT := WT_of (sub_tables_1_7 _ (List.mem_of_getElem? (i := 197) (by decide +kernel))) (by decide +kernel)
set_option maxRecDepth 20000 in
theorem t_1767 : (Jvm.Cond.code ({ cls := "MatchTreesModel", name := "armIs", desc := "()V" } : Jvm.MethodName) prog_14_method_33_code (3 : Nat) (Option.none : Option Jvm.ClassFile.FieldType)) ∈ WT := WT_of (sub_tables_1_7 _ (List.mem_of_getElem? (i := 198) rfl)) (by decide +kernel)
set_option maxRecDepth 20000 in
theorem t_1768 : (Jvm.Cond.methodLink "MatchTreesModel" (413 : Nat) ({ cls := "MatchTreesModel", name := "must", desc := "(I)V" } : Jvm.MethodName)) ∈ WT := WT_of (sub_tables_1_7 _ (List.mem_of_getElem? (i := 199) (by decide +kernel))) (by decide +kernel)
set_option maxRecDepth 20000 in
theorem t_1770 : (Jvm.Cond.instanceMethod ({ cls := "MatchTreesModel", name := "must", desc := "(I)V" } : Jvm.MethodName)) ∈ WT := WT_of (sub_tables_1_7 _ (List.mem_of_getElem? (i := 201) (by decide +kernel))) (by decide +kernel)
set_option maxRecDepth 20000 in
theorem t_1771 : (Jvm.Cond.code ({ cls := "MatchTreesModel", name := "must", desc := "(I)V" } : Jvm.MethodName) prog_14_method_13_code (2 : Nat) (Option.none : Option Jvm.ClassFile.FieldType)) ∈ WT := WT_of (sub_tables_1_7 _ (List.mem_of_getElem? (i := 202) rfl)) (by decide +kernel)
set_option maxRecDepth 20000 in
theorem t_1772 : (Jvm.Cond.methodLink "MatchTreesModel" (334 : Nat) ({ cls := "MatchTreesModel", name := "isSign", desc := "(I)Z" } : Jvm.MethodName)) ∈ WT := WT_of (sub_tables_1_7 _ (List.mem_of_getElem? (i := 203) (by decide +kernel))) (by decide +kernel)
set_option maxRecDepth 20000 in
theorem t_1774 : (Jvm.Cond.instanceMethod ({ cls := "MatchTreesModel", name := "isSign", desc := "(I)Z" } : Jvm.MethodName)) ∈ WT := WT_of (sub_tables_1_7 _ (List.mem_of_getElem? (i := 205) (by decide +kernel))) (by decide +kernel)
set_option maxRecDepth 20000 in
theorem t_1775 : (Jvm.Cond.code ({ cls := "MatchTreesModel", name := "isSign", desc := "(I)Z" } : Jvm.MethodName) prog_14_method_11_code (2 : Nat) (Option.some Jvm.ClassFile.FieldType.boolean)) ∈ WT := WT_of (sub_tables_1_7 _ (List.mem_of_getElem? (i := 206) rfl)) (by decide +kernel)
set_option maxRecDepth 20000 in
theorem t_1776 : (Jvm.Cond.methodLink "MatchTreesModel" (425 : Nat) ({ cls := "MatchTreesModel", name := "pattern", desc := "(I)V" } : Jvm.MethodName)) ∈ WT := WT_of (sub_tables_1_7 _ (List.mem_of_getElem? (i := 207) (by decide +kernel))) (by decide +kernel)
set_option maxRecDepth 20000 in
theorem t_1778 : (Jvm.Cond.instanceMethod ({ cls := "MatchTreesModel", name := "pattern", desc := "(I)V" } : Jvm.MethodName)) ∈ WT := WT_of (sub_tables_1_7 _ (List.mem_of_getElem? (i := 209) (by decide +kernel))) (by decide +kernel)
set_option maxRecDepth 20000 in
theorem t_1779 : (Jvm.Cond.code ({ cls := "MatchTreesModel", name := "pattern", desc := "(I)V" } : Jvm.MethodName) prog_14_method_32_code (3 : Nat) (Option.none : Option Jvm.ClassFile.FieldType)) ∈ WT := WT_of (sub_tables_1_7 _ (List.mem_of_getElem? (i := 210) rfl)) (by decide +kernel)
set_option maxRecDepth 20000 in
theorem t_1780 : (Jvm.Cond.methodLink "MatchTreesModel" (404 : Nat) ({ cls := "MatchTreesModel", name := "opensPattern", desc := "(I)V" } : Jvm.MethodName)) ∈ WT := WT_of (sub_tables_1_7 _ (List.mem_of_getElem? (i := 211) (by decide +kernel))) (by decide +kernel)
set_option maxRecDepth 20000 in
theorem t_1782 : (Jvm.Cond.instanceMethod ({ cls := "MatchTreesModel", name := "opensPattern", desc := "(I)V" } : Jvm.MethodName)) ∈ WT := WT_of (sub_tables_1_7 _ (List.mem_of_getElem? (i := 213) (by decide +kernel))) (by decide +kernel)
set_option maxRecDepth 20000 in
theorem t_1783 : (Jvm.Cond.code ({ cls := "MatchTreesModel", name := "opensPattern", desc := "(I)V" } : Jvm.MethodName) prog_14_method_27_code (2 : Nat) (Option.none : Option Jvm.ClassFile.FieldType)) ∈ WT := WT_of (sub_tables_1_7 _ (List.mem_of_getElem? (i := 214) rfl)) (by decide +kernel)
set_option maxRecDepth 20000 in
theorem t_1784 : (Jvm.Cond.methodLink "MatchTreesModel" (419 : Nat) ({ cls := "MatchTreesModel", name := "alternative", desc := "()Z" } : Jvm.MethodName)) ∈ WT := WT_of (sub_tables_1_7 _ (List.mem_of_getElem? (i := 215) (by decide +kernel))) (by decide +kernel)
set_option maxRecDepth 20000 in
theorem t_1786 : (Jvm.Cond.instanceMethod ({ cls := "MatchTreesModel", name := "alternative", desc := "()Z" } : Jvm.MethodName)) ∈ WT := WT_of (sub_tables_1_7 _ (List.mem_of_getElem? (i := 217) (by decide +kernel))) (by decide +kernel)
set_option maxRecDepth 20000 in
theorem t_1787 : (Jvm.Cond.code ({ cls := "MatchTreesModel", name := "alternative", desc := "()Z" } : Jvm.MethodName) prog_14_method_30_code (3 : Nat) (Option.some Jvm.ClassFile.FieldType.boolean)) ∈ WT := WT_of (sub_tables_1_7 _ (List.mem_of_getElem? (i := 218) rfl)) (by decide +kernel)
set_option maxRecDepth 20000 in
theorem t_1788 : (Jvm.Cond.methodLink "MatchTreesModel" (400 : Nat) ({ cls := "MatchTreesModel", name := "emits", desc := "(III)V" } : Jvm.MethodName)) ∈ WT := WT_of (sub_tables_1_7 _ (List.mem_of_getElem? (i := 219) (by decide +kernel))) (by decide +kernel)
set_option maxRecDepth 20000 in
theorem t_1790 : (Jvm.Cond.instanceMethod ({ cls := "MatchTreesModel", name := "emits", desc := "(III)V" } : Jvm.MethodName)) ∈ WT := WT_of (sub_tables_1_7 _ (List.mem_of_getElem? (i := 221) (by decide +kernel))) (by decide +kernel)
set_option maxRecDepth 20000 in
theorem t_1791 : (Jvm.Cond.code ({ cls := "MatchTreesModel", name := "emits", desc := "(III)V" } : Jvm.MethodName) prog_14_method_26_code (5 : Nat) (Option.none : Option Jvm.ClassFile.FieldType)) ∈ WT := WT_of (sub_tables_1_7 _ (List.mem_of_getElem? (i := 222) rfl)) (by decide +kernel)
set_option maxRecDepth 20000 in
theorem t_1792 : (Jvm.Cond.methodLink "MatchTreesModel" (410 : Nat) ({ cls := "MatchTreesModel", name := "range", desc := "()V" } : Jvm.MethodName)) ∈ WT := WT_of (sub_tables_1_7 _ (List.mem_of_getElem? (i := 223) (by decide +kernel))) (by decide +kernel)
set_option maxRecDepth 20000 in
theorem t_1794 : (Jvm.Cond.instanceMethod ({ cls := "MatchTreesModel", name := "range", desc := "()V" } : Jvm.MethodName)) ∈ WT := WT_of (sub_tables_1_7 _ (List.mem_of_getElem? (i := 225) (by decide +kernel))) (by decide +kernel)
set_option maxRecDepth 20000 in
theorem t_1795 : (Jvm.Cond.code ({ cls := "MatchTreesModel", name := "range", desc := "()V" } : Jvm.MethodName) prog_14_method_29_code (3 : Nat) (Option.none : Option Jvm.ClassFile.FieldType)) ∈ WT := WT_of (sub_tables_1_7 _ (List.mem_of_getElem? (i := 226) rfl)) (by decide +kernel)
set_option maxRecDepth 20000 in
theorem t_1796 : (Jvm.Cond.methodLink "MatchTreesModel" (407 : Nat) ({ cls := "MatchTreesModel", name := "number", desc := "(II)I" } : Jvm.MethodName)) ∈ WT := WT_of (sub_tables_1_7 _ (List.mem_of_getElem? (i := 227) (by decide +kernel))) (by decide +kernel)
set_option maxRecDepth 20000 in
theorem t_1798 : (Jvm.Cond.instanceMethod ({ cls := "MatchTreesModel", name := "number", desc := "(II)I" } : Jvm.MethodName)) ∈ WT := WT_of (sub_tables_1_7 _ (List.mem_of_getElem? (i := 229) (by decide +kernel))) (by decide +kernel)
set_option maxRecDepth 20000 in
theorem t_1799 : (Jvm.Cond.code ({ cls := "MatchTreesModel", name := "number", desc := "(II)I" } : Jvm.MethodName) prog_14_method_15_code (4 : Nat) (Option.some Jvm.ClassFile.FieldType.int)) ∈ WT := WT_of (sub_tables_1_7 _ (List.mem_of_getElem? (i := 230) rfl)) (by decide +kernel)
set_option maxRecDepth 20000 in
theorem t_1800 : (Jvm.Cond.methodLink "MatchTreesModel" (362 : Nat) ({ cls := "MatchTreesModel", name := "is", desc := "(III)Z" } : Jvm.MethodName)) ∈ WT := WT_of (sub_tables_1_7 _ (List.mem_of_getElem? (i := 231) (by decide +kernel))) (by decide +kernel)
set_option maxRecDepth 20000 in
theorem t_1801 : (Jvm.Cond.static ({ cls := "MatchTreesModel", name := "is", desc := "(III)Z" } : Jvm.MethodName)) ∈ WT := WT_of (sub_tables_1_7 _ (List.mem_of_getElem? (i := 232) (by decide +kernel))) (by decide +kernel)
set_option maxRecDepth 20000 in
theorem t_1802 : (Jvm.Cond.code ({ cls := "MatchTreesModel", name := "is", desc := "(III)Z" } : Jvm.MethodName) prog_14_method_2_code (3 : Nat) (Option.some Jvm.ClassFile.FieldType.boolean)) ∈ WT := WT_of (sub_tables_1_7 _ (List.mem_of_getElem? (i := 233) rfl)) (by decide +kernel)
set_option maxRecDepth 20000 in
theorem t_1803 : (Jvm.Cond.methodLink "MatchTreesModel" (416 : Nat) ({ cls := "MatchTreesModel", name := "fieldBegins", desc := "(II)V" } : Jvm.MethodName)) ∈ WT := WT_of (sub_tables_1_7 _ (List.mem_of_getElem? (i := 234) (by decide +kernel))) (by decide +kernel)
set_option maxRecDepth 20000 in
theorem t_1805 : (Jvm.Cond.instanceMethod ({ cls := "MatchTreesModel", name := "fieldBegins", desc := "(II)V" } : Jvm.MethodName)) ∈ WT := WT_of (sub_tables_1_7 _ (List.mem_of_getElem? (i := 236) (by decide +kernel))) (by decide +kernel)
set_option maxRecDepth 20000 in
theorem t_1806 : (Jvm.Cond.code ({ cls := "MatchTreesModel", name := "fieldBegins", desc := "(II)V" } : Jvm.MethodName) prog_14_method_28_code (3 : Nat) (Option.none : Option Jvm.ClassFile.FieldType)) ∈ WT := WT_of (sub_tables_1_7 _ (List.mem_of_getElem? (i := 237) rfl)) (by decide +kernel)
set_option maxRecDepth 20000 in
theorem t_1807 : (Jvm.Cond.methodLink "MatchTreesModel" (422 : Nat) ({ cls := "MatchTreesModel", name := "goesOn", desc := "(I)Z" } : Jvm.MethodName)) ∈ WT := WT_of (sub_tables_1_7 _ (List.mem_of_getElem? (i := 238) (by decide +kernel))) (by decide +kernel)
set_option maxRecDepth 20000 in
theorem t_1809 : (Jvm.Cond.instanceMethod ({ cls := "MatchTreesModel", name := "goesOn", desc := "(I)Z" } : Jvm.MethodName)) ∈ WT := WT_of (sub_tables_1_8 _ (List.mem_of_getElem? (i := 0) (by decide +kernel))) (by decide +kernel)
set_option maxRecDepth 20000 in
theorem t_1810 : (Jvm.Cond.code ({ cls := "MatchTreesModel", name := "goesOn", desc := "(I)Z" } : Jvm.MethodName) prog_14_method_31_code (3 : Nat) (Option.some Jvm.ClassFile.FieldType.boolean)) ∈ WT := WT_of (sub_tables_1_8 _ (List.mem_of_getElem? (i := 1) rfl)) (by decide +kernel)
set_option maxRecDepth 20000 in
theorem t_1811 : (Jvm.Cond.methodLink "MatchTreesModel" (440 : Nat) ({ cls := "MatchTreesModel", name := "ruleIs", desc := "()V" } : Jvm.MethodName)) ∈ WT := WT_of (sub_tables_1_8 _ (List.mem_of_getElem? (i := 2) (by decide +kernel))) (by decide +kernel)
set_option maxRecDepth 20000 in
theorem t_1813 : (Jvm.Cond.instanceMethod ({ cls := "MatchTreesModel", name := "ruleIs", desc := "()V" } : Jvm.MethodName)) ∈ WT := WT_of (sub_tables_1_8 _ (List.mem_of_getElem? (i := 4) (by decide +kernel))) (by decide +kernel)
set_option maxRecDepth 20000 in
theorem t_1814 : (Jvm.Cond.code ({ cls := "MatchTreesModel", name := "ruleIs", desc := "()V" } : Jvm.MethodName) prog_14_method_34_code (1 : Nat) (Option.none : Option Jvm.ClassFile.FieldType)) ∈ WT := WT_of (sub_tables_1_8 _ (List.mem_of_getElem? (i := 5) rfl)) (by decide +kernel)
set_option maxRecDepth 20000 in
theorem t_1815 : (Jvm.Cond.methodLink "MatchTreesModel" (443 : Nat) ({ cls := "MatchTreesModel", name := "budgetIs", desc := "()V" } : Jvm.MethodName)) ∈ WT := WT_of (sub_tables_1_8 _ (List.mem_of_getElem? (i := 6) (by decide +kernel))) (by decide +kernel)
set_option maxRecDepth 20000 in
theorem t_1817 : (Jvm.Cond.instanceMethod ({ cls := "MatchTreesModel", name := "budgetIs", desc := "()V" } : Jvm.MethodName)) ∈ WT := WT_of (sub_tables_1_8 _ (List.mem_of_getElem? (i := 8) (by decide +kernel))) (by decide +kernel)
set_option maxRecDepth 20000 in
theorem t_1818 : (Jvm.Cond.code ({ cls := "MatchTreesModel", name := "budgetIs", desc := "()V" } : Jvm.MethodName) prog_14_method_35_code (1 : Nat) (Option.none : Option Jvm.ClassFile.FieldType)) ∈ WT := WT_of (sub_tables_1_8 _ (List.mem_of_getElem? (i := 9) rfl)) (by decide +kernel)
set_option maxRecDepth 20000 in
theorem t_1819 : (Jvm.Cond.methodLink "MatchTreesModel" (449 : Nat) ({ cls := "MatchTreesModel", name := "finishes", desc := "(I)V" } : Jvm.MethodName)) ∈ WT := WT_of (sub_tables_1_8 _ (List.mem_of_getElem? (i := 10) (by decide +kernel))) (by decide +kernel)
set_option maxRecDepth 20000 in
theorem t_1821 : (Jvm.Cond.instanceMethod ({ cls := "MatchTreesModel", name := "finishes", desc := "(I)V" } : Jvm.MethodName)) ∈ WT := WT_of (sub_tables_1_8 _ (List.mem_of_getElem? (i := 12) (by decide +kernel))) (by decide +kernel)
set_option maxRecDepth 20000 in
theorem t_1822 : (Jvm.Cond.code ({ cls := "MatchTreesModel", name := "finishes", desc := "(I)V" } : Jvm.MethodName) prog_14_method_37_code (3 : Nat) (Option.none : Option Jvm.ClassFile.FieldType)) ∈ WT := WT_of (sub_tables_1_8 _ (List.mem_of_getElem? (i := 13) rfl)) (by decide +kernel)
set_option maxRecDepth 20000 in
theorem t_1823 : (Jvm.Cond.methodLink "MatchTreesModel" (452 : Nat) ({ cls := "MatchTreesModel", name := "lays", desc := "()V" } : Jvm.MethodName)) ∈ WT := WT_of (sub_tables_1_8 _ (List.mem_of_getElem? (i := 14) (by decide +kernel))) (by decide +kernel)
set_option maxRecDepth 20000 in
theorem t_1825 : (Jvm.Cond.instanceMethod ({ cls := "MatchTreesModel", name := "lays", desc := "()V" } : Jvm.MethodName)) ∈ WT := WT_of (sub_tables_1_8 _ (List.mem_of_getElem? (i := 16) (by decide +kernel))) (by decide +kernel)
set_option maxRecDepth 20000 in
theorem t_1826 : (Jvm.Cond.code ({ cls := "MatchTreesModel", name := "lays", desc := "()V" } : Jvm.MethodName) prog_14_method_46_code (5 : Nat) (Option.none : Option Jvm.ClassFile.FieldType)) ∈ WT := WT_of (sub_tables_1_8 _ (List.mem_of_getElem? (i := 17) rfl)) (by decide +kernel)
set_option maxRecDepth 20000 in
theorem t_1827 : (Jvm.Cond.methodLink "MatchTreesModel" (459 : Nat) ({ cls := "MatchTreesModel", name := "columns", desc := "()I" } : Jvm.MethodName)) ∈ WT := WT_of (sub_tables_1_8 _ (List.mem_of_getElem? (i := 18) (by decide +kernel))) (by decide +kernel)
set_option maxRecDepth 20000 in
theorem t_1829 : (Jvm.Cond.instanceMethod ({ cls := "MatchTreesModel", name := "columns", desc := "()I" } : Jvm.MethodName)) ∈ WT := WT_of (sub_tables_1_8 _ (List.mem_of_getElem? (i := 20) (by decide +kernel))) (by decide +kernel)
set_option maxRecDepth 20000 in
theorem t_1830 : (Jvm.Cond.code ({ cls := "MatchTreesModel", name := "columns", desc := "()I" } : Jvm.MethodName) prog_14_method_44_code (1 : Nat) (Option.some Jvm.ClassFile.FieldType.int)) ∈ WT := WT_of (sub_tables_1_8 _ (List.mem_of_getElem? (i := 21) rfl)) (by decide +kernel)
set_option maxRecDepth 20000 in
theorem t_1831 : (Jvm.Cond.methodLink "MatchTreesModel" (463 : Nat) ({ cls := "MatchTreesModel", name := "columnValues", desc := "(I)I" } : Jvm.MethodName)) ∈ WT := WT_of (sub_tables_1_8 _ (List.mem_of_getElem? (i := 22) (by decide +kernel))) (by decide +kernel)
set_option maxRecDepth 20000 in
theorem t_1833 : (Jvm.Cond.instanceMethod ({ cls := "MatchTreesModel", name := "columnValues", desc := "(I)I" } : Jvm.MethodName)) ∈ WT := WT_of (sub_tables_1_8 _ (List.mem_of_getElem? (i := 24) (by decide +kernel))) (by decide +kernel)
set_option maxRecDepth 20000 in
theorem t_1834 : (Jvm.Cond.code ({ cls := "MatchTreesModel", name := "columnValues", desc := "(I)I" } : Jvm.MethodName) prog_14_method_45_code (2 : Nat) (Option.some Jvm.ClassFile.FieldType.int)) ∈ WT := WT_of (sub_tables_1_8 _ (List.mem_of_getElem? (i := 25) rfl)) (by decide +kernel)
set_option maxRecDepth 20000 in
theorem t_1835 : (Jvm.Cond.methodLink "MatchTreesModel" (466 : Nat) ({ cls := "MatchTreesModel", name := "isFitting", desc := "(III)Z" } : Jvm.MethodName)) ∈ WT := WT_of (sub_tables_1_8 _ (List.mem_of_getElem? (i := 26) (by decide +kernel))) (by decide +kernel)
set_option maxRecDepth 20000 in
theorem t_1837 : (Jvm.Cond.instanceMethod ({ cls := "MatchTreesModel", name := "isFitting", desc := "(III)Z" } : Jvm.MethodName)) ∈ WT := WT_of (sub_tables_1_8 _ (List.mem_of_getElem? (i := 28) (by decide +kernel))) (by decide +kernel)
set_option maxRecDepth 20000 in
theorem t_1838 : (Jvm.Cond.code ({ cls := "MatchTreesModel", name := "isFitting", desc := "(III)Z" } : Jvm.MethodName) prog_14_method_43_code (9 : Nat) (Option.some Jvm.ClassFile.FieldType.boolean)) ∈ WT := WT_of (sub_tables_1_8 _ (List.mem_of_getElem? (i := 29) rfl)) (by decide +kernel)
set_option maxRecDepth 20000 in
theorem t_1839 : (Jvm.Cond.methodLink "MatchTreesModel" (455 : Nat) ({ cls := "MatchTreesModel", name := "fieldOf", desc := "(III)I" } : Jvm.MethodName)) ∈ WT := WT_of (sub_tables_1_8 _ (List.mem_of_getElem? (i := 30) (by decide +kernel))) (by decide +kernel)
set_option maxRecDepth 20000 in
theorem t_1841 : (Jvm.Cond.instanceMethod ({ cls := "MatchTreesModel", name := "fieldOf", desc := "(III)I" } : Jvm.MethodName)) ∈ WT := WT_of (sub_tables_1_8 _ (List.mem_of_getElem? (i := 32) (by decide +kernel))) (by decide +kernel)
set_option maxRecDepth 20000 in
theorem t_1842 : (Jvm.Cond.code ({ cls := "MatchTreesModel", name := "fieldOf", desc := "(III)I" } : Jvm.MethodName) prog_14_method_42_code (7 : Nat) (Option.some Jvm.ClassFile.FieldType.int)) ∈ WT := WT_of (sub_tables_1_8 _ (List.mem_of_getElem? (i := 33) rfl)) (by decide +kernel)
set_option maxRecDepth 20000 in
theorem t_1843 : (Jvm.Cond.methodLink "MatchTreesLaw" (32 : Nat) ({ cls := "MatchTreesModel", name := "fault", desc := "(I)I" } : Jvm.MethodName)) ∈ WT := WT_of (sub_tables_1_8 _ (List.mem_of_getElem? (i := 34) (by decide +kernel))) (by decide +kernel)
set_option maxRecDepth 20000 in
theorem t_1844 : (Jvm.Cond.instanceMethod ({ cls := "MatchTreesModel", name := "fault", desc := "(I)I" } : Jvm.MethodName)) ∈ WT := WT_of (sub_tables_1_8 _ (List.mem_of_getElem? (i := 35) (by decide +kernel))) (by decide +kernel)
set_option maxRecDepth 20000 in
theorem t_1845 : (Jvm.Cond.selects "MatchTreesModel" ({ cls := "MatchTreesModel", name := "fault", desc := "(I)I" } : Jvm.MethodName) ({ cls := "MatchTreesModel", name := "fault", desc := "(I)I" } : Jvm.MethodName)) ∈ WT := WT_of (sub_tables_1_8 _ (List.mem_of_getElem? (i := 36) (by decide +kernel))) (by decide +kernel)
set_option maxRecDepth 20000 in
theorem t_1846 : (Jvm.Cond.code ({ cls := "MatchTreesModel", name := "fault", desc := "(I)I" } : Jvm.MethodName) prog_14_method_39_code (2 : Nat) (Option.some Jvm.ClassFile.FieldType.int)) ∈ WT := WT_of (sub_tables_1_8 _ (List.mem_of_getElem? (i := 37) rfl)) (by decide +kernel)
set_option maxRecDepth 20000 in
theorem t_1847 : (Jvm.Cond.methodLink "MatchTreesLaw" (160 : Nat) ({ cls := "MatchTreesModel", name := "status", desc := "(I)I" } : Jvm.MethodName)) ∈ WT := WT_of (sub_tables_1_8 _ (List.mem_of_getElem? (i := 38) (by decide +kernel))) (by decide +kernel)
set_option maxRecDepth 20000 in
theorem t_1848 : (Jvm.Cond.instanceMethod ({ cls := "MatchTreesModel", name := "status", desc := "(I)I" } : Jvm.MethodName)) ∈ WT := WT_of (sub_tables_1_8 _ (List.mem_of_getElem? (i := 39) (by decide +kernel))) (by decide +kernel)
set_option maxRecDepth 20000 in
theorem t_1849 : (Jvm.Cond.selects "MatchTreesModel" ({ cls := "MatchTreesModel", name := "status", desc := "(I)I" } : Jvm.MethodName) ({ cls := "MatchTreesModel", name := "status", desc := "(I)I" } : Jvm.MethodName)) ∈ WT := WT_of (sub_tables_1_8 _ (List.mem_of_getElem? (i := 40) (by decide +kernel))) (by decide +kernel)
set_option maxRecDepth 20000 in
theorem t_1850 : (Jvm.Cond.code ({ cls := "MatchTreesModel", name := "status", desc := "(I)I" } : Jvm.MethodName) prog_14_method_41_code (2 : Nat) (Option.some Jvm.ClassFile.FieldType.int)) ∈ WT := WT_of (sub_tables_1_8 _ (List.mem_of_getElem? (i := 41) rfl)) (by decide +kernel)
set_option maxRecDepth 20000 in
theorem t_1851 : (Jvm.Cond.methodLink "MatchTreesLaw" (140 : Nat) ({ cls := "MatchTreesModel", name := "undo", desc := "()Z" } : Jvm.MethodName)) ∈ WT := WT_of (sub_tables_1_8 _ (List.mem_of_getElem? (i := 42) (by decide +kernel))) (by decide +kernel)
set_option maxRecDepth 20000 in
theorem t_1852 : (Jvm.Cond.instanceMethod ({ cls := "MatchTreesModel", name := "undo", desc := "()Z" } : Jvm.MethodName)) ∈ WT := WT_of (sub_tables_1_8 _ (List.mem_of_getElem? (i := 43) (by decide +kernel))) (by decide +kernel)
set_option maxRecDepth 20000 in
theorem t_1853 : (Jvm.Cond.selects "MatchTreesModel" ({ cls := "MatchTreesModel", name := "undo", desc := "()Z" } : Jvm.MethodName) ({ cls := "MatchTreesModel", name := "undo", desc := "()Z" } : Jvm.MethodName)) ∈ WT := WT_of (sub_tables_1_8 _ (List.mem_of_getElem? (i := 44) (by decide +kernel))) (by decide +kernel)
set_option maxRecDepth 20000 in
theorem t_1854 : (Jvm.Cond.code ({ cls := "MatchTreesModel", name := "undo", desc := "()Z" } : Jvm.MethodName) prog_14_method_51_code (1 : Nat) (Option.some Jvm.ClassFile.FieldType.boolean)) ∈ WT := WT_of (sub_tables_1_8 _ (List.mem_of_getElem? (i := 45) rfl)) (by decide +kernel)
set_option maxRecDepth 20000 in
theorem t_1855 : (Jvm.Cond.methodLink "MatchTreesModel" (469 : Nat) ({ cls := "MatchTreesModel", name := "slot", desc := "(I)I" } : Jvm.MethodName)) ∈ WT := WT_of (sub_tables_1_8 _ (List.mem_of_getElem? (i := 46) (by decide +kernel))) (by decide +kernel)
set_option maxRecDepth 20000 in
theorem t_1857 : (Jvm.Cond.instanceMethod ({ cls := "MatchTreesModel", name := "slot", desc := "(I)I" } : Jvm.MethodName)) ∈ WT := WT_of (sub_tables_1_8 _ (List.mem_of_getElem? (i := 48) (by decide +kernel))) (by decide +kernel)
set_option maxRecDepth 20000 in
theorem t_1858 : (Jvm.Cond.code ({ cls := "MatchTreesModel", name := "slot", desc := "(I)I" } : Jvm.MethodName) prog_14_method_49_code (2 : Nat) (Option.some Jvm.ClassFile.FieldType.int)) ∈ WT := WT_of (sub_tables_1_8 _ (List.mem_of_getElem? (i := 49) rfl)) (by decide +kernel)
set_option maxRecDepth 20000 in
theorem t_1859 : (Jvm.Cond.methodLink "MatchTreesModel" (472 : Nat) ({ cls := "MatchTreesModel", name := "copies", desc := "(II)V" } : Jvm.MethodName)) ∈ WT := WT_of (sub_tables_1_8 _ (List.mem_of_getElem? (i := 50) (by decide +kernel))) (by decide +kernel)
set_option maxRecDepth 20000 in
theorem t_1861 : (Jvm.Cond.instanceMethod ({ cls := "MatchTreesModel", name := "copies", desc := "(II)V" } : Jvm.MethodName)) ∈ WT := WT_of (sub_tables_1_8 _ (List.mem_of_getElem? (i := 52) (by decide +kernel))) (by decide +kernel)
set_option maxRecDepth 20000 in
theorem t_1862 : (Jvm.Cond.code ({ cls := "MatchTreesModel", name := "copies", desc := "(II)V" } : Jvm.MethodName) prog_14_method_47_code (4 : Nat) (Option.none : Option Jvm.ClassFile.FieldType)) ∈ WT := WT_of (sub_tables_1_8 _ (List.mem_of_getElem? (i := 53) rfl)) (by decide +kernel)
set_option maxRecDepth 20000 in
theorem t_1863 : (Jvm.Cond.methodLink "MatchTreesLaw" (36 : Nat) ({ cls := "MatchTreesModel", name := "has", desc := "(I)I" } : Jvm.MethodName)) ∈ WT := WT_of (sub_tables_1_8 _ (List.mem_of_getElem? (i := 54) (by decide +kernel))) (by decide +kernel)
set_option maxRecDepth 20000 in
theorem t_1864 : (Jvm.Cond.instanceMethod ({ cls := "MatchTreesModel", name := "has", desc := "(I)I" } : Jvm.MethodName)) ∈ WT := WT_of (sub_tables_1_8 _ (List.mem_of_getElem? (i := 55) (by decide +kernel))) (by decide +kernel)
set_option maxRecDepth 20000 in
theorem t_1865 : (Jvm.Cond.selects "MatchTreesModel" ({ cls := "MatchTreesModel", name := "has", desc := "(I)I" } : Jvm.MethodName) ({ cls := "MatchTreesModel", name := "has", desc := "(I)I" } : Jvm.MethodName)) ∈ WT := WT_of (sub_tables_1_8 _ (List.mem_of_getElem? (i := 56) (by decide +kernel))) (by decide +kernel)
set_option maxRecDepth 20000 in
theorem t_1866 : (Jvm.Cond.code ({ cls := "MatchTreesModel", name := "has", desc := "(I)I" } : Jvm.MethodName) prog_14_method_61_code (2 : Nat) (Option.some Jvm.ClassFile.FieldType.int)) ∈ WT := WT_of (sub_tables_1_8 _ (List.mem_of_getElem? (i := 57) rfl)) (by decide +kernel)
set_option maxRecDepth 20000 in
theorem t_1867 : (Jvm.Cond.methodLink "MatchTreesLaw" (41 : Nat) ({ cls := "MatchTreesModel", name := "letter", desc := "(III)I" } : Jvm.MethodName)) ∈ WT := WT_of (sub_tables_1_8 _ (List.mem_of_getElem? (i := 58) (by decide +kernel))) (by decide +kernel)
set_option maxRecDepth 20000 in
theorem t_1868 : (Jvm.Cond.instanceMethod ({ cls := "MatchTreesModel", name := "letter", desc := "(III)I" } : Jvm.MethodName)) ∈ WT := WT_of (sub_tables_1_8 _ (List.mem_of_getElem? (i := 59) (by decide +kernel))) (by decide +kernel)
set_option maxRecDepth 20000 in
theorem t_1869 : (Jvm.Cond.selects "MatchTreesModel" ({ cls := "MatchTreesModel", name := "letter", desc := "(III)I" } : Jvm.MethodName) ({ cls := "MatchTreesModel", name := "letter", desc := "(III)I" } : Jvm.MethodName)) ∈ WT := WT_of (sub_tables_1_8 _ (List.mem_of_getElem? (i := 60) (by decide +kernel))) (by decide +kernel)
set_option maxRecDepth 20000 in
theorem t_1870 : (Jvm.Cond.code ({ cls := "MatchTreesModel", name := "letter", desc := "(III)I" } : Jvm.MethodName) prog_14_method_63_code (7 : Nat) (Option.some Jvm.ClassFile.FieldType.int)) ∈ WT := WT_of (sub_tables_1_8 _ (List.mem_of_getElem? (i := 61) rfl)) (by decide +kernel)
set_option maxRecDepth 20000 in
theorem t_1871 : (Jvm.Cond.methodLink "MatchTreesModel" (487 : Nat) ({ cls := "MatchTreesModel", name := "lettersOf", desc := "(J)I" } : Jvm.MethodName)) ∈ WT := WT_of (sub_tables_1_8 _ (List.mem_of_getElem? (i := 62) (by decide +kernel))) (by decide +kernel)
set_option maxRecDepth 20000 in
theorem t_1872 : (Jvm.Cond.static ({ cls := "MatchTreesModel", name := "lettersOf", desc := "(J)I" } : Jvm.MethodName)) ∈ WT := WT_of (sub_tables_1_8 _ (List.mem_of_getElem? (i := 63) (by decide +kernel))) (by decide +kernel)
set_option maxRecDepth 20000 in
theorem t_1873 : (Jvm.Cond.code ({ cls := "MatchTreesModel", name := "lettersOf", desc := "(J)I" } : Jvm.MethodName) prog_14_method_62_code (5 : Nat) (Option.some Jvm.ClassFile.FieldType.int)) ∈ WT := WT_of (sub_tables_1_8 _ (List.mem_of_getElem? (i := 64) rfl)) (by decide +kernel)
set_option maxRecDepth 20000 in
theorem t_1874 : (Jvm.Cond.constantLong "MatchTreesModel" (490 : Nat) (255 : Int64)) ∈ WT := WT_of (sub_tables_1_8 _ (List.mem_of_getElem? (i := 65) (by decide +kernel))) (by decide +kernel)
set_option maxRecDepth 20000 in
theorem t_1875 : (Jvm.Cond.methodLink "MatchTreesLaw" (45 : Nat) ({ cls := "MatchTreesModel", name := "values", desc := "(I)I" } : Jvm.MethodName)) ∈ WT := WT_of (sub_tables_1_8 _ (List.mem_of_getElem? (i := 66) (by decide +kernel))) (by decide +kernel)
set_option maxRecDepth 20000 in
theorem t_1876 : (Jvm.Cond.instanceMethod ({ cls := "MatchTreesModel", name := "values", desc := "(I)I" } : Jvm.MethodName)) ∈ WT := WT_of (sub_tables_1_8 _ (List.mem_of_getElem? (i := 67) (by decide +kernel))) (by decide +kernel)
set_option maxRecDepth 20000 in
theorem t_1877 : (Jvm.Cond.selects "MatchTreesModel" ({ cls := "MatchTreesModel", name := "values", desc := "(I)I" } : Jvm.MethodName) ({ cls := "MatchTreesModel", name := "values", desc := "(I)I" } : Jvm.MethodName)) ∈ WT := WT_of (sub_tables_1_8 _ (List.mem_of_getElem? (i := 68) (by decide +kernel))) (by decide +kernel)
set_option maxRecDepth 20000 in
theorem t_1878 : (Jvm.Cond.code ({ cls := "MatchTreesModel", name := "values", desc := "(I)I" } : Jvm.MethodName) prog_14_method_64_code (2 : Nat) (Option.some Jvm.ClassFile.FieldType.int)) ∈ WT := WT_of (sub_tables_1_8 _ (List.mem_of_getElem? (i := 69) rfl)) (by decide +kernel)
set_option maxRecDepth 20000 in
theorem t_1879 : (Jvm.Cond.methodLink "MatchTreesLaw" (50 : Nat) ({ cls := "MatchTreesModel", name := "arm", desc := "(II)I" } : Jvm.MethodName)) ∈ WT := WT_of (sub_tables_1_8 _ (List.mem_of_getElem? (i := 70) (by decide +kernel))) (by decide +kernel)
set_option maxRecDepth 20000 in
theorem t_1880 : (Jvm.Cond.instanceMethod ({ cls := "MatchTreesModel", name := "arm", desc := "(II)I" } : Jvm.MethodName)) ∈ WT := WT_of (sub_tables_1_8 _ (List.mem_of_getElem? (i := 71) (by decide +kernel))) (by decide +kernel)
set_option maxRecDepth 20000 in
theorem t_1881 : (Jvm.Cond.selects "MatchTreesModel" ({ cls := "MatchTreesModel", name := "arm", desc := "(II)I" } : Jvm.MethodName) ({ cls := "MatchTreesModel", name := "arm", desc := "(II)I" } : Jvm.MethodName)) ∈ WT := WT_of (sub_tables_1_8 _ (List.mem_of_getElem? (i := 72) (by decide +kernel))) (by decide +kernel)
set_option maxRecDepth 20000 in
theorem t_1882 : (Jvm.Cond.code ({ cls := "MatchTreesModel", name := "arm", desc := "(II)I" } : Jvm.MethodName) prog_14_method_69_code (3 : Nat) (Option.some Jvm.ClassFile.FieldType.int)) ∈ WT := WT_of (sub_tables_1_8 _ (List.mem_of_getElem? (i := 73) rfl)) (by decide +kernel)
set_option maxRecDepth 20000 in
theorem t_1883 : (Jvm.Cond.methodLink "MatchTreesModel" (498 : Nat) ({ cls := "MatchTreesModel", name := "isPlace", desc := "(I)Z" } : Jvm.MethodName)) ∈ WT := WT_of (sub_tables_1_8 _ (List.mem_of_getElem? (i := 74) (by decide +kernel))) (by decide +kernel)
set_option maxRecDepth 20000 in
theorem t_1885 : (Jvm.Cond.instanceMethod ({ cls := "MatchTreesModel", name := "isPlace", desc := "(I)Z" } : Jvm.MethodName)) ∈ WT := WT_of (sub_tables_1_8 _ (List.mem_of_getElem? (i := 76) (by decide +kernel))) (by decide +kernel)
set_option maxRecDepth 20000 in
theorem t_1886 : (Jvm.Cond.code ({ cls := "MatchTreesModel", name := "isPlace", desc := "(I)Z" } : Jvm.MethodName) prog_14_method_65_code (2 : Nat) (Option.some Jvm.ClassFile.FieldType.boolean)) ∈ WT := WT_of (sub_tables_1_8 _ (List.mem_of_getElem? (i := 77) rfl)) (by decide +kernel)
set_option maxRecDepth 20000 in
theorem t_1887 : (Jvm.Cond.methodLink "MatchTreesModel" (501 : Nat) ({ cls := "MatchTreesModel", name := "arranges", desc := "(I)V" } : Jvm.MethodName)) ∈ WT := WT_of (sub_tables_1_8 _ (List.mem_of_getElem? (i := 78) (by decide +kernel))) (by decide +kernel)
set_option maxRecDepth 20000 in
theorem t_1889 : (Jvm.Cond.instanceMethod ({ cls := "MatchTreesModel", name := "arranges", desc := "(I)V" } : Jvm.MethodName)) ∈ WT := WT_of (sub_tables_1_8 _ (List.mem_of_getElem? (i := 80) (by decide +kernel))) (by decide +kernel)
set_option maxRecDepth 20000 in
theorem t_1890 : (Jvm.Cond.code ({ cls := "MatchTreesModel", name := "arranges", desc := "(I)V" } : Jvm.MethodName) prog_14_method_53_code (4 : Nat) (Option.none : Option Jvm.ClassFile.FieldType)) ∈ WT := WT_of (sub_tables_1_8 _ (List.mem_of_getElem? (i := 81) rfl)) (by decide +kernel)
set_option maxRecDepth 20000 in
theorem t_1891 : (Jvm.Cond.methodLink "MatchTreesModel" (475 : Nat) ({ cls := "MatchTreesModel", name := "placed", desc := "(II)I" } : Jvm.MethodName)) ∈ WT := WT_of (sub_tables_1_8 _ (List.mem_of_getElem? (i := 82) (by decide +kernel))) (by decide +kernel)
set_option maxRecDepth 20000 in
theorem t_1893 : (Jvm.Cond.instanceMethod ({ cls := "MatchTreesModel", name := "placed", desc := "(II)I" } : Jvm.MethodName)) ∈ WT := WT_of (sub_tables_1_8 _ (List.mem_of_getElem? (i := 84) (by decide +kernel))) (by decide +kernel)
set_option maxRecDepth 20000 in
theorem t_1894 : (Jvm.Cond.code ({ cls := "MatchTreesModel", name := "placed", desc := "(II)I" } : Jvm.MethodName) prog_14_method_52_code (5 : Nat) (Option.some Jvm.ClassFile.FieldType.int)) ∈ WT := WT_of (sub_tables_1_8 _ (List.mem_of_getElem? (i := 85) rfl)) (by decide +kernel)
set_option maxRecDepth 20000 in
theorem t_1895 : (Jvm.Cond.methodLink "MatchTreesModel" (504 : Nat) ({ cls := "MatchTreesModel", name := "countsRows", desc := "()V" } : Jvm.MethodName)) ∈ WT := WT_of (sub_tables_1_8 _ (List.mem_of_getElem? (i := 86) (by decide +kernel))) (by decide +kernel)
set_option maxRecDepth 20000 in
theorem t_1897 : (Jvm.Cond.instanceMethod ({ cls := "MatchTreesModel", name := "countsRows", desc := "()V" } : Jvm.MethodName)) ∈ WT := WT_of (sub_tables_1_8 _ (List.mem_of_getElem? (i := 88) (by decide +kernel))) (by decide +kernel)
set_option maxRecDepth 20000 in
theorem t_1898 : (Jvm.Cond.code ({ cls := "MatchTreesModel", name := "countsRows", desc := "()V" } : Jvm.MethodName) prog_14_method_60_code (2 : Nat) (Option.none : Option Jvm.ClassFile.FieldType)) ∈ WT := WT_of (sub_tables_1_8 _ (List.mem_of_getElem? (i := 89) rfl)) (by decide +kernel)
set_option maxRecDepth 20000 in
theorem t_1899 : (Jvm.Cond.methodLink "MatchTreesModel" (484 : Nat) ({ cls := "MatchTreesModel", name := "fitting", desc := "(I)I" } : Jvm.MethodName)) ∈ WT := WT_of (sub_tables_1_8 _ (List.mem_of_getElem? (i := 90) (by decide +kernel))) (by decide +kernel)
set_option maxRecDepth 20000 in
theorem t_1901 : (Jvm.Cond.instanceMethod ({ cls := "MatchTreesModel", name := "fitting", desc := "(I)I" } : Jvm.MethodName)) ∈ WT := WT_of (sub_tables_1_8 _ (List.mem_of_getElem? (i := 92) (by decide +kernel))) (by decide +kernel)
set_option maxRecDepth 20000 in
theorem t_1902 : (Jvm.Cond.code ({ cls := "MatchTreesModel", name := "fitting", desc := "(I)I" } : Jvm.MethodName) prog_14_method_59_code (4 : Nat) (Option.some Jvm.ClassFile.FieldType.int)) ∈ WT := WT_of (sub_tables_1_8 _ (List.mem_of_getElem? (i := 93) rfl)) (by decide +kernel)
set_option maxRecDepth 20000 in
theorem t_1903 : (Jvm.Cond.methodLink "MatchTreesModel" (478 : Nat) ({ cls := "MatchTreesModel", name := "valuesIn", desc := "(I)V" } : Jvm.MethodName)) ∈ WT := WT_of (sub_tables_1_8 _ (List.mem_of_getElem? (i := 94) (by decide +kernel))) (by decide +kernel)
set_option maxRecDepth 20000 in
theorem t_1905 : (Jvm.Cond.instanceMethod ({ cls := "MatchTreesModel", name := "valuesIn", desc := "(I)V" } : Jvm.MethodName)) ∈ WT := WT_of (sub_tables_1_8 _ (List.mem_of_getElem? (i := 96) (by decide +kernel))) (by decide +kernel)
set_option maxRecDepth 20000 in
theorem t_1906 : (Jvm.Cond.code ({ cls := "MatchTreesModel", name := "valuesIn", desc := "(I)V" } : Jvm.MethodName) prog_14_method_57_code (4 : Nat) (Option.none : Option Jvm.ClassFile.FieldType)) ∈ WT := WT_of (sub_tables_1_8 _ (List.mem_of_getElem? (i := 97) rfl)) (by decide +kernel)
set_option maxRecDepth 20000 in
theorem t_1907 : (Jvm.Cond.methodLink "MatchTreesModel" (481 : Nat) ({ cls := "MatchTreesModel", name := "setIn", desc := "(II)I" } : Jvm.MethodName)) ∈ WT := WT_of (sub_tables_1_8 _ (List.mem_of_getElem? (i := 98) (by decide +kernel))) (by decide +kernel)
set_option maxRecDepth 20000 in
theorem t_1909 : (Jvm.Cond.instanceMethod ({ cls := "MatchTreesModel", name := "setIn", desc := "(II)I" } : Jvm.MethodName)) ∈ WT := WT_of (sub_tables_1_8 _ (List.mem_of_getElem? (i := 100) (by decide +kernel))) (by decide +kernel)
set_option maxRecDepth 20000 in
theorem t_1910 : (Jvm.Cond.code ({ cls := "MatchTreesModel", name := "setIn", desc := "(II)I" } : Jvm.MethodName) prog_14_method_58_code (3 : Nat) (Option.some Jvm.ClassFile.FieldType.int)) ∈ WT := WT_of (sub_tables_1_8 _ (List.mem_of_getElem? (i := 101) rfl)) (by decide +kernel)
set_option maxRecDepth 20000 in
theorem t_1911 : (Jvm.Cond.methodLink "MatchTreesModel" (507 : Nat) ({ cls := "MatchTreesModel", name := "isUseful", desc := "(I)I" } : Jvm.MethodName)) ∈ WT := WT_of (sub_tables_1_8 _ (List.mem_of_getElem? (i := 102) (by decide +kernel))) (by decide +kernel)
set_option maxRecDepth 20000 in
theorem t_1913 : (Jvm.Cond.instanceMethod ({ cls := "MatchTreesModel", name := "isUseful", desc := "(I)I" } : Jvm.MethodName)) ∈ WT := WT_of (sub_tables_1_8 _ (List.mem_of_getElem? (i := 104) (by decide +kernel))) (by decide +kernel)
set_option maxRecDepth 20000 in
theorem t_1914 : (Jvm.Cond.code ({ cls := "MatchTreesModel", name := "isUseful", desc := "(I)I" } : Jvm.MethodName) prog_14_method_67_code (4 : Nat) (Option.some Jvm.ClassFile.FieldType.int)) ∈ WT := WT_of (sub_tables_1_8 _ (List.mem_of_getElem? (i := 105) rfl)) (by decide +kernel)
set_option maxRecDepth 20000 in
theorem t_1915 : (Jvm.Cond.methodLink "MatchTreesModel" (510 : Nat) ({ cls := "MatchTreesModel", name := "fittingRows", desc := "(I)I" } : Jvm.MethodName)) ∈ WT := WT_of (sub_tables_1_8 _ (List.mem_of_getElem? (i := 106) (by decide +kernel))) (by decide +kernel)
set_option maxRecDepth 20000 in
theorem t_1917 : (Jvm.Cond.instanceMethod ({ cls := "MatchTreesModel", name := "fittingRows", desc := "(I)I" } : Jvm.MethodName)) ∈ WT := WT_of (sub_tables_1_8 _ (List.mem_of_getElem? (i := 108) (by decide +kernel))) (by decide +kernel)
set_option maxRecDepth 20000 in
theorem t_1918 : (Jvm.Cond.code ({ cls := "MatchTreesModel", name := "fittingRows", desc := "(I)I" } : Jvm.MethodName) prog_14_method_66_code (4 : Nat) (Option.some Jvm.ClassFile.FieldType.int)) ∈ WT := WT_of (sub_tables_1_8 _ (List.mem_of_getElem? (i := 109) rfl)) (by decide +kernel)
set_option maxRecDepth 20000 in
theorem t_1919 : (Jvm.Cond.methodLink "MatchTreesModel" (513 : Nat) ({ cls := "MatchTreesModel", name := "takenRows", desc := "(I)I" } : Jvm.MethodName)) ∈ WT := WT_of (sub_tables_1_8 _ (List.mem_of_getElem? (i := 110) (by decide +kernel))) (by decide +kernel)
set_option maxRecDepth 20000 in
theorem t_1921 : (Jvm.Cond.instanceMethod ({ cls := "MatchTreesModel", name := "takenRows", desc := "(I)I" } : Jvm.MethodName)) ∈ WT := WT_of (sub_tables_1_8 _ (List.mem_of_getElem? (i := 112) (by decide +kernel))) (by decide +kernel)
set_option maxRecDepth 20000 in
theorem t_1922 : (Jvm.Cond.code ({ cls := "MatchTreesModel", name := "takenRows", desc := "(I)I" } : Jvm.MethodName) prog_14_method_68_code (5 : Nat) (Option.some Jvm.ClassFile.FieldType.int)) ∈ WT := WT_of (sub_tables_1_8 _ (List.mem_of_getElem? (i := 113) rfl)) (by decide +kernel)
set_option maxRecDepth 20000 in
theorem t_1923 : (Jvm.Cond.methodLink "MatchTreesModel" (492 : Nat) ({ cls := "MatchTreesModel", name := "openBy", desc := "(I)I" } : Jvm.MethodName)) ∈ WT := WT_of (sub_tables_1_8 _ (List.mem_of_getElem? (i := 114) (by decide +kernel))) (by decide +kernel)
set_option maxRecDepth 20000 in
theorem t_1925 : (Jvm.Cond.instanceMethod ({ cls := "MatchTreesModel", name := "openBy", desc := "(I)I" } : Jvm.MethodName)) ∈ WT := WT_of (sub_tables_1_8 _ (List.mem_of_getElem? (i := 116) (by decide +kernel))) (by decide +kernel)
set_option maxRecDepth 20000 in
theorem t_1926 : (Jvm.Cond.code ({ cls := "MatchTreesModel", name := "openBy", desc := "(I)I" } : Jvm.MethodName) prog_14_method_54_code (4 : Nat) (Option.some Jvm.ClassFile.FieldType.int)) ∈ WT := WT_of (sub_tables_1_8 _ (List.mem_of_getElem? (i := 117) rfl)) (by decide +kernel)
set_option maxRecDepth 20000 in
theorem t_1927 : (Jvm.Cond.methodLink "MatchTreesModel" (495 : Nat) ({ cls := "MatchTreesModel", name := "lowest", desc := "(I)I" } : Jvm.MethodName)) ∈ WT := WT_of (sub_tables_1_8 _ (List.mem_of_getElem? (i := 118) (by decide +kernel))) (by decide +kernel)
set_option maxRecDepth 20000 in
theorem t_1928 : (Jvm.Cond.static ({ cls := "MatchTreesModel", name := "lowest", desc := "(I)I" } : Jvm.MethodName)) ∈ WT := WT_of (sub_tables_1_8 _ (List.mem_of_getElem? (i := 119) (by decide +kernel))) (by decide +kernel)
set_option maxRecDepth 20000 in
theorem t_1929 : (Jvm.Cond.code ({ cls := "MatchTreesModel", name := "lowest", desc := "(I)I" } : Jvm.MethodName) prog_14_method_55_code (2 : Nat) (Option.some Jvm.ClassFile.FieldType.int)) ∈ WT := WT_of (sub_tables_1_8 _ (List.mem_of_getElem? (i := 120) rfl)) (by decide +kernel)
set_option maxRecDepth 20000 in
theorem t_1930 : (Jvm.Cond.methodLink "MatchTreesLaw" (54 : Nat) ({ cls := "MatchTreesModel", name := "fits", desc := "(III)I" } : Jvm.MethodName)) ∈ WT := WT_of (sub_tables_1_8 _ (List.mem_of_getElem? (i := 121) (by decide +kernel))) (by decide +kernel)
set_option maxRecDepth 20000 in
theorem t_1931 : (Jvm.Cond.instanceMethod ({ cls := "MatchTreesModel", name := "fits", desc := "(III)I" } : Jvm.MethodName)) ∈ WT := WT_of (sub_tables_1_8 _ (List.mem_of_getElem? (i := 122) (by decide +kernel))) (by decide +kernel)
set_option maxRecDepth 20000 in
theorem t_1932 : (Jvm.Cond.selects "MatchTreesModel" ({ cls := "MatchTreesModel", name := "fits", desc := "(III)I" } : Jvm.MethodName) ({ cls := "MatchTreesModel", name := "fits", desc := "(III)I" } : Jvm.MethodName)) ∈ WT := WT_of (sub_tables_1_8 _ (List.mem_of_getElem? (i := 123) (by decide +kernel))) (by decide +kernel)
set_option maxRecDepth 20000 in
theorem t_1933 : (Jvm.Cond.code ({ cls := "MatchTreesModel", name := "fits", desc := "(III)I" } : Jvm.MethodName) prog_14_method_70_code (4 : Nat) (Option.some Jvm.ClassFile.FieldType.int)) ∈ WT := WT_of (sub_tables_1_8 _ (List.mem_of_getElem? (i := 124) rfl)) (by decide +kernel)
set_option maxRecDepth 20000 in
theorem t_1934 : (Jvm.Cond.methodLink "MatchTreesLaw" (58 : Nat) ({ cls := "MatchTreesModel", name := "holds", desc := "(II)I" } : Jvm.MethodName)) ∈ WT := WT_of (sub_tables_1_8 _ (List.mem_of_getElem? (i := 125) (by decide +kernel))) (by decide +kernel)
set_option maxRecDepth 20000 in
theorem t_1935 : (Jvm.Cond.instanceMethod ({ cls := "MatchTreesModel", name := "holds", desc := "(II)I" } : Jvm.MethodName)) ∈ WT := WT_of (sub_tables_1_8 _ (List.mem_of_getElem? (i := 126) (by decide +kernel))) (by decide +kernel)
set_option maxRecDepth 20000 in
theorem t_1936 : (Jvm.Cond.selects "MatchTreesModel" ({ cls := "MatchTreesModel", name := "holds", desc := "(II)I" } : Jvm.MethodName) ({ cls := "MatchTreesModel", name := "holds", desc := "(II)I" } : Jvm.MethodName)) ∈ WT := WT_of (sub_tables_1_8 _ (List.mem_of_getElem? (i := 127) (by decide +kernel))) (by decide +kernel)
set_option maxRecDepth 20000 in
theorem t_1937 : (Jvm.Cond.code ({ cls := "MatchTreesModel", name := "holds", desc := "(II)I" } : Jvm.MethodName) prog_14_method_71_code (4 : Nat) (Option.some Jvm.ClassFile.FieldType.int)) ∈ WT := WT_of (sub_tables_1_8 _ (List.mem_of_getElem? (i := 128) rfl)) (by decide +kernel)
set_option maxRecDepth 20000 in
theorem t_1938 : (Jvm.Cond.methodLink "MatchTreesLaw" (62 : Nat) ({ cls := "MatchTreesModel", name := "missing", desc := "(I)I" } : Jvm.MethodName)) ∈ WT := WT_of (sub_tables_1_8 _ (List.mem_of_getElem? (i := 129) (by decide +kernel))) (by decide +kernel)
set_option maxRecDepth 20000 in
theorem t_1939 : (Jvm.Cond.instanceMethod ({ cls := "MatchTreesModel", name := "missing", desc := "(I)I" } : Jvm.MethodName)) ∈ WT := WT_of (sub_tables_1_8 _ (List.mem_of_getElem? (i := 130) (by decide +kernel))) (by decide +kernel)
set_option maxRecDepth 20000 in
theorem t_1940 : (Jvm.Cond.selects "MatchTreesModel" ({ cls := "MatchTreesModel", name := "missing", desc := "(I)I" } : Jvm.MethodName) ({ cls := "MatchTreesModel", name := "missing", desc := "(I)I" } : Jvm.MethodName)) ∈ WT := WT_of (sub_tables_1_8 _ (List.mem_of_getElem? (i := 131) (by decide +kernel))) (by decide +kernel)
set_option maxRecDepth 20000 in
theorem t_1941 : (Jvm.Cond.code ({ cls := "MatchTreesModel", name := "missing", desc := "(I)I" } : Jvm.MethodName) prog_14_method_72_code (4 : Nat) (Option.some Jvm.ClassFile.FieldType.int)) ∈ WT := WT_of (sub_tables_1_8 _ (List.mem_of_getElem? (i := 132) rfl)) (by decide +kernel)
set_option maxRecDepth 20000 in
theorem t_1942 : (Jvm.Cond.methodLink "MatchTreesLaw" (66 : Nat) ({ cls := "MatchTreesModel", name := "taken", desc := "(I)I" } : Jvm.MethodName)) ∈ WT := WT_of (sub_tables_1_8 _ (List.mem_of_getElem? (i := 133) (by decide +kernel))) (by decide +kernel)
set_option maxRecDepth 20000 in
theorem t_1943 : (Jvm.Cond.instanceMethod ({ cls := "MatchTreesModel", name := "taken", desc := "(I)I" } : Jvm.MethodName)) ∈ WT := WT_of (sub_tables_1_8 _ (List.mem_of_getElem? (i := 134) (by decide +kernel))) (by decide +kernel)
set_option maxRecDepth 20000 in
theorem t_1944 : (Jvm.Cond.selects "MatchTreesModel" ({ cls := "MatchTreesModel", name := "taken", desc := "(I)I" } : Jvm.MethodName) ({ cls := "MatchTreesModel", name := "taken", desc := "(I)I" } : Jvm.MethodName)) ∈ WT := WT_of (sub_tables_1_8 _ (List.mem_of_getElem? (i := 135) (by decide +kernel))) (by decide +kernel)
set_option maxRecDepth 20000 in
theorem t_1945 : (Jvm.Cond.code ({ cls := "MatchTreesModel", name := "taken", desc := "(I)I" } : Jvm.MethodName) prog_14_method_74_code (2 : Nat) (Option.some Jvm.ClassFile.FieldType.int)) ∈ WT := WT_of (sub_tables_1_8 _ (List.mem_of_getElem? (i := 136) rfl)) (by decide +kernel)
set_option maxRecDepth 20000 in
theorem t_1946 : (Jvm.Cond.methodLink "MatchTreesModel" (516 : Nat) ({ cls := "MatchTreesModel", name := "isRow", desc := "(I)Z" } : Jvm.MethodName)) ∈ WT := WT_of (sub_tables_1_8 _ (List.mem_of_getElem? (i := 137) (by decide +kernel))) (by decide +kernel)
set_option maxRecDepth 20000 in
theorem t_1948 : (Jvm.Cond.instanceMethod ({ cls := "MatchTreesModel", name := "isRow", desc := "(I)Z" } : Jvm.MethodName)) ∈ WT := WT_of (sub_tables_1_8 _ (List.mem_of_getElem? (i := 139) (by decide +kernel))) (by decide +kernel)
set_option maxRecDepth 20000 in
theorem t_1949 : (Jvm.Cond.code ({ cls := "MatchTreesModel", name := "isRow", desc := "(I)Z" } : Jvm.MethodName) prog_14_method_73_code (2 : Nat) (Option.some Jvm.ClassFile.FieldType.boolean)) ∈ WT := WT_of (sub_tables_1_8 _ (List.mem_of_getElem? (i := 140) rfl)) (by decide +kernel)
set_option maxRecDepth 20000 in
theorem t_1950 : (Jvm.Cond.methodLink "MatchTreesLaw" (70 : Nat) ({ cls := "MatchTreesModel", name := "row", desc := "()I" } : Jvm.MethodName)) ∈ WT := WT_of (sub_tables_1_8 _ (List.mem_of_getElem? (i := 141) (by decide +kernel))) (by decide +kernel)
set_option maxRecDepth 20000 in
theorem t_1951 : (Jvm.Cond.instanceMethod ({ cls := "MatchTreesModel", name := "row", desc := "()I" } : Jvm.MethodName)) ∈ WT := WT_of (sub_tables_1_8 _ (List.mem_of_getElem? (i := 142) (by decide +kernel))) (by decide +kernel)
set_option maxRecDepth 20000 in
theorem t_1952 : (Jvm.Cond.selects "MatchTreesModel" ({ cls := "MatchTreesModel", name := "row", desc := "()I" } : Jvm.MethodName) ({ cls := "MatchTreesModel", name := "row", desc := "()I" } : Jvm.MethodName)) ∈ WT := WT_of (sub_tables_1_8 _ (List.mem_of_getElem? (i := 143) (by decide +kernel))) (by decide +kernel)
set_option maxRecDepth 20000 in
theorem t_1953 : (Jvm.Cond.code ({ cls := "MatchTreesModel", name := "row", desc := "()I" } : Jvm.MethodName) prog_14_method_78_code (3 : Nat) (Option.some Jvm.ClassFile.FieldType.int)) ∈ WT := WT_of (sub_tables_1_8 _ (List.mem_of_getElem? (i := 144) rfl)) (by decide +kernel)
set_option maxRecDepth 20000 in
theorem t_1954 : (Jvm.Cond.methodLink "MatchTreesModel" (525 : Nat) ({ cls := "MatchTreesModel", name := "valueRead", desc := "(I)I" } : Jvm.MethodName)) ∈ WT := WT_of (sub_tables_1_8 _ (List.mem_of_getElem? (i := 145) (by decide +kernel))) (by decide +kernel)
set_option maxRecDepth 20000 in
theorem t_1956 : (Jvm.Cond.instanceMethod ({ cls := "MatchTreesModel", name := "valueRead", desc := "(I)I" } : Jvm.MethodName)) ∈ WT := WT_of (sub_tables_1_8 _ (List.mem_of_getElem? (i := 147) (by decide +kernel))) (by decide +kernel)
set_option maxRecDepth 20000 in
theorem t_1957 : (Jvm.Cond.code ({ cls := "MatchTreesModel", name := "valueRead", desc := "(I)I" } : Jvm.MethodName) prog_14_method_75_code (5 : Nat) (Option.some Jvm.ClassFile.FieldType.int)) ∈ WT := WT_of (sub_tables_1_8 _ (List.mem_of_getElem? (i := 148) rfl)) (by decide +kernel)
set_option maxRecDepth 20000 in
theorem t_1958 : (Jvm.Cond.methodLink "MatchTreesModel" (519 : Nat) ({ cls := "MatchTreesModel", name := "isMoreOf", desc := "(I)Z" } : Jvm.MethodName)) ∈ WT := WT_of (sub_tables_1_8 _ (List.mem_of_getElem? (i := 149) (by decide +kernel))) (by decide +kernel)
set_option maxRecDepth 20000 in
theorem t_1960 : (Jvm.Cond.instanceMethod ({ cls := "MatchTreesModel", name := "isMoreOf", desc := "(I)Z" } : Jvm.MethodName)) ∈ WT := WT_of (sub_tables_1_8 _ (List.mem_of_getElem? (i := 151) (by decide +kernel))) (by decide +kernel)
set_option maxRecDepth 20000 in
theorem t_1961 : (Jvm.Cond.code ({ cls := "MatchTreesModel", name := "isMoreOf", desc := "(I)Z" } : Jvm.MethodName) prog_14_method_77_code (5 : Nat) (Option.some Jvm.ClassFile.FieldType.boolean)) ∈ WT := WT_of (sub_tables_1_8 _ (List.mem_of_getElem? (i := 152) rfl)) (by decide +kernel)
end
section
section
set_option maxRecDepth 20000 in
theorem t_1962 : (Jvm.Cond.methodLink "MatchTreesModel" (522 : Nat) ({ cls := "MatchTreesModel", name := "conRead", desc := "(I)I" } : Jvm.MethodName)) ∈ WT := WT_of (sub_tables_1_8 _ (List.mem_of_getElem? (i := 153) (by decide +kernel))) (by decide +kernel)
set_option maxRecDepth 20000 in
theorem t_1964 : (Jvm.Cond.instanceMethod ({ cls := "MatchTreesModel", name := "conRead", desc := "(I)I" } : Jvm.MethodName)) ∈ WT := WT_of (sub_tables_1_8 _ (List.mem_of_getElem? (i := 155) (by decide +kernel))) (by decide +kernel)
set_option maxRecDepth 20000 in
theorem t_1965 : (Jvm.Cond.code ({ cls := "MatchTreesModel", name := "conRead", desc := "(I)I" } : Jvm.MethodName) prog_14_method_76_code (3 : Nat) (Option.some Jvm.ClassFile.FieldType.int)) ∈ WT := WT_of (sub_tables_1_8 _ (List.mem_of_getElem? (i := 156) rfl)) (by decide +kernel)
set_option maxRecDepth 20000 in
theorem t_1966 : (Jvm.Cond.methodLink "MatchTreesLaw" (74 : Nat) ({ cls := "MatchTreesModel", name := "text", desc := "(I)I" } : Jvm.MethodName)) ∈ WT := WT_of (sub_tables_1_8 _ (List.mem_of_getElem? (i := 157) (by decide +kernel))) (by decide +kernel)
set_option maxRecDepth 20000 in
theorem t_1967 : (Jvm.Cond.instanceMethod ({ cls := "MatchTreesModel", name := "text", desc := "(I)I" } : Jvm.MethodName)) ∈ WT := WT_of (sub_tables_1_8 _ (List.mem_of_getElem? (i := 158) (by decide +kernel))) (by decide +kernel)
set_option maxRecDepth 20000 in
theorem t_1968 : (Jvm.Cond.selects "MatchTreesModel" ({ cls := "MatchTreesModel", name := "text", desc := "(I)I" } : Jvm.MethodName) ({ cls := "MatchTreesModel", name := "text", desc := "(I)I" } : Jvm.MethodName)) ∈ WT := WT_of (sub_tables_1_8 _ (List.mem_of_getElem? (i := 159) (by decide +kernel))) (by decide +kernel)
set_option maxRecDepth 20000 in
theorem t_1969 : (Jvm.Cond.code ({ cls := "MatchTreesModel", name := "text", desc := "(I)I" } : Jvm.MethodName) prog_14_method_84_code (4 : Nat) (Option.some Jvm.ClassFile.FieldType.int)) ∈ WT := WT_of (sub_tables_1_8 _ (List.mem_of_getElem? (i := 160) rfl)) (by decide +kernel)
set_option maxRecDepth 20000 in
theorem t_1970 : (Jvm.Cond.methodLink "MatchTreesModel" (538 : Nat) ({ cls := "MatchTreesModel", name := "later", desc := "(II)V" } : Jvm.MethodName)) ∈ WT := WT_of (sub_tables_1_8 _ (List.mem_of_getElem? (i := 161) (by decide +kernel))) (by decide +kernel)
set_option maxRecDepth 20000 in
theorem t_1972 : (Jvm.Cond.instanceMethod ({ cls := "MatchTreesModel", name := "later", desc := "(II)V" } : Jvm.MethodName)) ∈ WT := WT_of (sub_tables_1_8 _ (List.mem_of_getElem? (i := 163) (by decide +kernel))) (by decide +kernel)
set_option maxRecDepth 20000 in
theorem t_1973 : (Jvm.Cond.code ({ cls := "MatchTreesModel", name := "later", desc := "(II)V" } : Jvm.MethodName) prog_14_method_81_code (3 : Nat) (Option.none : Option Jvm.ClassFile.FieldType)) ∈ WT := WT_of (sub_tables_1_8 _ (List.mem_of_getElem? (i := 164) rfl)) (by decide +kernel)
set_option maxRecDepth 20000 in
theorem t_1974 : (Jvm.Cond.methodLink "MatchTreesModel" (528 : Nat) ({ cls := "MatchTreesModel", name := "writes", desc := "(I)V" } : Jvm.MethodName)) ∈ WT := WT_of (sub_tables_1_8 _ (List.mem_of_getElem? (i := 165) (by decide +kernel))) (by decide +kernel)
set_option maxRecDepth 20000 in
theorem t_1976 : (Jvm.Cond.instanceMethod ({ cls := "MatchTreesModel", name := "writes", desc := "(I)V" } : Jvm.MethodName)) ∈ WT := WT_of (sub_tables_1_8 _ (List.mem_of_getElem? (i := 167) (by decide +kernel))) (by decide +kernel)
set_option maxRecDepth 20000 in
theorem t_1977 : (Jvm.Cond.code ({ cls := "MatchTreesModel", name := "writes", desc := "(I)V" } : Jvm.MethodName) prog_14_method_79_code (2 : Nat) (Option.none : Option Jvm.ClassFile.FieldType)) ∈ WT := WT_of (sub_tables_1_8 _ (List.mem_of_getElem? (i := 168) rfl)) (by decide +kernel)
set_option maxRecDepth 20000 in
theorem t_1978 : (Jvm.Cond.methodLink "MatchTreesModel" (541 : Nat) ({ cls := "MatchTreesModel", name := "writesValue", desc := "(II)V" } : Jvm.MethodName)) ∈ WT := WT_of (sub_tables_1_8 _ (List.mem_of_getElem? (i := 169) (by decide +kernel))) (by decide +kernel)
set_option maxRecDepth 20000 in
theorem t_1980 : (Jvm.Cond.instanceMethod ({ cls := "MatchTreesModel", name := "writesValue", desc := "(II)V" } : Jvm.MethodName)) ∈ WT := WT_of (sub_tables_1_8 _ (List.mem_of_getElem? (i := 171) (by decide +kernel))) (by decide +kernel)
set_option maxRecDepth 20000 in
theorem t_1981 : (Jvm.Cond.code ({ cls := "MatchTreesModel", name := "writesValue", desc := "(II)V" } : Jvm.MethodName) prog_14_method_83_code (6 : Nat) (Option.none : Option Jvm.ClassFile.FieldType)) ∈ WT := WT_of (sub_tables_1_8 _ (List.mem_of_getElem? (i := 172) rfl)) (by decide +kernel)
set_option maxRecDepth 20000 in
theorem t_1982 : (Jvm.Cond.methodLink "MatchTreesModel" (531 : Nat) ({ cls := "MatchTreesModel", name := "conOf", desc := "(II)I" } : Jvm.MethodName)) ∈ WT := WT_of (sub_tables_1_8 _ (List.mem_of_getElem? (i := 173) (by decide +kernel))) (by decide +kernel)
set_option maxRecDepth 20000 in
theorem t_1984 : (Jvm.Cond.instanceMethod ({ cls := "MatchTreesModel", name := "conOf", desc := "(II)I" } : Jvm.MethodName)) ∈ WT := WT_of (sub_tables_1_8 _ (List.mem_of_getElem? (i := 175) (by decide +kernel))) (by decide +kernel)
set_option maxRecDepth 20000 in
theorem t_1985 : (Jvm.Cond.code ({ cls := "MatchTreesModel", name := "conOf", desc := "(II)I" } : Jvm.MethodName) prog_14_method_82_code (5 : Nat) (Option.some Jvm.ClassFile.FieldType.int)) ∈ WT := WT_of (sub_tables_1_8 _ (List.mem_of_getElem? (i := 176) rfl)) (by decide +kernel)
set_option maxRecDepth 20000 in
theorem t_1986 : (Jvm.Cond.methodLink "MatchTreesModel" (534 : Nat) ({ cls := "MatchTreesModel", name := "writesName", desc := "(J)V" } : Jvm.MethodName)) ∈ WT := WT_of (sub_tables_1_8 _ (List.mem_of_getElem? (i := 177) (by decide +kernel))) (by decide +kernel)
set_option maxRecDepth 20000 in
theorem t_1988 : (Jvm.Cond.instanceMethod ({ cls := "MatchTreesModel", name := "writesName", desc := "(J)V" } : Jvm.MethodName)) ∈ WT := WT_of (sub_tables_1_8 _ (List.mem_of_getElem? (i := 179) (by decide +kernel))) (by decide +kernel)
set_option maxRecDepth 20000 in
theorem t_1989 : (Jvm.Cond.code ({ cls := "MatchTreesModel", name := "writesName", desc := "(J)V" } : Jvm.MethodName) prog_14_method_80_code (4 : Nat) (Option.none : Option Jvm.ClassFile.FieldType)) ∈ WT := WT_of (sub_tables_1_8 _ (List.mem_of_getElem? (i := 180) rfl)) (by decide +kernel)
set_option maxRecDepth 20000 in
theorem t_1990 : (Jvm.Cond.methodLink "MatchTreesLaw" (78 : Nat) ({ cls := "MatchTreesModel", name := "octet", desc := "(I)I" } : Jvm.MethodName)) ∈ WT := WT_of (sub_tables_1_8 _ (List.mem_of_getElem? (i := 181) (by decide +kernel))) (by decide +kernel)
set_option maxRecDepth 20000 in
theorem t_1991 : (Jvm.Cond.instanceMethod ({ cls := "MatchTreesModel", name := "octet", desc := "(I)I" } : Jvm.MethodName)) ∈ WT := WT_of (sub_tables_1_8 _ (List.mem_of_getElem? (i := 182) (by decide +kernel))) (by decide +kernel)
set_option maxRecDepth 20000 in
theorem t_1992 : (Jvm.Cond.selects "MatchTreesModel" ({ cls := "MatchTreesModel", name := "octet", desc := "(I)I" } : Jvm.MethodName) ({ cls := "MatchTreesModel", name := "octet", desc := "(I)I" } : Jvm.MethodName)) ∈ WT := WT_of (sub_tables_1_8 _ (List.mem_of_getElem? (i := 183) (by decide +kernel))) (by decide +kernel)
set_option maxRecDepth 20000 in
theorem t_1993 : (Jvm.Cond.code ({ cls := "MatchTreesModel", name := "octet", desc := "(I)I" } : Jvm.MethodName) prog_14_method_85_code (2 : Nat) (Option.some Jvm.ClassFile.FieldType.int)) ∈ WT := WT_of (sub_tables_1_8 _ (List.mem_of_getElem? (i := 184) rfl)) (by decide +kernel)
set_option maxRecDepth 20000 in
theorem t_1994 : (Jvm.Cond.methodLink "MatchTreesLaw" (82 : Nat) ({ cls := "MatchTreesModel", name := "tree", desc := "(II)I" } : Jvm.MethodName)) ∈ WT := WT_of (sub_tables_1_8 _ (List.mem_of_getElem? (i := 185) (by decide +kernel))) (by decide +kernel)
set_option maxRecDepth 20000 in
theorem t_1995 : (Jvm.Cond.instanceMethod ({ cls := "MatchTreesModel", name := "tree", desc := "(II)I" } : Jvm.MethodName)) ∈ WT := WT_of (sub_tables_1_8 _ (List.mem_of_getElem? (i := 186) (by decide +kernel))) (by decide +kernel)
set_option maxRecDepth 20000 in
theorem t_1996 : (Jvm.Cond.selects "MatchTreesModel" ({ cls := "MatchTreesModel", name := "tree", desc := "(II)I" } : Jvm.MethodName) ({ cls := "MatchTreesModel", name := "tree", desc := "(II)I" } : Jvm.MethodName)) ∈ WT := WT_of (sub_tables_1_8 _ (List.mem_of_getElem? (i := 187) (by decide +kernel))) (by decide +kernel)
set_option maxRecDepth 20000 in
theorem t_1997 : (Jvm.Cond.code ({ cls := "MatchTreesModel", name := "tree", desc := "(II)I" } : Jvm.MethodName) prog_14_method_103_code (5 : Nat) (Option.some Jvm.ClassFile.FieldType.int)) ∈ WT := WT_of (sub_tables_1_8 _ (List.mem_of_getElem? (i := 188) rfl)) (by decide +kernel)
set_option maxRecDepth 20000 in
theorem t_1998 : (Jvm.Cond.methodLink "MatchTreesModel" (581 : Nat) ({ cls := "MatchTreesModel", name := "plants", desc := "(II)V" } : Jvm.MethodName)) ∈ WT := WT_of (sub_tables_1_8 _ (List.mem_of_getElem? (i := 189) (by decide +kernel))) (by decide +kernel)
set_option maxRecDepth 20000 in
theorem t_2000 : (Jvm.Cond.instanceMethod ({ cls := "MatchTreesModel", name := "plants", desc := "(II)V" } : Jvm.MethodName)) ∈ WT := WT_of (sub_tables_1_8 _ (List.mem_of_getElem? (i := 191) (by decide +kernel))) (by decide +kernel)
set_option maxRecDepth 20000 in
theorem t_2001 : (Jvm.Cond.code ({ cls := "MatchTreesModel", name := "plants", desc := "(II)V" } : Jvm.MethodName) prog_14_method_96_code (3 : Nat) (Option.none : Option Jvm.ClassFile.FieldType)) ∈ WT := WT_of (sub_tables_1_8 _ (List.mem_of_getElem? (i := 192) rfl)) (by decide +kernel)
set_option maxRecDepth 20000 in
theorem t_2002 : (Jvm.Cond.methodLink "MatchTreesModel" (584 : Nat) ({ cls := "MatchTreesModel", name := "allTests", desc := "(I)I" } : Jvm.MethodName)) ∈ WT := WT_of (sub_tables_1_8 _ (List.mem_of_getElem? (i := 193) (by decide +kernel))) (by decide +kernel)
set_option maxRecDepth 20000 in
theorem t_2004 : (Jvm.Cond.instanceMethod ({ cls := "MatchTreesModel", name := "allTests", desc := "(I)I" } : Jvm.MethodName)) ∈ WT := WT_of (sub_tables_1_8 _ (List.mem_of_getElem? (i := 195) (by decide +kernel))) (by decide +kernel)
set_option maxRecDepth 20000 in
theorem t_2005 : (Jvm.Cond.code ({ cls := "MatchTreesModel", name := "allTests", desc := "(I)I" } : Jvm.MethodName) prog_14_method_98_code (5 : Nat) (Option.some Jvm.ClassFile.FieldType.int)) ∈ WT := WT_of (sub_tables_1_8 _ (List.mem_of_getElem? (i := 196) rfl)) (by decide +kernel)
set_option maxRecDepth 20000 in
theorem t_2006 : (Jvm.Cond.methodLink "MatchTreesModel" (571 : Nat) ({ cls := "MatchTreesModel", name := "testsFor", desc := "(II)I" } : Jvm.MethodName)) ∈ WT := WT_of (sub_tables_1_8 _ (List.mem_of_getElem? (i := 197) (by decide +kernel))) (by decide +kernel)
set_option maxRecDepth 20000 in
theorem t_2008 : (Jvm.Cond.instanceMethod ({ cls := "MatchTreesModel", name := "testsFor", desc := "(II)I" } : Jvm.MethodName)) ∈ WT := WT_of (sub_tables_1_8 _ (List.mem_of_getElem? (i := 199) (by decide +kernel))) (by decide +kernel)
set_option maxRecDepth 20000 in
theorem t_2009 : (Jvm.Cond.code ({ cls := "MatchTreesModel", name := "testsFor", desc := "(II)I" } : Jvm.MethodName) prog_14_method_97_code (6 : Nat) (Option.some Jvm.ClassFile.FieldType.int)) ∈ WT := WT_of (sub_tables_1_8 _ (List.mem_of_getElem? (i := 200) rfl)) (by decide +kernel)
set_option maxRecDepth 20000 in
theorem t_2010 : (Jvm.Cond.methodLink "MatchTreesModel" (562 : Nat) ({ cls := "MatchTreesModel", name := "root", desc := "()I" } : Jvm.MethodName)) ∈ WT := WT_of (sub_tables_1_8 _ (List.mem_of_getElem? (i := 201) (by decide +kernel))) (by decide +kernel)
set_option maxRecDepth 20000 in
theorem t_2012 : (Jvm.Cond.instanceMethod ({ cls := "MatchTreesModel", name := "root", desc := "()I" } : Jvm.MethodName)) ∈ WT := WT_of (sub_tables_1_8 _ (List.mem_of_getElem? (i := 203) (by decide +kernel))) (by decide +kernel)
set_option maxRecDepth 20000 in
theorem t_2013 : (Jvm.Cond.code ({ cls := "MatchTreesModel", name := "root", desc := "()I" } : Jvm.MethodName) prog_14_method_95_code (1 : Nat) (Option.some Jvm.ClassFile.FieldType.int)) ∈ WT := WT_of (sub_tables_1_8 _ (List.mem_of_getElem? (i := 204) rfl)) (by decide +kernel)
set_option maxRecDepth 20000 in
theorem t_2014 : (Jvm.Cond.methodLink "MatchTreesModel" (559 : Nat) ({ cls := "MatchTreesModel", name := "leftOf", desc := "(II)I" } : Jvm.MethodName)) ∈ WT := WT_of (sub_tables_1_8 _ (List.mem_of_getElem? (i := 205) (by decide +kernel))) (by decide +kernel)
set_option maxRecDepth 20000 in
theorem t_2015 : (Jvm.Cond.static ({ cls := "MatchTreesModel", name := "leftOf", desc := "(II)I" } : Jvm.MethodName)) ∈ WT := WT_of (sub_tables_1_8 _ (List.mem_of_getElem? (i := 206) (by decide +kernel))) (by decide +kernel)
set_option maxRecDepth 20000 in
theorem t_2016 : (Jvm.Cond.code ({ cls := "MatchTreesModel", name := "leftOf", desc := "(II)I" } : Jvm.MethodName) prog_14_method_86_code (2 : Nat) (Option.some Jvm.ClassFile.FieldType.int)) ∈ WT := WT_of (sub_tables_1_8 _ (List.mem_of_getElem? (i := 207) rfl)) (by decide +kernel)
set_option maxRecDepth 20000 in
theorem t_2017 : (Jvm.Cond.methodLink "MatchTreesModel" (547 : Nat) ({ cls := "MatchTreesModel", name := "armsIn", desc := "(I)I" } : Jvm.MethodName)) ∈ WT := WT_of (sub_tables_1_8 _ (List.mem_of_getElem? (i := 208) (by decide +kernel))) (by decide +kernel)
set_option maxRecDepth 20000 in
theorem t_2018 : (Jvm.Cond.static ({ cls := "MatchTreesModel", name := "armsIn", desc := "(I)I" } : Jvm.MethodName)) ∈ WT := WT_of (sub_tables_1_8 _ (List.mem_of_getElem? (i := 209) (by decide +kernel))) (by decide +kernel)
set_option maxRecDepth 20000 in
theorem t_2019 : (Jvm.Cond.code ({ cls := "MatchTreesModel", name := "armsIn", desc := "(I)I" } : Jvm.MethodName) prog_14_method_87_code (1 : Nat) (Option.some Jvm.ClassFile.FieldType.int)) ∈ WT := WT_of (sub_tables_1_8 _ (List.mem_of_getElem? (i := 210) rfl)) (by decide +kernel)
set_option maxRecDepth 20000 in
theorem t_2020 : (Jvm.Cond.methodLink "MatchTreesModel" (556 : Nat) ({ cls := "MatchTreesModel", name := "asksFor", desc := "(I)I" } : Jvm.MethodName)) ∈ WT := WT_of (sub_tables_1_8 _ (List.mem_of_getElem? (i := 211) (by decide +kernel))) (by decide +kernel)
set_option maxRecDepth 20000 in
theorem t_2022 : (Jvm.Cond.instanceMethod ({ cls := "MatchTreesModel", name := "asksFor", desc := "(I)I" } : Jvm.MethodName)) ∈ WT := WT_of (sub_tables_1_8 _ (List.mem_of_getElem? (i := 213) (by decide +kernel))) (by decide +kernel)
set_option maxRecDepth 20000 in
theorem t_2023 : (Jvm.Cond.code ({ cls := "MatchTreesModel", name := "asksFor", desc := "(I)I" } : Jvm.MethodName) prog_14_method_91_code (8 : Nat) (Option.some Jvm.ClassFile.FieldType.int)) ∈ WT := WT_of (sub_tables_1_8 _ (List.mem_of_getElem? (i := 214) rfl)) (by decide +kernel)
set_option maxRecDepth 20000 in
theorem t_2024 : (Jvm.Cond.methodLink "MatchTreesModel" (550 : Nat) ({ cls := "MatchTreesModel", name := "columnsIn", desc := "(I)I" } : Jvm.MethodName)) ∈ WT := WT_of (sub_tables_1_8 _ (List.mem_of_getElem? (i := 215) (by decide +kernel))) (by decide +kernel)
set_option maxRecDepth 20000 in
theorem t_2025 : (Jvm.Cond.static ({ cls := "MatchTreesModel", name := "columnsIn", desc := "(I)I" } : Jvm.MethodName)) ∈ WT := WT_of (sub_tables_1_8 _ (List.mem_of_getElem? (i := 216) (by decide +kernel))) (by decide +kernel)
set_option maxRecDepth 20000 in
theorem t_2026 : (Jvm.Cond.code ({ cls := "MatchTreesModel", name := "columnsIn", desc := "(I)I" } : Jvm.MethodName) prog_14_method_88_code (1 : Nat) (Option.some Jvm.ClassFile.FieldType.int)) ∈ WT := WT_of (sub_tables_1_8 _ (List.mem_of_getElem? (i := 217) rfl)) (by decide +kernel)
set_option maxRecDepth 20000 in
theorem t_2027 : (Jvm.Cond.methodLink "MatchTreesModel" (553 : Nat) ({ cls := "MatchTreesModel", name := "worthOf", desc := "(II)I" } : Jvm.MethodName)) ∈ WT := WT_of (sub_tables_1_8 _ (List.mem_of_getElem? (i := 218) (by decide +kernel))) (by decide +kernel)
set_option maxRecDepth 20000 in
theorem t_2029 : (Jvm.Cond.instanceMethod ({ cls := "MatchTreesModel", name := "worthOf", desc := "(II)I" } : Jvm.MethodName)) ∈ WT := WT_of (sub_tables_1_8 _ (List.mem_of_getElem? (i := 220) (by decide +kernel))) (by decide +kernel)
set_option maxRecDepth 20000 in
theorem t_2030 : (Jvm.Cond.code ({ cls := "MatchTreesModel", name := "worthOf", desc := "(II)I" } : Jvm.MethodName) prog_14_method_90_code (7 : Nat) (Option.some Jvm.ClassFile.FieldType.int)) ∈ WT := WT_of (sub_tables_1_8 _ (List.mem_of_getElem? (i := 221) rfl)) (by decide +kernel)
set_option maxRecDepth 20000 in
theorem t_2031 : (Jvm.Cond.methodLink "MatchTreesModel" (544 : Nat) ({ cls := "MatchTreesModel", name := "bitsOf", desc := "(I)I" } : Jvm.MethodName)) ∈ WT := WT_of (sub_tables_1_8 _ (List.mem_of_getElem? (i := 222) (by decide +kernel))) (by decide +kernel)
set_option maxRecDepth 20000 in
theorem t_2032 : (Jvm.Cond.static ({ cls := "MatchTreesModel", name := "bitsOf", desc := "(I)I" } : Jvm.MethodName)) ∈ WT := WT_of (sub_tables_1_8 _ (List.mem_of_getElem? (i := 223) (by decide +kernel))) (by decide +kernel)
set_option maxRecDepth 20000 in
theorem t_2033 : (Jvm.Cond.code ({ cls := "MatchTreesModel", name := "bitsOf", desc := "(I)I" } : Jvm.MethodName) prog_14_method_56_code (3 : Nat) (Option.some Jvm.ClassFile.FieldType.int)) ∈ WT := WT_of (sub_tables_1_8 _ (List.mem_of_getElem? (i := 224) rfl)) (by decide +kernel)
set_option maxRecDepth 20000 in
theorem t_2034 : (Jvm.Cond.methodLink "MatchTreesModel" (565 : Nat) ({ cls := "MatchTreesModel", name := "throughDoor", desc := "(I)I" } : Jvm.MethodName)) ∈ WT := WT_of (sub_tables_1_8 _ (List.mem_of_getElem? (i := 225) (by decide +kernel))) (by decide +kernel)
set_option maxRecDepth 20000 in
theorem t_2035 : (Jvm.Cond.static ({ cls := "MatchTreesModel", name := "throughDoor", desc := "(I)I" } : Jvm.MethodName)) ∈ WT := WT_of (sub_tables_1_8 _ (List.mem_of_getElem? (i := 226) (by decide +kernel))) (by decide +kernel)
set_option maxRecDepth 20000 in
theorem t_2036 : (Jvm.Cond.code ({ cls := "MatchTreesModel", name := "throughDoor", desc := "(I)I" } : Jvm.MethodName) prog_14_method_93_code (1 : Nat) (Option.some Jvm.ClassFile.FieldType.int)) ∈ WT := WT_of (sub_tables_1_8 _ (List.mem_of_getElem? (i := 227) rfl)) (by decide +kernel)
set_option maxRecDepth 20000 in
theorem t_2037 : (Jvm.Cond.methodLink "MatchTreesModel" (568 : Nat) ({ cls := "MatchTreesModel", name := "branchOf", desc := "(III)I" } : Jvm.MethodName)) ∈ WT := WT_of (sub_tables_1_8 _ (List.mem_of_getElem? (i := 228) (by decide +kernel))) (by decide +kernel)
set_option maxRecDepth 20000 in
theorem t_2039 : (Jvm.Cond.instanceMethod ({ cls := "MatchTreesModel", name := "branchOf", desc := "(III)I" } : Jvm.MethodName)) ∈ WT := WT_of (sub_tables_1_8 _ (List.mem_of_getElem? (i := 230) (by decide +kernel))) (by decide +kernel)
set_option maxRecDepth 20000 in
theorem t_2040 : (Jvm.Cond.code ({ cls := "MatchTreesModel", name := "branchOf", desc := "(III)I" } : Jvm.MethodName) prog_14_method_94_code (4 : Nat) (Option.some Jvm.ClassFile.FieldType.int)) ∈ WT := WT_of (sub_tables_1_8 _ (List.mem_of_getElem? (i := 231) rfl)) (by decide +kernel)
set_option maxRecDepth 20000 in
theorem t_2041 : (Jvm.Cond.methodLink "MatchTreesModel" (587 : Nat) ({ cls := "MatchTreesModel", name := "grows", desc := "()V" } : Jvm.MethodName)) ∈ WT := WT_of (sub_tables_1_8 _ (List.mem_of_getElem? (i := 232) (by decide +kernel))) (by decide +kernel)
set_option maxRecDepth 20000 in
theorem t_2043 : (Jvm.Cond.instanceMethod ({ cls := "MatchTreesModel", name := "grows", desc := "()V" } : Jvm.MethodName)) ∈ WT := WT_of (sub_tables_1_8 _ (List.mem_of_getElem? (i := 234) (by decide +kernel))) (by decide +kernel)
set_option maxRecDepth 20000 in
theorem t_2044 : (Jvm.Cond.code ({ cls := "MatchTreesModel", name := "grows", desc := "()V" } : Jvm.MethodName) prog_14_method_100_code (5 : Nat) (Option.none : Option Jvm.ClassFile.FieldType)) ∈ WT := WT_of (sub_tables_1_8 _ (List.mem_of_getElem? (i := 235) rfl)) (by decide +kernel)
set_option maxRecDepth 20000 in
theorem t_2045 : (Jvm.Cond.methodLink "MatchTreesModel" (574 : Nat) ({ cls := "MatchTreesModel", name := "reaches", desc := "(I)V" } : Jvm.MethodName)) ∈ WT := WT_of (sub_tables_1_8 _ (List.mem_of_getElem? (i := 236) (by decide +kernel))) (by decide +kernel)
set_option maxRecDepth 20000 in
theorem t_2047 : (Jvm.Cond.instanceMethod ({ cls := "MatchTreesModel", name := "reaches", desc := "(I)V" } : Jvm.MethodName)) ∈ WT := WT_of (sub_tables_1_8 _ (List.mem_of_getElem? (i := 238) (by decide +kernel))) (by decide +kernel)
set_option maxRecDepth 20000 in
theorem t_2048 : (Jvm.Cond.code ({ cls := "MatchTreesModel", name := "reaches", desc := "(I)V" } : Jvm.MethodName) prog_14_method_99_code (2 : Nat) (Option.none : Option Jvm.ClassFile.FieldType)) ∈ WT := WT_of (sub_tables_1_8 _ (List.mem_of_getElem? (i := 239) rfl)) (by decide +kernel)
set_option maxRecDepth 20000 in
theorem t_2049 : (Jvm.Cond.methodLink "MatchTreesModel" (577 : Nat) ({ cls := "MatchTreesModel", name := "isDoor", desc := "(I)Z" } : Jvm.MethodName)) ∈ WT := WT_of (sub_tables_1_9 _ (List.mem_of_getElem? (i := 0) (by decide +kernel))) (by decide +kernel)
set_option maxRecDepth 20000 in
theorem t_2051 : (Jvm.Cond.instanceMethod ({ cls := "MatchTreesModel", name := "isDoor", desc := "(I)Z" } : Jvm.MethodName)) ∈ WT := WT_of (sub_tables_1_9 _ (List.mem_of_getElem? (i := 2) (by decide +kernel))) (by decide +kernel)
set_option maxRecDepth 20000 in
theorem t_2052 : (Jvm.Cond.code ({ cls := "MatchTreesModel", name := "isDoor", desc := "(I)Z" } : Jvm.MethodName) prog_14_method_92_code (2 : Nat) (Option.some Jvm.ClassFile.FieldType.boolean)) ∈ WT := WT_of (sub_tables_1_9 _ (List.mem_of_getElem? (i := 3) rfl)) (by decide +kernel)
set_option maxRecDepth 20000 in
theorem t_2053 : (Jvm.Cond.methodLink "MatchTreesModel" (590 : Nat) ({ cls := "MatchTreesModel", name := "sizeOf", desc := "(I)I" } : Jvm.MethodName)) ∈ WT := WT_of (sub_tables_1_9 _ (List.mem_of_getElem? (i := 4) (by decide +kernel))) (by decide +kernel)
set_option maxRecDepth 20000 in
theorem t_2054 : (Jvm.Cond.static ({ cls := "MatchTreesModel", name := "sizeOf", desc := "(I)I" } : Jvm.MethodName)) ∈ WT := WT_of (sub_tables_1_9 _ (List.mem_of_getElem? (i := 5) (by decide +kernel))) (by decide +kernel)
set_option maxRecDepth 20000 in
theorem t_2055 : (Jvm.Cond.code ({ cls := "MatchTreesModel", name := "sizeOf", desc := "(I)I" } : Jvm.MethodName) prog_14_method_102_code (1 : Nat) (Option.some Jvm.ClassFile.FieldType.int)) ∈ WT := WT_of (sub_tables_1_9 _ (List.mem_of_getElem? (i := 6) rfl)) (by decide +kernel)
set_option maxRecDepth 20000 in
theorem t_2056 : (Jvm.Cond.methodLink "MatchTreesModel" (593 : Nat) ({ cls := "MatchTreesModel", name := "weighs", desc := "(I)V" } : Jvm.MethodName)) ∈ WT := WT_of (sub_tables_1_9 _ (List.mem_of_getElem? (i := 7) (by decide +kernel))) (by decide +kernel)
set_option maxRecDepth 20000 in
theorem t_2058 : (Jvm.Cond.instanceMethod ({ cls := "MatchTreesModel", name := "weighs", desc := "(I)V" } : Jvm.MethodName)) ∈ WT := WT_of (sub_tables_1_9 _ (List.mem_of_getElem? (i := 9) (by decide +kernel))) (by decide +kernel)
set_option maxRecDepth 20000 in
theorem t_2059 : (Jvm.Cond.code ({ cls := "MatchTreesModel", name := "weighs", desc := "(I)V" } : Jvm.MethodName) prog_14_method_101_code (8 : Nat) (Option.none : Option Jvm.ClassFile.FieldType)) ∈ WT := WT_of (sub_tables_1_9 _ (List.mem_of_getElem? (i := 10) rfl)) (by decide +kernel)
set_option maxRecDepth 20000 in
theorem t_2060 : (Jvm.Cond.constant "MatchTreesModel" (580 : Nat) (1000000 : Int32)) ∈ WT := WT_of (sub_tables_1_9 _ (List.mem_of_getElem? (i := 11) (by decide +kernel))) (by decide +kernel)
set_option maxRecDepth 20000 in
theorem t_2061 : (Jvm.Cond.methodLink "MatchTreesLaw" (86 : Nat) ({ cls := "MatchTreesModel", name := "first", desc := "(I)I" } : Jvm.MethodName)) ∈ WT := WT_of (sub_tables_1_9 _ (List.mem_of_getElem? (i := 12) (by decide +kernel))) (by decide +kernel)
set_option maxRecDepth 20000 in
theorem t_2062 : (Jvm.Cond.instanceMethod ({ cls := "MatchTreesModel", name := "first", desc := "(I)I" } : Jvm.MethodName)) ∈ WT := WT_of (sub_tables_1_9 _ (List.mem_of_getElem? (i := 13) (by decide +kernel))) (by decide +kernel)
set_option maxRecDepth 20000 in
theorem t_2063 : (Jvm.Cond.selects "MatchTreesModel" ({ cls := "MatchTreesModel", name := "first", desc := "(I)I" } : Jvm.MethodName) ({ cls := "MatchTreesModel", name := "first", desc := "(I)I" } : Jvm.MethodName)) ∈ WT := WT_of (sub_tables_1_9 _ (List.mem_of_getElem? (i := 14) (by decide +kernel))) (by decide +kernel)
set_option maxRecDepth 20000 in
theorem t_2064 : (Jvm.Cond.code ({ cls := "MatchTreesModel", name := "first", desc := "(I)I" } : Jvm.MethodName) prog_14_method_104_code (4 : Nat) (Option.some Jvm.ClassFile.FieldType.int)) ∈ WT := WT_of (sub_tables_1_9 _ (List.mem_of_getElem? (i := 15) rfl)) (by decide +kernel)
set_option maxRecDepth 20000 in
theorem t_2065 : (Jvm.Cond.methodLink "MatchTreesLaw" (90 : Nat) ({ cls := "MatchTreesModel", name := "scopes", desc := "(III)I" } : Jvm.MethodName)) ∈ WT := WT_of (sub_tables_1_9 _ (List.mem_of_getElem? (i := 16) (by decide +kernel))) (by decide +kernel)
set_option maxRecDepth 20000 in
theorem t_2066 : (Jvm.Cond.instanceMethod ({ cls := "MatchTreesModel", name := "scopes", desc := "(III)I" } : Jvm.MethodName)) ∈ WT := WT_of (sub_tables_1_9 _ (List.mem_of_getElem? (i := 17) (by decide +kernel))) (by decide +kernel)
set_option maxRecDepth 20000 in
theorem t_2067 : (Jvm.Cond.selects "MatchTreesModel" ({ cls := "MatchTreesModel", name := "scopes", desc := "(III)I" } : Jvm.MethodName) ({ cls := "MatchTreesModel", name := "scopes", desc := "(III)I" } : Jvm.MethodName)) ∈ WT := WT_of (sub_tables_1_9 _ (List.mem_of_getElem? (i := 18) (by decide +kernel))) (by decide +kernel)
set_option maxRecDepth 20000 in
theorem t_2068 : (Jvm.Cond.code ({ cls := "MatchTreesModel", name := "scopes", desc := "(III)I" } : Jvm.MethodName) prog_14_method_109_code (4 : Nat) (Option.some Jvm.ClassFile.FieldType.int)) ∈ WT := WT_of (sub_tables_1_9 _ (List.mem_of_getElem? (i := 19) rfl)) (by decide +kernel)
set_option maxRecDepth 20000 in
theorem t_2069 : (Jvm.Cond.methodLink "MatchTreesModel" (605 : Nat) ({ cls := "MatchTreesModel", name := "builds", desc := "()V" } : Jvm.MethodName)) ∈ WT := WT_of (sub_tables_1_9 _ (List.mem_of_getElem? (i := 20) (by decide +kernel))) (by decide +kernel)
set_option maxRecDepth 20000 in
theorem t_2071 : (Jvm.Cond.instanceMethod ({ cls := "MatchTreesModel", name := "builds", desc := "()V" } : Jvm.MethodName)) ∈ WT := WT_of (sub_tables_1_9 _ (List.mem_of_getElem? (i := 22) (by decide +kernel))) (by decide +kernel)
set_option maxRecDepth 20000 in
theorem t_2072 : (Jvm.Cond.code ({ cls := "MatchTreesModel", name := "builds", desc := "()V" } : Jvm.MethodName) prog_14_method_108_code (3 : Nat) (Option.none : Option Jvm.ClassFile.FieldType)) ∈ WT := WT_of (sub_tables_1_9 _ (List.mem_of_getElem? (i := 23) rfl)) (by decide +kernel)
set_option maxRecDepth 20000 in
theorem t_2073 : (Jvm.Cond.methodLink "MatchTreesModel" (599 : Nat) ({ cls := "MatchTreesModel", name := "opensScope", desc := "(II)V" } : Jvm.MethodName)) ∈ WT := WT_of (sub_tables_1_9 _ (List.mem_of_getElem? (i := 24) (by decide +kernel))) (by decide +kernel)
set_option maxRecDepth 20000 in
theorem t_2075 : (Jvm.Cond.instanceMethod ({ cls := "MatchTreesModel", name := "opensScope", desc := "(II)V" } : Jvm.MethodName)) ∈ WT := WT_of (sub_tables_1_9 _ (List.mem_of_getElem? (i := 26) (by decide +kernel))) (by decide +kernel)
set_option maxRecDepth 20000 in
theorem t_2076 : (Jvm.Cond.code ({ cls := "MatchTreesModel", name := "opensScope", desc := "(II)V" } : Jvm.MethodName) prog_14_method_107_code (3 : Nat) (Option.none : Option Jvm.ClassFile.FieldType)) ∈ WT := WT_of (sub_tables_1_9 _ (List.mem_of_getElem? (i := 27) rfl)) (by decide +kernel)
set_option maxRecDepth 20000 in
theorem t_2077 : (Jvm.Cond.methodLink "MatchTreesModel" (602 : Nat) ({ cls := "MatchTreesModel", name := "nextBranch", desc := "(I)I" } : Jvm.MethodName)) ∈ WT := WT_of (sub_tables_1_9 _ (List.mem_of_getElem? (i := 28) (by decide +kernel))) (by decide +kernel)
set_option maxRecDepth 20000 in
theorem t_2079 : (Jvm.Cond.instanceMethod ({ cls := "MatchTreesModel", name := "nextBranch", desc := "(I)I" } : Jvm.MethodName)) ∈ WT := WT_of (sub_tables_1_9 _ (List.mem_of_getElem? (i := 30) (by decide +kernel))) (by decide +kernel)
set_option maxRecDepth 20000 in
theorem t_2080 : (Jvm.Cond.code ({ cls := "MatchTreesModel", name := "nextBranch", desc := "(I)I" } : Jvm.MethodName) prog_14_method_106_code (5 : Nat) (Option.some Jvm.ClassFile.FieldType.int)) ∈ WT := WT_of (sub_tables_1_9 _ (List.mem_of_getElem? (i := 31) rfl)) (by decide +kernel)
set_option maxRecDepth 20000 in
theorem t_2081 : (Jvm.Cond.methodLink "MatchTreesModel" (596 : Nat) ({ cls := "MatchTreesModel", name := "isNewSet", desc := "(III)Z" } : Jvm.MethodName)) ∈ WT := WT_of (sub_tables_1_9 _ (List.mem_of_getElem? (i := 32) (by decide +kernel))) (by decide +kernel)
set_option maxRecDepth 20000 in
theorem t_2083 : (Jvm.Cond.instanceMethod ({ cls := "MatchTreesModel", name := "isNewSet", desc := "(III)Z" } : Jvm.MethodName)) ∈ WT := WT_of (sub_tables_1_9 _ (List.mem_of_getElem? (i := 34) (by decide +kernel))) (by decide +kernel)
set_option maxRecDepth 20000 in
theorem t_2084 : (Jvm.Cond.code ({ cls := "MatchTreesModel", name := "isNewSet", desc := "(III)Z" } : Jvm.MethodName) prog_14_method_105_code (5 : Nat) (Option.some Jvm.ClassFile.FieldType.boolean)) ∈ WT := WT_of (sub_tables_1_9 _ (List.mem_of_getElem? (i := 35) rfl)) (by decide +kernel)
set_option maxRecDepth 20000 in
theorem t_2085 : (Jvm.Cond.methodLink "MatchTreesLaw" (94 : Nat) ({ cls := "MatchTreesModel", name := "safe", desc := "(II)I" } : Jvm.MethodName)) ∈ WT := WT_of (sub_tables_1_9 _ (List.mem_of_getElem? (i := 36) (by decide +kernel))) (by decide +kernel)
set_option maxRecDepth 20000 in
theorem t_2086 : (Jvm.Cond.instanceMethod ({ cls := "MatchTreesModel", name := "safe", desc := "(II)I" } : Jvm.MethodName)) ∈ WT := WT_of (sub_tables_1_9 _ (List.mem_of_getElem? (i := 37) (by decide +kernel))) (by decide +kernel)
set_option maxRecDepth 20000 in
theorem t_2087 : (Jvm.Cond.selects "MatchTreesModel" ({ cls := "MatchTreesModel", name := "safe", desc := "(II)I" } : Jvm.MethodName) ({ cls := "MatchTreesModel", name := "safe", desc := "(II)I" } : Jvm.MethodName)) ∈ WT := WT_of (sub_tables_1_9 _ (List.mem_of_getElem? (i := 38) (by decide +kernel))) (by decide +kernel)
set_option maxRecDepth 20000 in
theorem t_2088 : (Jvm.Cond.code ({ cls := "MatchTreesModel", name := "safe", desc := "(II)I" } : Jvm.MethodName) prog_14_method_113_code (3 : Nat) (Option.some Jvm.ClassFile.FieldType.int)) ∈ WT := WT_of (sub_tables_1_9 _ (List.mem_of_getElem? (i := 39) rfl)) (by decide +kernel)
set_option maxRecDepth 20000 in
theorem t_2089 : (Jvm.Cond.methodLink "MatchTreesModel" (614 : Nat) ({ cls := "MatchTreesModel", name := "isSafe", desc := "(II)Z" } : Jvm.MethodName)) ∈ WT := WT_of (sub_tables_1_9 _ (List.mem_of_getElem? (i := 40) (by decide +kernel))) (by decide +kernel)
set_option maxRecDepth 20000 in
theorem t_2091 : (Jvm.Cond.instanceMethod ({ cls := "MatchTreesModel", name := "isSafe", desc := "(II)Z" } : Jvm.MethodName)) ∈ WT := WT_of (sub_tables_1_9 _ (List.mem_of_getElem? (i := 42) (by decide +kernel))) (by decide +kernel)
set_option maxRecDepth 20000 in
theorem t_2092 : (Jvm.Cond.code ({ cls := "MatchTreesModel", name := "isSafe", desc := "(II)Z" } : Jvm.MethodName) prog_14_method_112_code (8 : Nat) (Option.some Jvm.ClassFile.FieldType.boolean)) ∈ WT := WT_of (sub_tables_1_9 _ (List.mem_of_getElem? (i := 43) rfl)) (by decide +kernel)
set_option maxRecDepth 20000 in
theorem t_2093 : (Jvm.Cond.methodLink "MatchTreesModel" (608 : Nat) ({ cls := "MatchTreesModel", name := "swapped", desc := "(III)I" } : Jvm.MethodName)) ∈ WT := WT_of (sub_tables_1_9 _ (List.mem_of_getElem? (i := 44) (by decide +kernel))) (by decide +kernel)
set_option maxRecDepth 20000 in
theorem t_2094 : (Jvm.Cond.static ({ cls := "MatchTreesModel", name := "swapped", desc := "(III)I" } : Jvm.MethodName)) ∈ WT := WT_of (sub_tables_1_9 _ (List.mem_of_getElem? (i := 45) (by decide +kernel))) (by decide +kernel)
set_option maxRecDepth 20000 in
theorem t_2095 : (Jvm.Cond.code ({ cls := "MatchTreesModel", name := "swapped", desc := "(III)I" } : Jvm.MethodName) prog_14_method_110_code (3 : Nat) (Option.some Jvm.ClassFile.FieldType.int)) ∈ WT := WT_of (sub_tables_1_9 _ (List.mem_of_getElem? (i := 46) rfl)) (by decide +kernel)
set_option maxRecDepth 20000 in
theorem t_2096 : (Jvm.Cond.methodLink "MatchTreesModel" (611 : Nat) ({ cls := "MatchTreesModel", name := "moved", desc := "(III)I" } : Jvm.MethodName)) ∈ WT := WT_of (sub_tables_1_9 _ (List.mem_of_getElem? (i := 47) (by decide +kernel))) (by decide +kernel)
set_option maxRecDepth 20000 in
theorem t_2097 : (Jvm.Cond.static ({ cls := "MatchTreesModel", name := "moved", desc := "(III)I" } : Jvm.MethodName)) ∈ WT := WT_of (sub_tables_1_9 _ (List.mem_of_getElem? (i := 48) (by decide +kernel))) (by decide +kernel)
set_option maxRecDepth 20000 in
theorem t_2098 : (Jvm.Cond.code ({ cls := "MatchTreesModel", name := "moved", desc := "(III)I" } : Jvm.MethodName) prog_14_method_111_code (3 : Nat) (Option.some Jvm.ClassFile.FieldType.int)) ∈ WT := WT_of (sub_tables_1_9 _ (List.mem_of_getElem? (i := 49) rfl)) (by decide +kernel)
set_option maxRecDepth 20000 in
theorem t_2099 : (Jvm.Cond.methodLink "MatchTreesLaw" (98 : Nat) ({ cls := "MatchTreesModel", name := "best", desc := "(I)I" } : Jvm.MethodName)) ∈ WT := WT_of (sub_tables_1_9 _ (List.mem_of_getElem? (i := 50) (by decide +kernel))) (by decide +kernel)
set_option maxRecDepth 20000 in
theorem t_2100 : (Jvm.Cond.instanceMethod ({ cls := "MatchTreesModel", name := "best", desc := "(I)I" } : Jvm.MethodName)) ∈ WT := WT_of (sub_tables_1_9 _ (List.mem_of_getElem? (i := 51) (by decide +kernel))) (by decide +kernel)
set_option maxRecDepth 20000 in
theorem t_2101 : (Jvm.Cond.selects "MatchTreesModel" ({ cls := "MatchTreesModel", name := "best", desc := "(I)I" } : Jvm.MethodName) ({ cls := "MatchTreesModel", name := "best", desc := "(I)I" } : Jvm.MethodName)) ∈ WT := WT_of (sub_tables_1_9 _ (List.mem_of_getElem? (i := 52) (by decide +kernel))) (by decide +kernel)
set_option maxRecDepth 20000 in
theorem t_2102 : (Jvm.Cond.code ({ cls := "MatchTreesModel", name := "best", desc := "(I)I" } : Jvm.MethodName) prog_14_method_115_code (6 : Nat) (Option.some Jvm.ClassFile.FieldType.int)) ∈ WT := WT_of (sub_tables_1_9 _ (List.mem_of_getElem? (i := 53) rfl)) (by decide +kernel)
set_option maxRecDepth 20000 in
theorem t_2103 : (Jvm.Cond.methodLink "MatchTreesModel" (618 : Nat) ({ cls := "MatchTreesModel", name := "exchanges", desc := "(III)V" } : Jvm.MethodName)) ∈ WT := WT_of (sub_tables_1_9 _ (List.mem_of_getElem? (i := 54) (by decide +kernel))) (by decide +kernel)
set_option maxRecDepth 20000 in
theorem t_2105 : (Jvm.Cond.instanceMethod ({ cls := "MatchTreesModel", name := "exchanges", desc := "(III)V" } : Jvm.MethodName)) ∈ WT := WT_of (sub_tables_1_9 _ (List.mem_of_getElem? (i := 56) (by decide +kernel))) (by decide +kernel)
set_option maxRecDepth 20000 in
theorem t_2106 : (Jvm.Cond.code ({ cls := "MatchTreesModel", name := "exchanges", desc := "(III)V" } : Jvm.MethodName) prog_14_method_114_code (5 : Nat) (Option.none : Option Jvm.ClassFile.FieldType)) ∈ WT := WT_of (sub_tables_1_9 _ (List.mem_of_getElem? (i := 57) rfl)) (by decide +kernel)
set_option maxRecDepth 20000 in
theorem t_2107 : (Jvm.Cond.methodLink "MatchTreesLaw" (102 : Nat) ({ cls := "MatchTreesModel", name := "see", desc := "()I" } : Jvm.MethodName)) ∈ WT := WT_of (sub_tables_1_9 _ (List.mem_of_getElem? (i := 58) (by decide +kernel))) (by decide +kernel)
set_option maxRecDepth 20000 in
theorem t_2108 : (Jvm.Cond.instanceMethod ({ cls := "MatchTreesModel", name := "see", desc := "()I" } : Jvm.MethodName)) ∈ WT := WT_of (sub_tables_1_9 _ (List.mem_of_getElem? (i := 59) (by decide +kernel))) (by decide +kernel)
set_option maxRecDepth 20000 in
theorem t_2109 : (Jvm.Cond.selects "MatchTreesModel" ({ cls := "MatchTreesModel", name := "see", desc := "()I" } : Jvm.MethodName) ({ cls := "MatchTreesModel", name := "see", desc := "()I" } : Jvm.MethodName)) ∈ WT := WT_of (sub_tables_1_9 _ (List.mem_of_getElem? (i := 60) (by decide +kernel))) (by decide +kernel)
set_option maxRecDepth 20000 in
theorem t_2110 : (Jvm.Cond.code ({ cls := "MatchTreesModel", name := "see", desc := "()I" } : Jvm.MethodName) prog_14_method_116_code (4 : Nat) (Option.some Jvm.ClassFile.FieldType.int)) ∈ WT := WT_of (sub_tables_1_9 _ (List.mem_of_getElem? (i := 61) rfl)) (by decide +kernel)
set_option maxRecDepth 20000 in
theorem t_2111 : (Jvm.Cond.methodLink "MatchTreesLaw" (106 : Nat) ({ cls := "MatchTreesModel", name := "sets", desc := "(I)I" } : Jvm.MethodName)) ∈ WT := WT_of (sub_tables_1_9 _ (List.mem_of_getElem? (i := 62) (by decide +kernel))) (by decide +kernel)
set_option maxRecDepth 20000 in
theorem t_2112 : (Jvm.Cond.instanceMethod ({ cls := "MatchTreesModel", name := "sets", desc := "(I)I" } : Jvm.MethodName)) ∈ WT := WT_of (sub_tables_1_9 _ (List.mem_of_getElem? (i := 63) (by decide +kernel))) (by decide +kernel)
set_option maxRecDepth 20000 in
theorem t_2113 : (Jvm.Cond.selects "MatchTreesModel" ({ cls := "MatchTreesModel", name := "sets", desc := "(I)I" } : Jvm.MethodName) ({ cls := "MatchTreesModel", name := "sets", desc := "(I)I" } : Jvm.MethodName)) ∈ WT := WT_of (sub_tables_1_9 _ (List.mem_of_getElem? (i := 64) (by decide +kernel))) (by decide +kernel)
set_option maxRecDepth 20000 in
theorem t_2114 : (Jvm.Cond.code ({ cls := "MatchTreesModel", name := "sets", desc := "(I)I" } : Jvm.MethodName) prog_14_method_118_code (5 : Nat) (Option.some Jvm.ClassFile.FieldType.int)) ∈ WT := WT_of (sub_tables_1_9 _ (List.mem_of_getElem? (i := 65) rfl)) (by decide +kernel)
set_option maxRecDepth 20000 in
theorem t_2115 : (Jvm.Cond.methodLink "MatchTreesModel" (621 : Nat) ({ cls := "MatchTreesModel", name := "leaves", desc := "()I" } : Jvm.MethodName)) ∈ WT := WT_of (sub_tables_1_9 _ (List.mem_of_getElem? (i := 66) (by decide +kernel))) (by decide +kernel)
set_option maxRecDepth 20000 in
theorem t_2117 : (Jvm.Cond.instanceMethod ({ cls := "MatchTreesModel", name := "leaves", desc := "()I" } : Jvm.MethodName)) ∈ WT := WT_of (sub_tables_1_9 _ (List.mem_of_getElem? (i := 68) (by decide +kernel))) (by decide +kernel)
set_option maxRecDepth 20000 in
theorem t_2118 : (Jvm.Cond.code ({ cls := "MatchTreesModel", name := "leaves", desc := "()I" } : Jvm.MethodName) prog_14_method_117_code (5 : Nat) (Option.some Jvm.ClassFile.FieldType.int)) ∈ WT := WT_of (sub_tables_1_9 _ (List.mem_of_getElem? (i := 69) rfl)) (by decide +kernel)
set_option maxRecDepth 20000 in
theorem t_2119 : (Jvm.Cond.methodLink "MatchTreesLaw" (110 : Nat) ({ cls := "MatchTreesModel", name := "tells", desc := "(I)I" } : Jvm.MethodName)) ∈ WT := WT_of (sub_tables_1_9 _ (List.mem_of_getElem? (i := 70) (by decide +kernel))) (by decide +kernel)
set_option maxRecDepth 20000 in
theorem t_2120 : (Jvm.Cond.instanceMethod ({ cls := "MatchTreesModel", name := "tells", desc := "(I)I" } : Jvm.MethodName)) ∈ WT := WT_of (sub_tables_1_9 _ (List.mem_of_getElem? (i := 71) (by decide +kernel))) (by decide +kernel)
set_option maxRecDepth 20000 in
theorem t_2121 : (Jvm.Cond.selects "MatchTreesModel" ({ cls := "MatchTreesModel", name := "tells", desc := "(I)I" } : Jvm.MethodName) ({ cls := "MatchTreesModel", name := "tells", desc := "(I)I" } : Jvm.MethodName)) ∈ WT := WT_of (sub_tables_1_9 _ (List.mem_of_getElem? (i := 72) (by decide +kernel))) (by decide +kernel)
set_option maxRecDepth 20000 in
theorem t_2122 : (Jvm.Cond.code ({ cls := "MatchTreesModel", name := "tells", desc := "(I)I" } : Jvm.MethodName) prog_14_method_120_code (7 : Nat) (Option.some Jvm.ClassFile.FieldType.int)) ∈ WT := WT_of (sub_tables_1_9 _ (List.mem_of_getElem? (i := 73) rfl)) (by decide +kernel)
set_option maxRecDepth 20000 in
theorem t_2123 : (Jvm.Cond.constant "MatchTreesModel" (624 : Nat) (100000000 : Int32)) ∈ WT := WT_of (sub_tables_1_9 _ (List.mem_of_getElem? (i := 74) (by decide +kernel))) (by decide +kernel)
set_option maxRecDepth 20000 in
theorem t_2124 : (Jvm.Cond.methodLink "MatchTreesModel" (625 : Nat) ({ cls := "MatchTreesModel", name := "mostBy", desc := "(I)I" } : Jvm.MethodName)) ∈ WT := WT_of (sub_tables_1_9 _ (List.mem_of_getElem? (i := 75) (by decide +kernel))) (by decide +kernel)
set_option maxRecDepth 20000 in
theorem t_2126 : (Jvm.Cond.instanceMethod ({ cls := "MatchTreesModel", name := "mostBy", desc := "(I)I" } : Jvm.MethodName)) ∈ WT := WT_of (sub_tables_1_9 _ (List.mem_of_getElem? (i := 77) (by decide +kernel))) (by decide +kernel)
set_option maxRecDepth 20000 in
theorem t_2127 : (Jvm.Cond.code ({ cls := "MatchTreesModel", name := "mostBy", desc := "(I)I" } : Jvm.MethodName) prog_14_method_119_code (6 : Nat) (Option.some Jvm.ClassFile.FieldType.int)) ∈ WT := WT_of (sub_tables_1_9 _ (List.mem_of_getElem? (i := 78) rfl)) (by decide +kernel)
set_option maxRecDepth 20000 in
theorem t_2128 : (Jvm.Cond.methodLink "MatchTreesLaw" (114 : Nat) ({ cls := "MatchTreesModel", name := "run", desc := "(I)I" } : Jvm.MethodName)) ∈ WT := WT_of (sub_tables_1_9 _ (List.mem_of_getElem? (i := 79) (by decide +kernel))) (by decide +kernel)
set_option maxRecDepth 20000 in
theorem t_2129 : (Jvm.Cond.instanceMethod ({ cls := "MatchTreesModel", name := "run", desc := "(I)I" } : Jvm.MethodName)) ∈ WT := WT_of (sub_tables_1_9 _ (List.mem_of_getElem? (i := 80) (by decide +kernel))) (by decide +kernel)
set_option maxRecDepth 20000 in
theorem t_2130 : (Jvm.Cond.selects "MatchTreesModel" ({ cls := "MatchTreesModel", name := "run", desc := "(I)I" } : Jvm.MethodName) ({ cls := "MatchTreesModel", name := "run", desc := "(I)I" } : Jvm.MethodName)) ∈ WT := WT_of (sub_tables_1_9 _ (List.mem_of_getElem? (i := 81) (by decide +kernel))) (by decide +kernel)
set_option maxRecDepth 20000 in
theorem t_2131 : (Jvm.Cond.code ({ cls := "MatchTreesModel", name := "run", desc := "(I)I" } : Jvm.MethodName) prog_14_method_122_code (2 : Nat) (Option.some Jvm.ClassFile.FieldType.int)) ∈ WT := WT_of (sub_tables_1_9 _ (List.mem_of_getElem? (i := 82) rfl)) (by decide +kernel)
set_option maxRecDepth 20000 in
theorem t_2132 : (Jvm.Cond.methodLink "MatchTreesModel" (628 : Nat) ({ cls := "MatchTreesModel", name := "keeps", desc := "()V" } : Jvm.MethodName)) ∈ WT := WT_of (sub_tables_1_9 _ (List.mem_of_getElem? (i := 83) (by decide +kernel))) (by decide +kernel)
set_option maxRecDepth 20000 in
theorem t_2134 : (Jvm.Cond.instanceMethod ({ cls := "MatchTreesModel", name := "keeps", desc := "()V" } : Jvm.MethodName)) ∈ WT := WT_of (sub_tables_1_9 _ (List.mem_of_getElem? (i := 85) (by decide +kernel))) (by decide +kernel)
set_option maxRecDepth 20000 in
theorem t_2135 : (Jvm.Cond.code ({ cls := "MatchTreesModel", name := "keeps", desc := "()V" } : Jvm.MethodName) prog_14_method_50_code (1 : Nat) (Option.none : Option Jvm.ClassFile.FieldType)) ∈ WT := WT_of (sub_tables_1_9 _ (List.mem_of_getElem? (i := 86) rfl)) (by decide +kernel)
set_option maxRecDepth 20000 in
theorem t_2136 : (Jvm.Cond.methodLink "MatchTreesModel" (631 : Nat) ({ cls := "MatchTreesModel", name := "runs", desc := "(I)I" } : Jvm.MethodName)) ∈ WT := WT_of (sub_tables_1_9 _ (List.mem_of_getElem? (i := 87) (by decide +kernel))) (by decide +kernel)
set_option maxRecDepth 20000 in
theorem t_2138 : (Jvm.Cond.instanceMethod ({ cls := "MatchTreesModel", name := "runs", desc := "(I)I" } : Jvm.MethodName)) ∈ WT := WT_of (sub_tables_1_9 _ (List.mem_of_getElem? (i := 89) (by decide +kernel))) (by decide +kernel)
set_option maxRecDepth 20000 in
theorem t_2139 : (Jvm.Cond.code ({ cls := "MatchTreesModel", name := "runs", desc := "(I)I" } : Jvm.MethodName) prog_14_method_121_code (6 : Nat) (Option.some Jvm.ClassFile.FieldType.int)) ∈ WT := WT_of (sub_tables_1_9 _ (List.mem_of_getElem? (i := 90) rfl)) (by decide +kernel)
set_option maxRecDepth 20000 in
theorem t_2140 : (Jvm.Cond.methodLink "MatchTreesLaw" (118 : Nat) ({ cls := "MatchTreesModel", name := "chance", desc := "(I)I" } : Jvm.MethodName)) ∈ WT := WT_of (sub_tables_1_9 _ (List.mem_of_getElem? (i := 91) (by decide +kernel))) (by decide +kernel)
set_option maxRecDepth 20000 in
theorem t_2141 : (Jvm.Cond.instanceMethod ({ cls := "MatchTreesModel", name := "chance", desc := "(I)I" } : Jvm.MethodName)) ∈ WT := WT_of (sub_tables_1_9 _ (List.mem_of_getElem? (i := 92) (by decide +kernel))) (by decide +kernel)
set_option maxRecDepth 20000 in
theorem t_2142 : (Jvm.Cond.selects "MatchTreesModel" ({ cls := "MatchTreesModel", name := "chance", desc := "(I)I" } : Jvm.MethodName) ({ cls := "MatchTreesModel", name := "chance", desc := "(I)I" } : Jvm.MethodName)) ∈ WT := WT_of (sub_tables_1_9 _ (List.mem_of_getElem? (i := 93) (by decide +kernel))) (by decide +kernel)
set_option maxRecDepth 20000 in
theorem t_2143 : (Jvm.Cond.code ({ cls := "MatchTreesModel", name := "chance", desc := "(I)I" } : Jvm.MethodName) prog_14_method_124_code (4 : Nat) (Option.some Jvm.ClassFile.FieldType.int)) ∈ WT := WT_of (sub_tables_1_9 _ (List.mem_of_getElem? (i := 94) rfl)) (by decide +kernel)
set_option maxRecDepth 20000 in
theorem t_2144 : (Jvm.Cond.methodLink "MatchTreesModel" (642 : Nat) ({ cls := "MatchTreesModel", name := "draw", desc := "(I)I" } : Jvm.MethodName)) ∈ WT := WT_of (sub_tables_1_9 _ (List.mem_of_getElem? (i := 95) (by decide +kernel))) (by decide +kernel)
set_option maxRecDepth 20000 in
theorem t_2146 : (Jvm.Cond.instanceMethod ({ cls := "MatchTreesModel", name := "draw", desc := "(I)I" } : Jvm.MethodName)) ∈ WT := WT_of (sub_tables_1_9 _ (List.mem_of_getElem? (i := 97) (by decide +kernel))) (by decide +kernel)
set_option maxRecDepth 20000 in
theorem t_2147 : (Jvm.Cond.code ({ cls := "MatchTreesModel", name := "draw", desc := "(I)I" } : Jvm.MethodName) prog_14_method_123_code (2 : Nat) (Option.some Jvm.ClassFile.FieldType.int)) ∈ WT := WT_of (sub_tables_1_9 _ (List.mem_of_getElem? (i := 98) rfl)) (by decide +kernel)
set_option maxRecDepth 20000 in
theorem t_2148 : (Jvm.Cond.constantLong "MatchTreesModel" (634 : Nat) (1103515245 : Int64)) ∈ WT := WT_of (sub_tables_1_9 _ (List.mem_of_getElem? (i := 99) (by decide +kernel))) (by decide +kernel)
set_option maxRecDepth 20000 in
theorem t_2149 : (Jvm.Cond.constantLong "MatchTreesModel" (636 : Nat) (12345 : Int64)) ∈ WT := WT_of (sub_tables_1_9 _ (List.mem_of_getElem? (i := 100) (by decide +kernel))) (by decide +kernel)
set_option maxRecDepth 20000 in
theorem t_2150 : (Jvm.Cond.constantLong "MatchTreesModel" (638 : Nat) (2147483648 : Int64)) ∈ WT := WT_of (sub_tables_1_9 _ (List.mem_of_getElem? (i := 101) (by decide +kernel))) (by decide +kernel)
set_option maxRecDepth 20000 in
theorem t_2151 : (Jvm.Cond.constantLong "MatchTreesModel" (640 : Nat) (64 : Int64)) ∈ WT := WT_of (sub_tables_1_9 _ (List.mem_of_getElem? (i := 102) (by decide +kernel))) (by decide +kernel)
set_option maxRecDepth 20000 in
theorem t_2152 : (Jvm.Cond.methodLink "MatchTreesLaw" (123 : Nat) ({ cls := "MatchTreesModel", name := "swap", desc := "(II)Z" } : Jvm.MethodName)) ∈ WT := WT_of (sub_tables_1_9 _ (List.mem_of_getElem? (i := 103) (by decide +kernel))) (by decide +kernel)
set_option maxRecDepth 20000 in
theorem t_2153 : (Jvm.Cond.instanceMethod ({ cls := "MatchTreesModel", name := "swap", desc := "(II)Z" } : Jvm.MethodName)) ∈ WT := WT_of (sub_tables_1_9 _ (List.mem_of_getElem? (i := 104) (by decide +kernel))) (by decide +kernel)
set_option maxRecDepth 20000 in
theorem t_2154 : (Jvm.Cond.selects "MatchTreesModel" ({ cls := "MatchTreesModel", name := "swap", desc := "(II)Z" } : Jvm.MethodName) ({ cls := "MatchTreesModel", name := "swap", desc := "(II)Z" } : Jvm.MethodName)) ∈ WT := WT_of (sub_tables_1_9 _ (List.mem_of_getElem? (i := 105) (by decide +kernel))) (by decide +kernel)
set_option maxRecDepth 20000 in
theorem t_2155 : (Jvm.Cond.code ({ cls := "MatchTreesModel", name := "swap", desc := "(II)Z" } : Jvm.MethodName) prog_14_method_125_code (3 : Nat) (Option.some Jvm.ClassFile.FieldType.boolean)) ∈ WT := WT_of (sub_tables_1_9 _ (List.mem_of_getElem? (i := 106) rfl)) (by decide +kernel)
set_option maxRecDepth 20000 in
theorem t_2156 : (Jvm.Cond.methodLink "MatchTreesLaw" (127 : Nat) ({ cls := "MatchTreesModel", name := "drop", desc := "(I)Z" } : Jvm.MethodName)) ∈ WT := WT_of (sub_tables_1_9 _ (List.mem_of_getElem? (i := 107) (by decide +kernel))) (by decide +kernel)
set_option maxRecDepth 20000 in
theorem t_2157 : (Jvm.Cond.instanceMethod ({ cls := "MatchTreesModel", name := "drop", desc := "(I)Z" } : Jvm.MethodName)) ∈ WT := WT_of (sub_tables_1_9 _ (List.mem_of_getElem? (i := 108) (by decide +kernel))) (by decide +kernel)
set_option maxRecDepth 20000 in
theorem t_2158 : (Jvm.Cond.selects "MatchTreesModel" ({ cls := "MatchTreesModel", name := "drop", desc := "(I)Z" } : Jvm.MethodName) ({ cls := "MatchTreesModel", name := "drop", desc := "(I)Z" } : Jvm.MethodName)) ∈ WT := WT_of (sub_tables_1_9 _ (List.mem_of_getElem? (i := 109) (by decide +kernel))) (by decide +kernel)
set_option maxRecDepth 20000 in
theorem t_2159 : (Jvm.Cond.code ({ cls := "MatchTreesModel", name := "drop", desc := "(I)Z" } : Jvm.MethodName) prog_14_method_126_code (3 : Nat) (Option.some Jvm.ClassFile.FieldType.boolean)) ∈ WT := WT_of (sub_tables_1_9 _ (List.mem_of_getElem? (i := 110) rfl)) (by decide +kernel)
set_option maxRecDepth 20000 in
theorem t_2160 : (Jvm.Cond.methodLink "MatchTreesLaw" (131 : Nat) ({ cls := "MatchTreesModel", name := "turn", desc := "(I)I" } : Jvm.MethodName)) ∈ WT := WT_of (sub_tables_1_9 _ (List.mem_of_getElem? (i := 111) (by decide +kernel))) (by decide +kernel)
set_option maxRecDepth 20000 in
theorem t_2161 : (Jvm.Cond.instanceMethod ({ cls := "MatchTreesModel", name := "turn", desc := "(I)I" } : Jvm.MethodName)) ∈ WT := WT_of (sub_tables_1_9 _ (List.mem_of_getElem? (i := 112) (by decide +kernel))) (by decide +kernel)
set_option maxRecDepth 20000 in
theorem t_2162 : (Jvm.Cond.selects "MatchTreesModel" ({ cls := "MatchTreesModel", name := "turn", desc := "(I)I" } : Jvm.MethodName) ({ cls := "MatchTreesModel", name := "turn", desc := "(I)I" } : Jvm.MethodName)) ∈ WT := WT_of (sub_tables_1_9 _ (List.mem_of_getElem? (i := 113) (by decide +kernel))) (by decide +kernel)
set_option maxRecDepth 20000 in
theorem t_2163 : (Jvm.Cond.code ({ cls := "MatchTreesModel", name := "turn", desc := "(I)I" } : Jvm.MethodName) prog_14_method_127_code (2 : Nat) (Option.some Jvm.ClassFile.FieldType.int)) ∈ WT := WT_of (sub_tables_1_9 _ (List.mem_of_getElem? (i := 114) rfl)) (by decide +kernel)
set_option maxRecDepth 20000 in
theorem t_2164 : (Jvm.Cond.methodLink "MatchTreesLaw" (135 : Nat) ({ cls := "MatchTreesModel", name := "choose", desc := "(I)Z" } : Jvm.MethodName)) ∈ WT := WT_of (sub_tables_1_9 _ (List.mem_of_getElem? (i := 115) (by decide +kernel))) (by decide +kernel)
set_option maxRecDepth 20000 in
theorem t_2165 : (Jvm.Cond.instanceMethod ({ cls := "MatchTreesModel", name := "choose", desc := "(I)Z" } : Jvm.MethodName)) ∈ WT := WT_of (sub_tables_1_9 _ (List.mem_of_getElem? (i := 116) (by decide +kernel))) (by decide +kernel)
set_option maxRecDepth 20000 in
theorem t_2166 : (Jvm.Cond.selects "MatchTreesModel" ({ cls := "MatchTreesModel", name := "choose", desc := "(I)Z" } : Jvm.MethodName) ({ cls := "MatchTreesModel", name := "choose", desc := "(I)Z" } : Jvm.MethodName)) ∈ WT := WT_of (sub_tables_1_9 _ (List.mem_of_getElem? (i := 117) (by decide +kernel))) (by decide +kernel)
set_option maxRecDepth 20000 in
theorem t_2167 : (Jvm.Cond.code ({ cls := "MatchTreesModel", name := "choose", desc := "(I)Z" } : Jvm.MethodName) prog_14_method_128_code (2 : Nat) (Option.some Jvm.ClassFile.FieldType.boolean)) ∈ WT := WT_of (sub_tables_1_9 _ (List.mem_of_getElem? (i := 118) rfl)) (by decide +kernel)
set_option maxRecDepth 20000 in
theorem t_2168 : (Jvm.Cond.methodLink "MatchTreesLaw" (144 : Nat) ({ cls := "MatchTreesModel", name := "seed", desc := "(I)Z" } : Jvm.MethodName)) ∈ WT := WT_of (sub_tables_1_9 _ (List.mem_of_getElem? (i := 119) (by decide +kernel))) (by decide +kernel)
set_option maxRecDepth 20000 in
theorem t_2169 : (Jvm.Cond.instanceMethod ({ cls := "MatchTreesModel", name := "seed", desc := "(I)Z" } : Jvm.MethodName)) ∈ WT := WT_of (sub_tables_1_9 _ (List.mem_of_getElem? (i := 120) (by decide +kernel))) (by decide +kernel)
set_option maxRecDepth 20000 in
theorem t_2170 : (Jvm.Cond.selects "MatchTreesModel" ({ cls := "MatchTreesModel", name := "seed", desc := "(I)Z" } : Jvm.MethodName) ({ cls := "MatchTreesModel", name := "seed", desc := "(I)Z" } : Jvm.MethodName)) ∈ WT := WT_of (sub_tables_1_9 _ (List.mem_of_getElem? (i := 121) (by decide +kernel))) (by decide +kernel)
set_option maxRecDepth 20000 in
theorem t_2171 : (Jvm.Cond.code ({ cls := "MatchTreesModel", name := "seed", desc := "(I)Z" } : Jvm.MethodName) prog_14_method_129_code (2 : Nat) (Option.some Jvm.ClassFile.FieldType.boolean)) ∈ WT := WT_of (sub_tables_1_9 _ (List.mem_of_getElem? (i := 122) rfl)) (by decide +kernel)
set_option maxRecDepth 20000 in
theorem t_2172 : (Jvm.Cond.methodLink "MatchTreesLaw" (148 : Nat) ({ cls := "MatchTreesModel", name := "kept", desc := "(II)I" } : Jvm.MethodName)) ∈ WT := WT_of (sub_tables_1_9 _ (List.mem_of_getElem? (i := 123) (by decide +kernel))) (by decide +kernel)
set_option maxRecDepth 20000 in
theorem t_2173 : (Jvm.Cond.instanceMethod ({ cls := "MatchTreesModel", name := "kept", desc := "(II)I" } : Jvm.MethodName)) ∈ WT := WT_of (sub_tables_1_9 _ (List.mem_of_getElem? (i := 124) (by decide +kernel))) (by decide +kernel)
set_option maxRecDepth 20000 in
theorem t_2174 : (Jvm.Cond.selects "MatchTreesModel" ({ cls := "MatchTreesModel", name := "kept", desc := "(II)I" } : Jvm.MethodName) ({ cls := "MatchTreesModel", name := "kept", desc := "(II)I" } : Jvm.MethodName)) ∈ WT := WT_of (sub_tables_1_9 _ (List.mem_of_getElem? (i := 125) (by decide +kernel))) (by decide +kernel)
set_option maxRecDepth 20000 in
theorem t_2175 : (Jvm.Cond.code ({ cls := "MatchTreesModel", name := "kept", desc := "(II)I" } : Jvm.MethodName) prog_14_method_130_code (3 : Nat) (Option.some Jvm.ClassFile.FieldType.int)) ∈ WT := WT_of (sub_tables_1_9 _ (List.mem_of_getElem? (i := 126) rfl)) (by decide +kernel)
set_option maxRecDepth 20000 in
theorem t_2176 : (Jvm.Cond.methodLink "MatchTreesLaw" (152 : Nat) ({ cls := "MatchTreesModel", name := "image", desc := "()I" } : Jvm.MethodName)) ∈ WT := WT_of (sub_tables_1_9 _ (List.mem_of_getElem? (i := 127) (by decide +kernel))) (by decide +kernel)
set_option maxRecDepth 20000 in
theorem t_2177 : (Jvm.Cond.instanceMethod ({ cls := "MatchTreesModel", name := "image", desc := "()I" } : Jvm.MethodName)) ∈ WT := WT_of (sub_tables_1_9 _ (List.mem_of_getElem? (i := 128) (by decide +kernel))) (by decide +kernel)
set_option maxRecDepth 20000 in
theorem t_2178 : (Jvm.Cond.selects "MatchTreesModel" ({ cls := "MatchTreesModel", name := "image", desc := "()I" } : Jvm.MethodName) ({ cls := "MatchTreesModel", name := "image", desc := "()I" } : Jvm.MethodName)) ∈ WT := WT_of (sub_tables_1_9 _ (List.mem_of_getElem? (i := 129) (by decide +kernel))) (by decide +kernel)
set_option maxRecDepth 20000 in
theorem t_2179 : (Jvm.Cond.code ({ cls := "MatchTreesModel", name := "image", desc := "()I" } : Jvm.MethodName) prog_14_method_131_code (3 : Nat) (Option.some Jvm.ClassFile.FieldType.int)) ∈ WT := WT_of (sub_tables_1_9 _ (List.mem_of_getElem? (i := 130) rfl)) (by decide +kernel)
set_option maxRecDepth 20000 in
theorem t_2180 : (Jvm.Cond.methodLink "MatchTreesLaw" (156 : Nat) ({ cls := "MatchTreesModel", name := "on", desc := "()Z" } : Jvm.MethodName)) ∈ WT := WT_of (sub_tables_1_9 _ (List.mem_of_getElem? (i := 131) (by decide +kernel))) (by decide +kernel)
set_option maxRecDepth 20000 in
theorem t_2181 : (Jvm.Cond.instanceMethod ({ cls := "MatchTreesModel", name := "on", desc := "()Z" } : Jvm.MethodName)) ∈ WT := WT_of (sub_tables_1_9 _ (List.mem_of_getElem? (i := 132) (by decide +kernel))) (by decide +kernel)
set_option maxRecDepth 20000 in
theorem t_2182 : (Jvm.Cond.selects "MatchTreesModel" ({ cls := "MatchTreesModel", name := "on", desc := "()Z" } : Jvm.MethodName) ({ cls := "MatchTreesModel", name := "on", desc := "()Z" } : Jvm.MethodName)) ∈ WT := WT_of (sub_tables_1_9 _ (List.mem_of_getElem? (i := 133) (by decide +kernel))) (by decide +kernel)
set_option maxRecDepth 20000 in
theorem t_2183 : (Jvm.Cond.code ({ cls := "MatchTreesModel", name := "on", desc := "()Z" } : Jvm.MethodName) prog_14_method_133_code (2 : Nat) (Option.some Jvm.ClassFile.FieldType.boolean)) ∈ WT := WT_of (sub_tables_1_9 _ (List.mem_of_getElem? (i := 134) rfl)) (by decide +kernel)
set_option maxRecDepth 20000 in
theorem t_2184 : (Jvm.Cond.methodLink "MatchTreesModel" (645 : Nat) ({ cls := "MatchTreesModel", name := "comesOn", desc := "(I)Z" } : Jvm.MethodName)) ∈ WT := WT_of (sub_tables_1_9 _ (List.mem_of_getElem? (i := 135) (by decide +kernel))) (by decide +kernel)
set_option maxRecDepth 20000 in
theorem t_2186 : (Jvm.Cond.instanceMethod ({ cls := "MatchTreesModel", name := "comesOn", desc := "(I)Z" } : Jvm.MethodName)) ∈ WT := WT_of (sub_tables_1_9 _ (List.mem_of_getElem? (i := 137) (by decide +kernel))) (by decide +kernel)
set_option maxRecDepth 20000 in
theorem t_2187 : (Jvm.Cond.code ({ cls := "MatchTreesModel", name := "comesOn", desc := "(I)Z" } : Jvm.MethodName) prog_14_method_132_code (6 : Nat) (Option.some Jvm.ClassFile.FieldType.boolean)) ∈ WT := WT_of (sub_tables_1_9 _ (List.mem_of_getElem? (i := 138) rfl)) (by decide +kernel)
set_option maxRecDepth 20000 in
theorem t_2188 : (Jvm.Cond.fieldLink "java/lang/String" (9 : Nat) "java/lang/String" "value" "[B") ∈ WT := WT_of (sub_tables_1_9 _ (List.mem_of_getElem? (i := 139) (by decide +kernel))) (by decide +kernel)
set_option maxRecDepth 20000 in
theorem t_2189 : (Jvm.Cond.fieldLink "java/lang/String" (15 : Nat) "java/lang/String" "coder" "B") ∈ WT := WT_of (sub_tables_1_9 _ (List.mem_of_getElem? (i := 140) (by decide +kernel))) (by decide +kernel)
end
section
theorem s_0 : Cond.selects "MatchTrees" ⟨"MatchTrees", "refuse", "(I)Z"⟩ ⟨"MatchTrees", "refuse", "(I)Z"⟩ ∈ WT := WT_of (List.mem_of_getElem? (i := 0) rfl) (by decide +kernel)
theorem s_1 : Cond.selects "MatchTrees$Reader" ⟨"MatchTrees$Reader", "begin", "(LMatchTrees$Bytes;)V"⟩ ⟨"MatchTrees$Reader", "begin", "(LMatchTrees$Bytes;)V"⟩ ∈ WT := WT_of (List.mem_of_getElem? (i := 1) rfl) (by decide +kernel)
theorem s_2 : Cond.selects "MatchTrees$Scanner" ⟨"MatchTrees$Scanner", "stepWord", "()V"⟩ ⟨"MatchTrees$Scanner", "stepWord", "()V"⟩ ∈ WT := WT_of (List.mem_of_getElem? (i := 2) rfl) (by decide +kernel)
theorem s_3 : Cond.selects "MatchTrees$Scanner" ⟨"MatchTrees$Scanner", "stepNumber", "()V"⟩ ⟨"MatchTrees$Scanner", "stepNumber", "()V"⟩ ∈ WT := WT_of (List.mem_of_getElem? (i := 3) rfl) (by decide +kernel)
theorem s_4 : Cond.selects "MatchTrees$Reader" ⟨"MatchTrees$Reader", "readKind", "()Z"⟩ ⟨"MatchTrees$Reader", "readKind", "()Z"⟩ ∈ WT := WT_of (List.mem_of_getElem? (i := 4) rfl) (by decide +kernel)
theorem s_5 : Cond.selects "MatchTrees$Reader" ⟨"MatchTrees$Reader", "failHere", "()Z"⟩ ⟨"MatchTrees$Reader", "failHere", "()Z"⟩ ∈ WT := WT_of (List.mem_of_getElem? (i := 5) rfl) (by decide +kernel)
theorem s_6 : Cond.selects "MatchTrees$Reader" ⟨"MatchTrees$Reader", "fail", "(II)Z"⟩ ⟨"MatchTrees$Reader", "fail", "(II)Z"⟩ ∈ WT := WT_of (List.mem_of_getElem? (i := 6) rfl) (by decide +kernel)
theorem s_7 : Cond.selects "MatchTrees$Reader" ⟨"MatchTrees$Reader", "isNewName", "()Z"⟩ ⟨"MatchTrees$Reader", "isNewName", "()Z"⟩ ∈ WT := WT_of (List.mem_of_getElem? (i := 7) rfl) (by decide +kernel)
theorem s_8 : Cond.selects "MatchTrees$Reader" ⟨"MatchTrees$Reader", "readCon", "()Z"⟩ ⟨"MatchTrees$Reader", "readCon", "()Z"⟩ ∈ WT := WT_of (List.mem_of_getElem? (i := 8) rfl) (by decide +kernel)
theorem s_9 : Cond.selects "MatchTrees$Reader" ⟨"MatchTrees$Reader", "isKindWord", "()Z"⟩ ⟨"MatchTrees$Reader", "isKindWord", "()Z"⟩ ∈ WT := WT_of (List.mem_of_getElem? (i := 9) rfl) (by decide +kernel)
theorem s_10 : Cond.selects "MatchTrees$Reader" ⟨"MatchTrees$Reader", "isKindHere", "(I)Z"⟩ ⟨"MatchTrees$Reader", "isKindHere", "(I)Z"⟩ ∈ WT := WT_of (List.mem_of_getElem? (i := 10) rfl) (by decide +kernel)
theorem s_11 : Cond.selects "MatchTrees$Reader" ⟨"MatchTrees$Reader", "kindHere", "()I"⟩ ⟨"MatchTrees$Reader", "kindHere", "()I"⟩ ∈ WT := WT_of (List.mem_of_getElem? (i := 11) rfl) (by decide +kernel)
theorem s_12 : Cond.selects "MatchTrees$Reader" ⟨"MatchTrees$Reader", "readColumns", "()Z"⟩ ⟨"MatchTrees$Reader", "readColumns", "()Z"⟩ ∈ WT := WT_of (List.mem_of_getElem? (i := 12) rfl) (by decide +kernel)
theorem s_13 : Cond.selects "MatchTrees$Reader" ⟨"MatchTrees$Reader", "readArm", "()Z"⟩ ⟨"MatchTrees$Reader", "readArm", "()Z"⟩ ∈ WT := WT_of (List.mem_of_getElem? (i := 13) rfl) (by decide +kernel)
theorem s_14 : Cond.selects "MatchTrees$Reader" ⟨"MatchTrees$Reader", "readSign", "(I)Z"⟩ ⟨"MatchTrees$Reader", "readSign", "(I)Z"⟩ ∈ WT := WT_of (List.mem_of_getElem? (i := 14) rfl) (by decide +kernel)
theorem s_15 : Cond.selects "MatchTrees$Reader" ⟨"MatchTrees$Reader", "readRange", "(I)Z"⟩ ⟨"MatchTrees$Reader", "readRange", "(I)Z"⟩ ∈ WT := WT_of (List.mem_of_getElem? (i := 15) rfl) (by decide +kernel)
theorem s_16 : Cond.selects "MatchTrees$Reader" ⟨"MatchTrees$Reader", "readNumber", "(II)I"⟩ ⟨"MatchTrees$Reader", "readNumber", "(II)I"⟩ ∈ WT := WT_of (List.mem_of_getElem? (i := 16) rfl) (by decide +kernel)
theorem s_17 : Cond.selects "MatchTrees$Reader" ⟨"MatchTrees$Reader", "readConName", "(I)I"⟩ ⟨"MatchTrees$Reader", "readConName", "(I)I"⟩ ∈ WT := WT_of (List.mem_of_getElem? (i := 17) rfl) (by decide +kernel)
theorem s_18 : Cond.selects "MatchTrees$Reader" ⟨"MatchTrees$Reader", "fillCase", "(III)V"⟩ ⟨"MatchTrees$Reader", "fillCase", "(III)V"⟩ ∈ WT := WT_of (List.mem_of_getElem? (i := 18) rfl) (by decide +kernel)
theorem s_19 : Cond.selects "MatchTrees$Reader" ⟨"MatchTrees$Reader", "readRule", "()Z"⟩ ⟨"MatchTrees$Reader", "readRule", "()Z"⟩ ∈ WT := WT_of (List.mem_of_getElem? (i := 19) rfl) (by decide +kernel)
theorem s_20 : Cond.selects "MatchTrees$Reader" ⟨"MatchTrees$Reader", "readBudget", "()Z"⟩ ⟨"MatchTrees$Reader", "readBudget", "()Z"⟩ ∈ WT := WT_of (List.mem_of_getElem? (i := 20) rfl) (by decide +kernel)
theorem s_21 : Cond.selects "MatchTrees" ⟨"MatchTrees", "startMatch", "()V"⟩ ⟨"MatchTrees", "startMatch", "()V"⟩ ∈ WT := WT_of (List.mem_of_getElem? (i := 21) rfl) (by decide +kernel)
theorem s_22 : Cond.selects "MatchTrees" ⟨"MatchTrees", "matched", "()Z"⟩ ⟨"MatchTrees", "matched", "()Z"⟩ ∈ WT := WT_of (List.mem_of_getElem? (i := 22) rfl) (by decide +kernel)
theorem s_23 : Cond.selects "MatchTrees" ⟨"MatchTrees", "isUseful", "(I)Z"⟩ ⟨"MatchTrees", "isUseful", "(I)Z"⟩ ∈ WT := WT_of (List.mem_of_getElem? (i := 23) rfl) (by decide +kernel)
theorem s_24 : Cond.selects "MatchTrees" ⟨"MatchTrees", "rowsFitting", "(I)I"⟩ ⟨"MatchTrees", "rowsFitting", "(I)I"⟩ ∈ WT := WT_of (List.mem_of_getElem? (i := 24) rfl) (by decide +kernel)
theorem s_25 : Cond.selects "MatchTrees" ⟨"MatchTrees", "rowsTaken", "(I)I"⟩ ⟨"MatchTrees", "rowsTaken", "(I)I"⟩ ∈ WT := WT_of (List.mem_of_getElem? (i := 25) rfl) (by decide +kernel)
theorem s_26 : Cond.selects "MatchTrees" ⟨"MatchTrees", "countMissing", "(I)I"⟩ ⟨"MatchTrees", "countMissing", "(I)I"⟩ ∈ WT := WT_of (List.mem_of_getElem? (i := 26) rfl) (by decide +kernel)
theorem s_27 : Cond.selects "MatchTrees" ⟨"MatchTrees", "findMissing", "(II)I"⟩ ⟨"MatchTrees", "findMissing", "(II)I"⟩ ∈ WT := WT_of (List.mem_of_getElem? (i := 27) rfl) (by decide +kernel)
theorem s_28 : Cond.selects "MatchTrees$Trees" ⟨"MatchTrees$Trees", "allColumns", "()I"⟩ ⟨"MatchTrees$Trees", "allColumns", "()I"⟩ ∈ WT := WT_of (List.mem_of_getElem? (i := 28) rfl) (by decide +kernel)
theorem s_29 : Cond.selects "MatchTrees$Trees" ⟨"MatchTrees$Trees", "columnAsked", "(II)I"⟩ ⟨"MatchTrees$Trees", "columnAsked", "(II)I"⟩ ∈ WT := WT_of (List.mem_of_getElem? (i := 29) rfl) (by decide +kernel)
theorem s_30 : Cond.selects "MatchTrees$Trees" ⟨"MatchTrees$Trees", "costOf", "(II)I"⟩ ⟨"MatchTrees$Trees", "costOf", "(II)I"⟩ ∈ WT := WT_of (List.mem_of_getElem? (i := 30) rfl) (by decide +kernel)
theorem s_31 : Cond.selects "MatchTrees$Trees" ⟨"MatchTrees$Trees", "notFullInRow", "(II)I"⟩ ⟨"MatchTrees$Trees", "notFullInRow", "(II)I"⟩ ∈ WT := WT_of (List.mem_of_getElem? (i := 31) rfl) (by decide +kernel)
theorem s_32 : Cond.selects "MatchTrees$Trees" ⟨"MatchTrees$Trees", "countBranches", "(II)I"⟩ ⟨"MatchTrees$Trees", "countBranches", "(II)I"⟩ ∈ WT := WT_of (List.mem_of_getElem? (i := 32) rfl) (by decide +kernel)
theorem s_33 : Cond.selects "MatchTrees$Trees" ⟨"MatchTrees$Trees", "mostArms", "(II)I"⟩ ⟨"MatchTrees$Trees", "mostArms", "(II)I"⟩ ∈ WT := WT_of (List.mem_of_getElem? (i := 33) rfl) (by decide +kernel)
theorem s_34 : Cond.selects "MatchTrees$Trees" ⟨"MatchTrees$Trees", "rowsOf", "(I)I"⟩ ⟨"MatchTrees$Trees", "rowsOf", "(I)I"⟩ ∈ WT := WT_of (List.mem_of_getElem? (i := 34) rfl) (by decide +kernel)
theorem s_35 : Cond.selects "MatchTrees$Trees" ⟨"MatchTrees$Trees", "split", "(III)LMatchTrees$Groups;"⟩ ⟨"MatchTrees$Trees", "split", "(III)LMatchTrees$Groups;"⟩ ∈ WT := WT_of (List.mem_of_getElem? (i := 35) rfl) (by decide +kernel)
theorem s_36 : Cond.selects "MatchTrees$Trees" ⟨"MatchTrees$Trees", "openScope", "()V"⟩ ⟨"MatchTrees$Trees", "openScope", "()V"⟩ ∈ WT := WT_of (List.mem_of_getElem? (i := 36) rfl) (by decide +kernel)
theorem s_37 : Cond.selects "MatchTrees$Trees" ⟨"MatchTrees$Trees", "shutScope", "(I)V"⟩ ⟨"MatchTrees$Trees", "shutScope", "(I)V"⟩ ∈ WT := WT_of (List.mem_of_getElem? (i := 37) rfl) (by decide +kernel)
theorem s_38 : Cond.selects "MatchTrees" ⟨"MatchTrees", "trialTakesAlike", "()Z"⟩ ⟨"MatchTrees", "trialTakesAlike", "()Z"⟩ ∈ WT := WT_of (List.mem_of_getElem? (i := 38) rfl) (by decide +kernel)
theorem s_39 : Cond.selects "MatchTrees" ⟨"MatchTrees", "allTests", "(LMatchTrees$Order;)I"⟩ ⟨"MatchTrees", "allTests", "(LMatchTrees$Order;)I"⟩ ∈ WT := WT_of (List.mem_of_getElem? (i := 39) rfl) (by decide +kernel)
theorem s_40 : Cond.selects "MatchTrees$Seen" ⟨"MatchTrees$Seen", "agrees", "(LMatchTrees$Table;LMatchTrees$Order;I)Z"⟩ ⟨"MatchTrees$Seen", "agrees", "(LMatchTrees$Table;LMatchTrees$Order;I)Z"⟩ ∈ WT := WT_of (List.mem_of_getElem? (i := 40) rfl) (by decide +kernel)
theorem s_41 : Cond.selects "MatchTrees" ⟨"MatchTrees", "remember", "()V"⟩ ⟨"MatchTrees", "remember", "()V"⟩ ∈ WT := WT_of (List.mem_of_getElem? (i := 41) rfl) (by decide +kernel)
theorem s_42 : Cond.selects "MatchTrees" ⟨"MatchTrees", "runRow", "(I)I"⟩ ⟨"MatchTrees", "runRow", "(I)I"⟩ ∈ WT := WT_of (List.mem_of_getElem? (i := 42) rfl) (by decide +kernel)
theorem s_43 : Cond.selects "MatchTrees" ⟨"MatchTrees", "draw", "(I)I"⟩ ⟨"MatchTrees", "draw", "(I)I"⟩ ∈ WT := WT_of (List.mem_of_getElem? (i := 43) rfl) (by decide +kernel)
theorem s_44 : Cond.selects "MatchTrees" ⟨"MatchTrees", "isImage", "()Z"⟩ ⟨"MatchTrees", "isImage", "()Z"⟩ ∈ WT := WT_of (List.mem_of_getElem? (i := 44) rfl) (by decide +kernel)
theorem s_45 : Cond.selects "MatchTrees" ⟨"MatchTrees", "takeImage", "()V"⟩ ⟨"MatchTrees", "takeImage", "()V"⟩ ∈ WT := WT_of (List.mem_of_getElem? (i := 45) rfl) (by decide +kernel)
theorem s_46 : Cond.selects "MatchTreesModel" ⟨"MatchTreesModel", "begin", "()V"⟩ ⟨"MatchTreesModel", "begin", "()V"⟩ ∈ WT := WT_of (List.mem_of_getElem? (i := 46) rfl) (by decide +kernel)
theorem s_47 : Cond.selects "MatchTreesModel" ⟨"MatchTreesModel", "refuses", "(I)I"⟩ ⟨"MatchTreesModel", "refuses", "(I)I"⟩ ∈ WT := WT_of (List.mem_of_getElem? (i := 47) rfl) (by decide +kernel)
theorem s_48 : Cond.selects "MatchTreesModel" ⟨"MatchTreesModel", "put", "(I)V"⟩ ⟨"MatchTreesModel", "put", "(I)V"⟩ ∈ WT := WT_of (List.mem_of_getElem? (i := 48) rfl) (by decide +kernel)
theorem s_49 : Cond.selects "MatchTreesModel" ⟨"MatchTreesModel", "ahead", "()V"⟩ ⟨"MatchTreesModel", "ahead", "()V"⟩ ∈ WT := WT_of (List.mem_of_getElem? (i := 49) rfl) (by decide +kernel)
theorem s_50 : Cond.selects "MatchTreesModel" ⟨"MatchTreesModel", "statement", "()V"⟩ ⟨"MatchTreesModel", "statement", "()V"⟩ ∈ WT := WT_of (List.mem_of_getElem? (i := 50) rfl) (by decide +kernel)
theorem s_51 : Cond.selects "MatchTreesModel" ⟨"MatchTreesModel", "lex", "()V"⟩ ⟨"MatchTreesModel", "lex", "()V"⟩ ∈ WT := WT_of (List.mem_of_getElem? (i := 51) rfl) (by decide +kernel)
theorem s_52 : Cond.selects "MatchTreesModel" ⟨"MatchTreesModel", "blame", "(II)V"⟩ ⟨"MatchTreesModel", "blame", "(II)V"⟩ ∈ WT := WT_of (List.mem_of_getElem? (i := 52) rfl) (by decide +kernel)
theorem s_53 : Cond.selects "MatchTreesModel" ⟨"MatchTreesModel", "isWord", "(J)Z"⟩ ⟨"MatchTreesModel", "isWord", "(J)Z"⟩ ∈ WT := WT_of (List.mem_of_getElem? (i := 53) rfl) (by decide +kernel)
theorem s_54 : Cond.selects "MatchTreesModel" ⟨"MatchTreesModel", "kindIs", "()V"⟩ ⟨"MatchTreesModel", "kindIs", "()V"⟩ ∈ WT := WT_of (List.mem_of_getElem? (i := 54) rfl) (by decide +kernel)
theorem s_55 : Cond.selects "MatchTreesModel" ⟨"MatchTreesModel", "isCounted", "(Z)Z"⟩ ⟨"MatchTreesModel", "isCounted", "(Z)Z"⟩ ∈ WT := WT_of (List.mem_of_getElem? (i := 55) rfl) (by decide +kernel)
theorem s_56 : Cond.selects "MatchTreesModel" ⟨"MatchTreesModel", "fresh", "()J"⟩ ⟨"MatchTreesModel", "fresh", "()J"⟩ ∈ WT := WT_of (List.mem_of_getElem? (i := 56) rfl) (by decide +kernel)
theorem s_57 : Cond.selects "MatchTreesModel" ⟨"MatchTreesModel", "isOwn", "(J)Z"⟩ ⟨"MatchTreesModel", "isOwn", "(J)Z"⟩ ∈ WT := WT_of (List.mem_of_getElem? (i := 57) rfl) (by decide +kernel)
theorem s_58 : Cond.selects "MatchTreesModel" ⟨"MatchTreesModel", "kindNamed", "(J)I"⟩ ⟨"MatchTreesModel", "kindNamed", "(J)I"⟩ ∈ WT := WT_of (List.mem_of_getElem? (i := 58) rfl) (by decide +kernel)
theorem s_59 : Cond.selects "MatchTreesModel" ⟨"MatchTreesModel", "conNamed", "(IJ)I"⟩ ⟨"MatchTreesModel", "conNamed", "(IJ)I"⟩ ∈ WT := WT_of (List.mem_of_getElem? (i := 59) rfl) (by decide +kernel)
theorem s_60 : Cond.selects "MatchTreesModel" ⟨"MatchTreesModel", "conIs", "()V"⟩ ⟨"MatchTreesModel", "conIs", "()V"⟩ ∈ WT := WT_of (List.mem_of_getElem? (i := 60) rfl) (by decide +kernel)
theorem s_61 : Cond.selects "MatchTreesModel" ⟨"MatchTreesModel", "isKindHere", "()Z"⟩ ⟨"MatchTreesModel", "isKindHere", "()Z"⟩ ∈ WT := WT_of (List.mem_of_getElem? (i := 61) rfl) (by decide +kernel)
theorem s_62 : Cond.selects "MatchTreesModel" ⟨"MatchTreesModel", "known", "(I)I"⟩ ⟨"MatchTreesModel", "known", "(I)I"⟩ ∈ WT := WT_of (List.mem_of_getElem? (i := 62) rfl) (by decide +kernel)
theorem s_63 : Cond.selects "MatchTreesModel" ⟨"MatchTreesModel", "valuesOf", "(II)I"⟩ ⟨"MatchTreesModel", "valuesOf", "(II)I"⟩ ∈ WT := WT_of (List.mem_of_getElem? (i := 63) rfl) (by decide +kernel)
theorem s_64 : Cond.selects "MatchTreesModel" ⟨"MatchTreesModel", "matchIs", "()V"⟩ ⟨"MatchTreesModel", "matchIs", "()V"⟩ ∈ WT := WT_of (List.mem_of_getElem? (i := 64) rfl) (by decide +kernel)
theorem s_65 : Cond.selects "MatchTreesModel" ⟨"MatchTreesModel", "armIs", "()V"⟩ ⟨"MatchTreesModel", "armIs", "()V"⟩ ∈ WT := WT_of (List.mem_of_getElem? (i := 65) rfl) (by decide +kernel)
theorem s_66 : Cond.selects "MatchTreesModel" ⟨"MatchTreesModel", "must", "(I)V"⟩ ⟨"MatchTreesModel", "must", "(I)V"⟩ ∈ WT := WT_of (List.mem_of_getElem? (i := 66) rfl) (by decide +kernel)
theorem s_67 : Cond.selects "MatchTreesModel" ⟨"MatchTreesModel", "isSign", "(I)Z"⟩ ⟨"MatchTreesModel", "isSign", "(I)Z"⟩ ∈ WT := WT_of (List.mem_of_getElem? (i := 67) rfl) (by decide +kernel)
theorem s_68 : Cond.selects "MatchTreesModel" ⟨"MatchTreesModel", "pattern", "(I)V"⟩ ⟨"MatchTreesModel", "pattern", "(I)V"⟩ ∈ WT := WT_of (List.mem_of_getElem? (i := 68) rfl) (by decide +kernel)
theorem s_69 : Cond.selects "MatchTreesModel" ⟨"MatchTreesModel", "opensPattern", "(I)V"⟩ ⟨"MatchTreesModel", "opensPattern", "(I)V"⟩ ∈ WT := WT_of (List.mem_of_getElem? (i := 69) rfl) (by decide +kernel)
theorem s_70 : Cond.selects "MatchTreesModel" ⟨"MatchTreesModel", "alternative", "()Z"⟩ ⟨"MatchTreesModel", "alternative", "()Z"⟩ ∈ WT := WT_of (List.mem_of_getElem? (i := 70) rfl) (by decide +kernel)
theorem s_71 : Cond.selects "MatchTreesModel" ⟨"MatchTreesModel", "emits", "(III)V"⟩ ⟨"MatchTreesModel", "emits", "(III)V"⟩ ∈ WT := WT_of (List.mem_of_getElem? (i := 71) rfl) (by decide +kernel)
theorem s_72 : Cond.selects "MatchTreesModel" ⟨"MatchTreesModel", "range", "()V"⟩ ⟨"MatchTreesModel", "range", "()V"⟩ ∈ WT := WT_of (List.mem_of_getElem? (i := 72) rfl) (by decide +kernel)
theorem s_73 : Cond.selects "MatchTreesModel" ⟨"MatchTreesModel", "number", "(II)I"⟩ ⟨"MatchTreesModel", "number", "(II)I"⟩ ∈ WT := WT_of (List.mem_of_getElem? (i := 73) rfl) (by decide +kernel)
theorem s_74 : Cond.selects "MatchTreesModel" ⟨"MatchTreesModel", "fieldBegins", "(II)V"⟩ ⟨"MatchTreesModel", "fieldBegins", "(II)V"⟩ ∈ WT := WT_of (List.mem_of_getElem? (i := 74) rfl) (by decide +kernel)
theorem s_75 : Cond.selects "MatchTreesModel" ⟨"MatchTreesModel", "goesOn", "(I)Z"⟩ ⟨"MatchTreesModel", "goesOn", "(I)Z"⟩ ∈ WT := WT_of (List.mem_of_getElem? (i := 75) rfl) (by decide +kernel)
theorem s_76 : Cond.selects "MatchTreesModel" ⟨"MatchTreesModel", "ruleIs", "()V"⟩ ⟨"MatchTreesModel", "ruleIs", "()V"⟩ ∈ WT := WT_of (List.mem_of_getElem? (i := 76) rfl) (by decide +kernel)
theorem s_77 : Cond.selects "MatchTreesModel" ⟨"MatchTreesModel", "budgetIs", "()V"⟩ ⟨"MatchTreesModel", "budgetIs", "()V"⟩ ∈ WT := WT_of (List.mem_of_getElem? (i := 77) rfl) (by decide +kernel)
theorem s_78 : Cond.selects "MatchTreesModel" ⟨"MatchTreesModel", "finishes", "(I)V"⟩ ⟨"MatchTreesModel", "finishes", "(I)V"⟩ ∈ WT := WT_of (List.mem_of_getElem? (i := 78) rfl) (by decide +kernel)
theorem s_79 : Cond.selects "MatchTreesModel" ⟨"MatchTreesModel", "lays", "()V"⟩ ⟨"MatchTreesModel", "lays", "()V"⟩ ∈ WT := WT_of (List.mem_of_getElem? (i := 79) rfl) (by decide +kernel)
theorem s_80 : Cond.selects "MatchTreesModel" ⟨"MatchTreesModel", "columns", "()I"⟩ ⟨"MatchTreesModel", "columns", "()I"⟩ ∈ WT := WT_of (List.mem_of_getElem? (i := 80) rfl) (by decide +kernel)
theorem s_81 : Cond.selects "MatchTreesModel" ⟨"MatchTreesModel", "columnValues", "(I)I"⟩ ⟨"MatchTreesModel", "columnValues", "(I)I"⟩ ∈ WT := WT_of (List.mem_of_getElem? (i := 81) rfl) (by decide +kernel)
theorem s_82 : Cond.selects "MatchTreesModel" ⟨"MatchTreesModel", "isFitting", "(III)Z"⟩ ⟨"MatchTreesModel", "isFitting", "(III)Z"⟩ ∈ WT := WT_of (List.mem_of_getElem? (i := 82) rfl) (by decide +kernel)
theorem s_83 : Cond.selects "MatchTreesModel" ⟨"MatchTreesModel", "fieldOf", "(III)I"⟩ ⟨"MatchTreesModel", "fieldOf", "(III)I"⟩ ∈ WT := WT_of (List.mem_of_getElem? (i := 83) rfl) (by decide +kernel)
theorem s_84 : Cond.selects "MatchTreesModel" ⟨"MatchTreesModel", "slot", "(I)I"⟩ ⟨"MatchTreesModel", "slot", "(I)I"⟩ ∈ WT := WT_of (List.mem_of_getElem? (i := 84) rfl) (by decide +kernel)
theorem s_85 : Cond.selects "MatchTreesModel" ⟨"MatchTreesModel", "copies", "(II)V"⟩ ⟨"MatchTreesModel", "copies", "(II)V"⟩ ∈ WT := WT_of (List.mem_of_getElem? (i := 85) rfl) (by decide +kernel)
theorem s_86 : Cond.selects "MatchTreesModel" ⟨"MatchTreesModel", "isPlace", "(I)Z"⟩ ⟨"MatchTreesModel", "isPlace", "(I)Z"⟩ ∈ WT := WT_of (List.mem_of_getElem? (i := 86) rfl) (by decide +kernel)
theorem s_87 : Cond.selects "MatchTreesModel" ⟨"MatchTreesModel", "arranges", "(I)V"⟩ ⟨"MatchTreesModel", "arranges", "(I)V"⟩ ∈ WT := WT_of (List.mem_of_getElem? (i := 87) rfl) (by decide +kernel)
theorem s_88 : Cond.selects "MatchTreesModel" ⟨"MatchTreesModel", "placed", "(II)I"⟩ ⟨"MatchTreesModel", "placed", "(II)I"⟩ ∈ WT := WT_of (List.mem_of_getElem? (i := 88) rfl) (by decide +kernel)
theorem s_89 : Cond.selects "MatchTreesModel" ⟨"MatchTreesModel", "countsRows", "()V"⟩ ⟨"MatchTreesModel", "countsRows", "()V"⟩ ∈ WT := WT_of (List.mem_of_getElem? (i := 89) rfl) (by decide +kernel)
theorem s_90 : Cond.selects "MatchTreesModel" ⟨"MatchTreesModel", "fitting", "(I)I"⟩ ⟨"MatchTreesModel", "fitting", "(I)I"⟩ ∈ WT := WT_of (List.mem_of_getElem? (i := 90) rfl) (by decide +kernel)
theorem s_91 : Cond.selects "MatchTreesModel" ⟨"MatchTreesModel", "valuesIn", "(I)V"⟩ ⟨"MatchTreesModel", "valuesIn", "(I)V"⟩ ∈ WT := WT_of (List.mem_of_getElem? (i := 91) rfl) (by decide +kernel)
theorem s_92 : Cond.selects "MatchTreesModel" ⟨"MatchTreesModel", "setIn", "(II)I"⟩ ⟨"MatchTreesModel", "setIn", "(II)I"⟩ ∈ WT := WT_of (List.mem_of_getElem? (i := 92) rfl) (by decide +kernel)
theorem s_93 : Cond.selects "MatchTreesModel" ⟨"MatchTreesModel", "isUseful", "(I)I"⟩ ⟨"MatchTreesModel", "isUseful", "(I)I"⟩ ∈ WT := WT_of (List.mem_of_getElem? (i := 93) rfl) (by decide +kernel)
theorem s_94 : Cond.selects "MatchTreesModel" ⟨"MatchTreesModel", "fittingRows", "(I)I"⟩ ⟨"MatchTreesModel", "fittingRows", "(I)I"⟩ ∈ WT := WT_of (List.mem_of_getElem? (i := 94) rfl) (by decide +kernel)
theorem s_95 : Cond.selects "MatchTreesModel" ⟨"MatchTreesModel", "takenRows", "(I)I"⟩ ⟨"MatchTreesModel", "takenRows", "(I)I"⟩ ∈ WT := WT_of (List.mem_of_getElem? (i := 95) rfl) (by decide +kernel)
theorem s_96 : Cond.selects "MatchTreesModel" ⟨"MatchTreesModel", "openBy", "(I)I"⟩ ⟨"MatchTreesModel", "openBy", "(I)I"⟩ ∈ WT := WT_of (List.mem_of_getElem? (i := 96) rfl) (by decide +kernel)
theorem s_97 : Cond.selects "MatchTreesModel" ⟨"MatchTreesModel", "isRow", "(I)Z"⟩ ⟨"MatchTreesModel", "isRow", "(I)Z"⟩ ∈ WT := WT_of (List.mem_of_getElem? (i := 97) rfl) (by decide +kernel)
theorem s_98 : Cond.selects "MatchTreesModel" ⟨"MatchTreesModel", "valueRead", "(I)I"⟩ ⟨"MatchTreesModel", "valueRead", "(I)I"⟩ ∈ WT := WT_of (List.mem_of_getElem? (i := 98) rfl) (by decide +kernel)
theorem s_99 : Cond.selects "MatchTreesModel" ⟨"MatchTreesModel", "isMoreOf", "(I)Z"⟩ ⟨"MatchTreesModel", "isMoreOf", "(I)Z"⟩ ∈ WT := WT_of (List.mem_of_getElem? (i := 99) rfl) (by decide +kernel)
theorem s_100 : Cond.selects "MatchTreesModel" ⟨"MatchTreesModel", "conRead", "(I)I"⟩ ⟨"MatchTreesModel", "conRead", "(I)I"⟩ ∈ WT := WT_of (List.mem_of_getElem? (i := 100) rfl) (by decide +kernel)
theorem s_101 : Cond.selects "MatchTreesModel" ⟨"MatchTreesModel", "later", "(II)V"⟩ ⟨"MatchTreesModel", "later", "(II)V"⟩ ∈ WT := WT_of (List.mem_of_getElem? (i := 101) rfl) (by decide +kernel)
theorem s_102 : Cond.selects "MatchTreesModel" ⟨"MatchTreesModel", "writes", "(I)V"⟩ ⟨"MatchTreesModel", "writes", "(I)V"⟩ ∈ WT := WT_of (List.mem_of_getElem? (i := 102) rfl) (by decide +kernel)
theorem s_103 : Cond.selects "MatchTreesModel" ⟨"MatchTreesModel", "writesValue", "(II)V"⟩ ⟨"MatchTreesModel", "writesValue", "(II)V"⟩ ∈ WT := WT_of (List.mem_of_getElem? (i := 103) rfl) (by decide +kernel)
theorem s_104 : Cond.selects "MatchTreesModel" ⟨"MatchTreesModel", "conOf", "(II)I"⟩ ⟨"MatchTreesModel", "conOf", "(II)I"⟩ ∈ WT := WT_of (List.mem_of_getElem? (i := 104) rfl) (by decide +kernel)
theorem s_105 : Cond.selects "MatchTreesModel" ⟨"MatchTreesModel", "writesName", "(J)V"⟩ ⟨"MatchTreesModel", "writesName", "(J)V"⟩ ∈ WT := WT_of (List.mem_of_getElem? (i := 105) rfl) (by decide +kernel)
theorem s_106 : Cond.selects "MatchTreesModel" ⟨"MatchTreesModel", "plants", "(II)V"⟩ ⟨"MatchTreesModel", "plants", "(II)V"⟩ ∈ WT := WT_of (List.mem_of_getElem? (i := 106) rfl) (by decide +kernel)
theorem s_107 : Cond.selects "MatchTreesModel" ⟨"MatchTreesModel", "allTests", "(I)I"⟩ ⟨"MatchTreesModel", "allTests", "(I)I"⟩ ∈ WT := WT_of (List.mem_of_getElem? (i := 107) rfl) (by decide +kernel)
theorem s_108 : Cond.selects "MatchTreesModel" ⟨"MatchTreesModel", "testsFor", "(II)I"⟩ ⟨"MatchTreesModel", "testsFor", "(II)I"⟩ ∈ WT := WT_of (List.mem_of_getElem? (i := 108) rfl) (by decide +kernel)
theorem s_109 : Cond.selects "MatchTreesModel" ⟨"MatchTreesModel", "root", "()I"⟩ ⟨"MatchTreesModel", "root", "()I"⟩ ∈ WT := WT_of (List.mem_of_getElem? (i := 109) rfl) (by decide +kernel)
theorem s_110 : Cond.selects "MatchTreesModel" ⟨"MatchTreesModel", "asksFor", "(I)I"⟩ ⟨"MatchTreesModel", "asksFor", "(I)I"⟩ ∈ WT := WT_of (List.mem_of_getElem? (i := 110) rfl) (by decide +kernel)
theorem s_111 : Cond.selects "MatchTreesModel" ⟨"MatchTreesModel", "worthOf", "(II)I"⟩ ⟨"MatchTreesModel", "worthOf", "(II)I"⟩ ∈ WT := WT_of (List.mem_of_getElem? (i := 111) rfl) (by decide +kernel)
theorem s_112 : Cond.selects "MatchTreesModel" ⟨"MatchTreesModel", "branchOf", "(III)I"⟩ ⟨"MatchTreesModel", "branchOf", "(III)I"⟩ ∈ WT := WT_of (List.mem_of_getElem? (i := 112) rfl) (by decide +kernel)
theorem s_113 : Cond.selects "MatchTreesModel" ⟨"MatchTreesModel", "grows", "()V"⟩ ⟨"MatchTreesModel", "grows", "()V"⟩ ∈ WT := WT_of (List.mem_of_getElem? (i := 113) rfl) (by decide +kernel)
theorem s_114 : Cond.selects "MatchTreesModel" ⟨"MatchTreesModel", "reaches", "(I)V"⟩ ⟨"MatchTreesModel", "reaches", "(I)V"⟩ ∈ WT := WT_of (List.mem_of_getElem? (i := 114) rfl) (by decide +kernel)
theorem s_115 : Cond.selects "MatchTreesModel" ⟨"MatchTreesModel", "isDoor", "(I)Z"⟩ ⟨"MatchTreesModel", "isDoor", "(I)Z"⟩ ∈ WT := WT_of (List.mem_of_getElem? (i := 115) rfl) (by decide +kernel)
theorem s_116 : Cond.selects "MatchTreesModel" ⟨"MatchTreesModel", "weighs", "(I)V"⟩ ⟨"MatchTreesModel", "weighs", "(I)V"⟩ ∈ WT := WT_of (List.mem_of_getElem? (i := 116) rfl) (by decide +kernel)
theorem s_117 : Cond.selects "MatchTreesModel" ⟨"MatchTreesModel", "builds", "()V"⟩ ⟨"MatchTreesModel", "builds", "()V"⟩ ∈ WT := WT_of (List.mem_of_getElem? (i := 117) rfl) (by decide +kernel)
theorem s_118 : Cond.selects "MatchTreesModel" ⟨"MatchTreesModel", "opensScope", "(II)V"⟩ ⟨"MatchTreesModel", "opensScope", "(II)V"⟩ ∈ WT := WT_of (List.mem_of_getElem? (i := 118) rfl) (by decide +kernel)
theorem s_119 : Cond.selects "MatchTreesModel" ⟨"MatchTreesModel", "nextBranch", "(I)I"⟩ ⟨"MatchTreesModel", "nextBranch", "(I)I"⟩ ∈ WT := WT_of (List.mem_of_getElem? (i := 119) rfl) (by decide +kernel)
theorem s_120 : Cond.selects "MatchTreesModel" ⟨"MatchTreesModel", "isNewSet", "(III)Z"⟩ ⟨"MatchTreesModel", "isNewSet", "(III)Z"⟩ ∈ WT := WT_of (List.mem_of_getElem? (i := 120) rfl) (by decide +kernel)
theorem s_121 : Cond.selects "MatchTreesModel" ⟨"MatchTreesModel", "isSafe", "(II)Z"⟩ ⟨"MatchTreesModel", "isSafe", "(II)Z"⟩ ∈ WT := WT_of (List.mem_of_getElem? (i := 121) rfl) (by decide +kernel)
theorem s_122 : Cond.selects "MatchTreesModel" ⟨"MatchTreesModel", "exchanges", "(III)V"⟩ ⟨"MatchTreesModel", "exchanges", "(III)V"⟩ ∈ WT := WT_of (List.mem_of_getElem? (i := 122) rfl) (by decide +kernel)
theorem s_123 : Cond.selects "MatchTreesModel" ⟨"MatchTreesModel", "leaves", "()I"⟩ ⟨"MatchTreesModel", "leaves", "()I"⟩ ∈ WT := WT_of (List.mem_of_getElem? (i := 123) rfl) (by decide +kernel)
theorem s_124 : Cond.selects "MatchTreesModel" ⟨"MatchTreesModel", "mostBy", "(I)I"⟩ ⟨"MatchTreesModel", "mostBy", "(I)I"⟩ ∈ WT := WT_of (List.mem_of_getElem? (i := 124) rfl) (by decide +kernel)
theorem s_125 : Cond.selects "MatchTreesModel" ⟨"MatchTreesModel", "keeps", "()V"⟩ ⟨"MatchTreesModel", "keeps", "()V"⟩ ∈ WT := WT_of (List.mem_of_getElem? (i := 125) rfl) (by decide +kernel)
theorem s_126 : Cond.selects "MatchTreesModel" ⟨"MatchTreesModel", "runs", "(I)I"⟩ ⟨"MatchTreesModel", "runs", "(I)I"⟩ ∈ WT := WT_of (List.mem_of_getElem? (i := 126) rfl) (by decide +kernel)
theorem s_127 : Cond.selects "MatchTreesModel" ⟨"MatchTreesModel", "draw", "(I)I"⟩ ⟨"MatchTreesModel", "draw", "(I)I"⟩ ∈ WT := WT_of (List.mem_of_getElem? (i := 127) rfl) (by decide +kernel)
theorem s_128 : Cond.selects "MatchTreesModel" ⟨"MatchTreesModel", "comesOn", "(I)Z"⟩ ⟨"MatchTreesModel", "comesOn", "(I)Z"⟩ ∈ WT := WT_of (List.mem_of_getElem? (i := 128) rfl) (by decide +kernel)
end
end
section
/-! What every contract of this claim stands in: the array classes, the links that are not words. -/
abbrev ty0 (cI cJ : ClassId) : List (ClassId × FieldType) := [(cI, .int), (cJ, .long)]
/-- int[][] has been made before -/
def gA (U : State) : Prop := (Cond.arrayOver (.array .int)).before #[] U = true
theorem gA.moved {u U : State} (hvm : u.vm.Alike U.vm) (h : gA u) : gA U := by
  obtain ⟨comp, c, k, h1, h2, h3, h4, h5⟩ := arrayOverA_spec h
  obtain ⟨k', hk', he⟩ := hvm.2.2 _ _ h3
  have hi : (U.vm.classes.findIdx? fun (x : Class) => match x.kind with | .array component _ => component == comp | _ => false) = some c := by
    have e1 := va_idx_bare U.vm comp
    have e2 := va_idx_bare u.vm comp
    have e3 : U.vm.bare = u.vm.bare := by first | exact hvm.bare_eq | exact hvm.bare_eq.symm
    rw [e3] at e1
    exact (e1.symm.trans e2).trans h2
  have hkind : k'.kind = .array comp (.array .int) := by rw [he]; exact h4
  have f1 : U.vm.findClass (FieldType.array .int).toString = some comp := by rw [hvm.findClass]; exact h1
  have f2 : U.vm.findClass ("[" ++ (FieldType.array .int).toString) = some c := by rw [hvm.findClass]; exact h5
  unfold gA Cond.before Cond.holds
  simp only [Cond.value]
  rw [f1, Option.bind_some]
  refine (congrArg (fun o : Option Nat => (o.bind (fun c => (U.vm.classes[c]?).map fun (k : Class) => match k.kind with | .array _ ty => decide (ty = FieldType.array .int) && decide (U.vm.findClass ("[" ++ (FieldType.array .int).toString) = some c) | _ => false) == some true)) hi).trans ?_
  simp [hk', hkind, f2]
/-- what does not change with the heap: the links to private members of nest mates, the arrays of references -/
def gN (U : State) : Prop := va_Nw (.methodLinkNest RX11 23 yX4_init RX11) U ∧ va_Nw (.methodLinkNest RX11 42 yX5_init RX11) U ∧ va_Nw (.methodLinkNest RX11 59 yX8_init RX11) U ∧ va_Nw (.methodLinkNest RX11 70 yX9_init RX11) U ∧ va_Nw (.methodLinkNest RX0 30 yX5_init RX11) U ∧ va_Nw (.methodLinkNest RX6 11 yX7_init RX11) U ∧ va_Nw (.methodLinkNest RX9 11 yX3_init RX11) U ∧ va_AO RX2 U ∧ va_AO RX5 U ∧ gA U
theorem gN.same {u U : State} (h : u.vm = U.vm) (hN : gN u) : gN U := by
  obtain ⟨h1, h2, h3, h4, h5, h6, h7, h8, h9, h10⟩ := hN
  have hal : u.vm.Alike U.vm := h ▸ Vm.Alike.refl u.vm
  exact ⟨h1.same rfl h, h2.same rfl h, h3.same rfl h, h4.same rfl h, h5.same rfl h, h6.same rfl h, h7.same rfl h, h8.moved hal, h9.moved hal, h10.moved hal⟩
theorem gN.warm {s U : State} (hW : s.WarmedH U.vm) (hN : gN s) : gN U := by
  obtain ⟨h1, h2, h3, h4, h5, h6, h7, h8, h9, h10⟩ := hN
  exact ⟨h1.warmM hW, h2.warmM hW, h3.warmM hW, h4.warmM hW, h5.warmM hW, h6.warmM hW, h7.warmM hW, h8.moved hW.alike, h9.moved hW.alike, h10.moved hW.alike⟩
section KR
variable {p : Program} {l : Launch} {e : Env} {R : Room} {s : State} {m : MethodId} {args : Array Value} {below : List Frame} {meth : Method} {c : Code} {H : Heap} {locs : List Loc} {cells slots : Nat} {Q : State → Prop}
variable {cc : ByteArray} {pc : Nat} {ls : Array Slot} {rest : List Value} {D : va_G} {cl : List vw_C} {A : Nat → Prop} {ws : va_W} {H0 : Heap} {cI cJ : ClassId}
theorem ty_one {U : State} {tys : List (ClassId × FieldType)} {i j : Nat} {c1 c2 : ClassId} (hK : va_K D cl tys U) (h1 : tys[i]? = some (c1, .int)) (h2 : tys[j]? = some (c2, .int)) : c1 = c2 := Option.some.inj ((hK.2 i _ h1).2.symm.trans (hK.2 j _ h2).2)
theorem ty_oneJ {U : State} {tys : List (ClassId × FieldType)} {i j : Nat} {c1 c2 : ClassId} (hK : va_K D cl tys U) (h1 : tys[i]? = some (c1, .long)) (h2 : tys[j]? = some (c2, .long)) : c1 = c2 := Option.some.inj ((hK.2 i _ h1).2.symm.trans (hK.2 j _ h2).2)
theorem va_P.dropL {w1 w2 : va_W} (h : va_P D cl (w1 ++ w2) H) : va_P D cl w1 H := fun k q hk => h k q (by rw [List.getElem?_append_left (List.getElem?_eq_some_iff.mp hk).1]; exact hk)
theorem k_iadd (hexec : p.tables.exec = Jvm.exec) (hb : c.code = cc) {x y v : Int32} (hv : x + y = v) (hdg : decode cc pc = .ok (.iadd, 1)) (k : W p l e R s m args below meth c H locs cells slots Q (F0 m (pc + 1) ls (.int v :: rest))) : W p l e R s m args below meth c H locs cells slots Q (F0 m pc ls (.int y :: .int x :: rest)) := by subst hv; exact lv_iadd hexec hb hdg k
theorem k_isub (hexec : p.tables.exec = Jvm.exec) (hb : c.code = cc) {x y v : Int32} (hv : x - y = v) (hdg : decode cc pc = .ok (.isub, 1)) (k : W p l e R s m args below meth c H locs cells slots Q (F0 m (pc + 1) ls (.int v :: rest))) : W p l e R s m args below meth c H locs cells slots Q (F0 m pc ls (.int y :: .int x :: rest)) := by subst hv; exact lv_isub hexec hb hdg k
theorem k_imul (hexec : p.tables.exec = Jvm.exec) (hb : c.code = cc) {x y v : Int32} (hv : x * y = v) (hdg : decode cc pc = .ok (.imul, 1)) (k : W p l e R s m args below meth c H locs cells slots Q (F0 m (pc + 1) ls (.int v :: rest))) : W p l e R s m args below meth c H locs cells slots Q (F0 m pc ls (.int y :: .int x :: rest)) := by subst hv; exact lv_imul hexec hb hdg k
end KR
theorem va_P0 {D : va_G} {cl : List vw_C} {H : Heap} : va_P D cl [] H := fun k q h => by simp at h
theorem va_D0 {A : Nat → Prop} : va_D A [] := ⟨fun i j p q h => by simp at h, fun k q h => by simp at h⟩
theorem sw_cases (x : Int32) (n : Nat) (hn : n < 2 ^ 31) : (x.toInt < 0 ∨ (n : Int) - 1 < x.toInt) ∨ ∃ j : Nat, j < n ∧ x = nI j := by
  by_cases h1 : x.toInt < 0
  · exact Or.inl (Or.inl h1)
  · by_cases h2 : (n : Int) - 1 < x.toInt
    · exact Or.inl (Or.inr h2)
    · obtain ⟨j, hj, rfl⟩ := vp_in_of (x := x) (n := n) (vp_in_iff.mpr ⟨by omega, by omega⟩) hn
      exact Or.inr ⟨j, hj, rfl⟩
theorem vpd {i : Int32} {n : Nat} (h : ¬ (i < 0 ∨ n ≤ i.toNatClampNeg)) : vp_in i n := h
end
