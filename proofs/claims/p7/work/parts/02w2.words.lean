set_option maxRecDepth 20000 in
theorem t_1307 : (Jvm.Cond.selects "MatchTrees" ({ cls := "MatchTrees", name := "choose", desc := "(I)Z" } : Jvm.MethodName) ({ cls := "MatchTrees", name := "choose", desc := "(I)Z" } : Jvm.MethodName)) ∈ WT := WT_of (sub_tables_1_5 _ (List.mem_of_getElem? (i := 218) (by decide +kernel))) (by decide +kernel)
set_option maxRecDepth 20000 in
theorem t_1308 : (Jvm.Cond.code ({ cls := "MatchTrees", name := "choose", desc := "(I)Z" } : Jvm.MethodName) prog_1_method_41_code (2 : Nat) (Option.some Jvm.ClassFile.FieldType.boolean)) ∈ WT := WT_of (sub_tables_1_5 _ (List.mem_of_getElem? (i := 219) rfl)) (by decide +kernel)
set_option maxRecDepth 20000 in
theorem t_1309 : (Jvm.Cond.methodLink "MatchTreesLaw" (136 : Nat) ({ cls := "MatchTrees", name := "undo", desc := "()Z" } : Jvm.MethodName)) ∈ WT := WT_of (sub_tables_1_5 _ (List.mem_of_getElem? (i := 220) (by decide +kernel))) (by decide +kernel)
set_option maxRecDepth 20000 in
theorem t_1310 : (Jvm.Cond.instanceMethod ({ cls := "MatchTrees", name := "undo", desc := "()Z" } : Jvm.MethodName)) ∈ WT := WT_of (sub_tables_1_5 _ (List.mem_of_getElem? (i := 221) (by decide +kernel))) (by decide +kernel)
set_option maxRecDepth 20000 in
theorem t_1311 : (Jvm.Cond.selects "MatchTrees" ({ cls := "MatchTrees", name := "undo", desc := "()Z" } : Jvm.MethodName) ({ cls := "MatchTrees", name := "undo", desc := "()Z" } : Jvm.MethodName)) ∈ WT := WT_of (sub_tables_1_5 _ (List.mem_of_getElem? (i := 222) (by decide +kernel))) (by decide +kernel)
set_option maxRecDepth 20000 in
theorem t_1312 : (Jvm.Cond.code ({ cls := "MatchTrees", name := "undo", desc := "()Z" } : Jvm.MethodName) prog_1_method_42_code (1 : Nat) (Option.some Jvm.ClassFile.FieldType.boolean)) ∈ WT := WT_of (sub_tables_1_5 _ (List.mem_of_getElem? (i := 223) rfl)) (by decide +kernel)
set_option maxRecDepth 20000 in
theorem t_1313 : (Jvm.Cond.methodLink "MatchTrees" (409 : Nat) ({ cls := "MatchTrees$Acts", name := "takeBack", desc := "(LMatchTrees$Order;)V" } : Jvm.MethodName)) ∈ WT := WT_of (sub_tables_1_5 _ (List.mem_of_getElem? (i := 224) (by decide +kernel))) (by decide +kernel)
set_option maxRecDepth 20000 in
theorem t_1314 : (Jvm.Cond.instanceMethod ({ cls := "MatchTrees$Acts", name := "takeBack", desc := "(LMatchTrees$Order;)V" } : Jvm.MethodName)) ∈ WT := WT_of (sub_tables_1_5 _ (List.mem_of_getElem? (i := 225) (by decide +kernel))) (by decide +kernel)
set_option maxRecDepth 20000 in
theorem t_1315 : (Jvm.Cond.selects "MatchTrees$Acts" ({ cls := "MatchTrees$Acts", name := "takeBack", desc := "(LMatchTrees$Order;)V" } : Jvm.MethodName) ({ cls := "MatchTrees$Acts", name := "takeBack", desc := "(LMatchTrees$Order;)V" } : Jvm.MethodName)) ∈ WT := WT_of (sub_tables_1_5 _ (List.mem_of_getElem? (i := 226) (by decide +kernel))) (by decide +kernel)
set_option maxRecDepth 20000 in
theorem t_1316 : (Jvm.Cond.code ({ cls := "MatchTrees$Acts", name := "takeBack", desc := "(LMatchTrees$Order;)V" } : Jvm.MethodName) prog_2_method_7_code (3 : Nat) (Option.none : Option Jvm.ClassFile.FieldType)) ∈ WT := WT_of (sub_tables_1_5 _ (List.mem_of_getElem? (i := 227) rfl)) (by decide +kernel)
set_option maxRecDepth 20000 in
theorem t_1317 : (Jvm.Cond.methodLink "MatchTrees$Acts" (58 : Nat) ({ cls := "java/lang/Math", name := "max", desc := "(II)I" } : Jvm.MethodName)) ∈ WT := WT_of (sub_tables_1_5 _ (List.mem_of_getElem? (i := 228) (by decide +kernel))) (by decide +kernel)
set_option maxRecDepth 20000 in
theorem t_1318 : (Jvm.Cond.methodLink "MatchTreesLaw" (141 : Nat) ({ cls := "MatchTrees", name := "seed", desc := "(I)Z" } : Jvm.MethodName)) ∈ WT := WT_of (sub_tables_1_5 _ (List.mem_of_getElem? (i := 229) (by decide +kernel))) (by decide +kernel)
set_option maxRecDepth 20000 in
theorem t_1319 : (Jvm.Cond.instanceMethod ({ cls := "MatchTrees", name := "seed", desc := "(I)Z" } : Jvm.MethodName)) ∈ WT := WT_of (sub_tables_1_5 _ (List.mem_of_getElem? (i := 230) (by decide +kernel))) (by decide +kernel)
set_option maxRecDepth 20000 in
theorem t_1320 : (Jvm.Cond.selects "MatchTrees" ({ cls := "MatchTrees", name := "seed", desc := "(I)Z" } : Jvm.MethodName) ({ cls := "MatchTrees", name := "seed", desc := "(I)Z" } : Jvm.MethodName)) ∈ WT := WT_of (sub_tables_1_5 _ (List.mem_of_getElem? (i := 231) (by decide +kernel))) (by decide +kernel)
set_option maxRecDepth 20000 in
theorem t_1321 : (Jvm.Cond.code ({ cls := "MatchTrees", name := "seed", desc := "(I)Z" } : Jvm.MethodName) prog_1_method_44_code (2 : Nat) (Option.some Jvm.ClassFile.FieldType.boolean)) ∈ WT := WT_of (sub_tables_1_5 _ (List.mem_of_getElem? (i := 232) rfl)) (by decide +kernel)
set_option maxRecDepth 20000 in
theorem t_1322 : (Jvm.Cond.methodLink "MatchTreesLaw" (145 : Nat) ({ cls := "MatchTrees", name := "kept", desc := "(II)I" } : Jvm.MethodName)) ∈ WT := WT_of (sub_tables_1_5 _ (List.mem_of_getElem? (i := 233) (by decide +kernel))) (by decide +kernel)
set_option maxRecDepth 20000 in
theorem t_1323 : (Jvm.Cond.instanceMethod ({ cls := "MatchTrees", name := "kept", desc := "(II)I" } : Jvm.MethodName)) ∈ WT := WT_of (sub_tables_1_5 _ (List.mem_of_getElem? (i := 234) (by decide +kernel))) (by decide +kernel)
set_option maxRecDepth 20000 in
theorem t_1324 : (Jvm.Cond.selects "MatchTrees" ({ cls := "MatchTrees", name := "kept", desc := "(II)I" } : Jvm.MethodName) ({ cls := "MatchTrees", name := "kept", desc := "(II)I" } : Jvm.MethodName)) ∈ WT := WT_of (sub_tables_1_5 _ (List.mem_of_getElem? (i := 235) (by decide +kernel))) (by decide +kernel)
set_option maxRecDepth 20000 in
theorem t_1325 : (Jvm.Cond.code ({ cls := "MatchTrees", name := "kept", desc := "(II)I" } : Jvm.MethodName) prog_1_method_45_code (3 : Nat) (Option.some Jvm.ClassFile.FieldType.int)) ∈ WT := WT_of (sub_tables_1_5 _ (List.mem_of_getElem? (i := 236) rfl)) (by decide +kernel)
set_option maxRecDepth 20000 in
theorem t_1326 : (Jvm.Cond.methodLink "MatchTrees" (414 : Nat) ({ cls := "MatchTrees$Acts", name := "tellKept", desc := "(II)I" } : Jvm.MethodName)) ∈ WT := WT_of (sub_tables_1_5 _ (List.mem_of_getElem? (i := 237) (by decide +kernel))) (by decide +kernel)
set_option maxRecDepth 20000 in
theorem t_1327 : (Jvm.Cond.instanceMethod ({ cls := "MatchTrees$Acts", name := "tellKept", desc := "(II)I" } : Jvm.MethodName)) ∈ WT := WT_of (sub_tables_1_5 _ (List.mem_of_getElem? (i := 238) (by decide +kernel))) (by decide +kernel)
set_option maxRecDepth 20000 in
theorem t_1328 : (Jvm.Cond.selects "MatchTrees$Acts" ({ cls := "MatchTrees$Acts", name := "tellKept", desc := "(II)I" } : Jvm.MethodName) ({ cls := "MatchTrees$Acts", name := "tellKept", desc := "(II)I" } : Jvm.MethodName)) ∈ WT := WT_of (sub_tables_1_5 _ (List.mem_of_getElem? (i := 239) (by decide +kernel))) (by decide +kernel)
set_option maxRecDepth 20000 in
theorem t_1329 : (Jvm.Cond.code ({ cls := "MatchTrees$Acts", name := "tellKept", desc := "(II)I" } : Jvm.MethodName) prog_2_method_5_code (4 : Nat) (Option.some Jvm.ClassFile.FieldType.int)) ∈ WT := WT_of (sub_tables_1_6 _ (List.mem_of_getElem? (i := 0) rfl)) (by decide +kernel)
set_option maxRecDepth 20000 in
theorem t_1330 : (Jvm.Cond.methodLink "MatchTrees$Acts" (47 : Nat) ({ cls := "MatchTrees$Acts", name := "keptTold", desc := "()I" } : Jvm.MethodName)) ∈ WT := WT_of (sub_tables_1_6 _ (List.mem_of_getElem? (i := 1) (by decide +kernel))) (by decide +kernel)
set_option maxRecDepth 20000 in
theorem t_1331 : (Jvm.Cond.methodLink "MatchTreesLaw" (149 : Nat) ({ cls := "MatchTrees", name := "image", desc := "()I" } : Jvm.MethodName)) ∈ WT := WT_of (sub_tables_1_6 _ (List.mem_of_getElem? (i := 2) (by decide +kernel))) (by decide +kernel)
set_option maxRecDepth 20000 in
theorem t_1332 : (Jvm.Cond.instanceMethod ({ cls := "MatchTrees", name := "image", desc := "()I" } : Jvm.MethodName)) ∈ WT := WT_of (sub_tables_1_6 _ (List.mem_of_getElem? (i := 3) (by decide +kernel))) (by decide +kernel)
set_option maxRecDepth 20000 in
theorem t_1333 : (Jvm.Cond.selects "MatchTrees" ({ cls := "MatchTrees", name := "image", desc := "()I" } : Jvm.MethodName) ({ cls := "MatchTrees", name := "image", desc := "()I" } : Jvm.MethodName)) ∈ WT := WT_of (sub_tables_1_6 _ (List.mem_of_getElem? (i := 4) (by decide +kernel))) (by decide +kernel)
set_option maxRecDepth 20000 in
theorem t_1334 : (Jvm.Cond.code ({ cls := "MatchTrees", name := "image", desc := "()I" } : Jvm.MethodName) prog_1_method_46_code (2 : Nat) (Option.some Jvm.ClassFile.FieldType.int)) ∈ WT := WT_of (sub_tables_1_6 _ (List.mem_of_getElem? (i := 5) rfl)) (by decide +kernel)
set_option maxRecDepth 20000 in
theorem t_1335 : (Jvm.Cond.methodLink "MatchTrees" (420 : Nat) ({ cls := "MatchTrees$Bytes", name := "checkByte", desc := "(I)I" } : Jvm.MethodName)) ∈ WT := WT_of (sub_tables_1_6 _ (List.mem_of_getElem? (i := 6) (by decide +kernel))) (by decide +kernel)
set_option maxRecDepth 20000 in
theorem t_1336 : (Jvm.Cond.instanceMethod ({ cls := "MatchTrees$Bytes", name := "checkByte", desc := "(I)I" } : Jvm.MethodName)) ∈ WT := WT_of (sub_tables_1_6 _ (List.mem_of_getElem? (i := 7) (by decide +kernel))) (by decide +kernel)
set_option maxRecDepth 20000 in
theorem t_1337 : (Jvm.Cond.selects "MatchTrees$Bytes" ({ cls := "MatchTrees$Bytes", name := "checkByte", desc := "(I)I" } : Jvm.MethodName) ({ cls := "MatchTrees$Bytes", name := "checkByte", desc := "(I)I" } : Jvm.MethodName)) ∈ WT := WT_of (sub_tables_1_6 _ (List.mem_of_getElem? (i := 8) (by decide +kernel))) (by decide +kernel)
set_option maxRecDepth 20000 in
theorem t_1338 : (Jvm.Cond.code ({ cls := "MatchTrees$Bytes", name := "checkByte", desc := "(I)I" } : Jvm.MethodName) prog_3_method_7_code (4 : Nat) (Option.some Jvm.ClassFile.FieldType.int)) ∈ WT := WT_of (sub_tables_1_6 _ (List.mem_of_getElem? (i := 9) rfl)) (by decide +kernel)
set_option maxRecDepth 20000 in
theorem t_1339 : (Jvm.Cond.methodLink "MatchTreesLaw" (153 : Nat) ({ cls := "MatchTrees", name := "on", desc := "()Z" } : Jvm.MethodName)) ∈ WT := WT_of (sub_tables_1_6 _ (List.mem_of_getElem? (i := 10) (by decide +kernel))) (by decide +kernel)
set_option maxRecDepth 20000 in
theorem t_1340 : (Jvm.Cond.instanceMethod ({ cls := "MatchTrees", name := "on", desc := "()Z" } : Jvm.MethodName)) ∈ WT := WT_of (sub_tables_1_6 _ (List.mem_of_getElem? (i := 11) (by decide +kernel))) (by decide +kernel)
set_option maxRecDepth 20000 in
theorem t_1341 : (Jvm.Cond.selects "MatchTrees" ({ cls := "MatchTrees", name := "on", desc := "()Z" } : Jvm.MethodName) ({ cls := "MatchTrees", name := "on", desc := "()Z" } : Jvm.MethodName)) ∈ WT := WT_of (sub_tables_1_6 _ (List.mem_of_getElem? (i := 12) (by decide +kernel))) (by decide +kernel)
set_option maxRecDepth 20000 in
theorem t_1342 : (Jvm.Cond.code ({ cls := "MatchTrees", name := "on", desc := "()Z" } : Jvm.MethodName) prog_1_method_47_code (2 : Nat) (Option.some Jvm.ClassFile.FieldType.boolean)) ∈ WT := WT_of (sub_tables_1_6 _ (List.mem_of_getElem? (i := 13) rfl)) (by decide +kernel)
set_option maxRecDepth 20000 in
theorem t_1343 : (Jvm.Cond.methodLink "MatchTrees" (423 : Nat) ({ cls := "MatchTrees", name := "isImage", desc := "()Z" } : Jvm.MethodName)) ∈ WT := WT_of (sub_tables_1_6 _ (List.mem_of_getElem? (i := 14) (by decide +kernel))) (by decide +kernel)
set_option maxRecDepth 20000 in
theorem t_1345 : (Jvm.Cond.instanceMethod ({ cls := "MatchTrees", name := "isImage", desc := "()Z" } : Jvm.MethodName)) ∈ WT := WT_of (sub_tables_1_6 _ (List.mem_of_getElem? (i := 16) (by decide +kernel))) (by decide +kernel)
set_option maxRecDepth 20000 in
theorem t_1346 : (Jvm.Cond.code ({ cls := "MatchTrees", name := "isImage", desc := "()Z" } : Jvm.MethodName) prog_1_method_48_code (5 : Nat) (Option.some Jvm.ClassFile.FieldType.boolean)) ∈ WT := WT_of (sub_tables_1_6 _ (List.mem_of_getElem? (i := 17) rfl)) (by decide +kernel)
set_option maxRecDepth 20000 in
theorem t_1347 : (Jvm.Cond.methodLink "MatchTrees" (426 : Nat) ({ cls := "MatchTrees", name := "takeImage", desc := "()V" } : Jvm.MethodName)) ∈ WT := WT_of (sub_tables_1_6 _ (List.mem_of_getElem? (i := 18) (by decide +kernel))) (by decide +kernel)
set_option maxRecDepth 20000 in
theorem t_1349 : (Jvm.Cond.instanceMethod ({ cls := "MatchTrees", name := "takeImage", desc := "()V" } : Jvm.MethodName)) ∈ WT := WT_of (sub_tables_1_6 _ (List.mem_of_getElem? (i := 20) (by decide +kernel))) (by decide +kernel)
set_option maxRecDepth 20000 in
theorem t_1350 : (Jvm.Cond.code ({ cls := "MatchTrees", name := "takeImage", desc := "()V" } : Jvm.MethodName) prog_1_method_49_code (3 : Nat) (Option.none : Option Jvm.ClassFile.FieldType)) ∈ WT := WT_of (sub_tables_1_6 _ (List.mem_of_getElem? (i := 21) rfl)) (by decide +kernel)
set_option maxRecDepth 20000 in
theorem t_1351 : (Jvm.Cond.methodLink "MatchTrees" (429 : Nat) ({ cls := "java/lang/Math", name := "min", desc := "(II)I" } : Jvm.MethodName)) ∈ WT := WT_of (sub_tables_1_6 _ (List.mem_of_getElem? (i := 22) (by decide +kernel))) (by decide +kernel)
set_option maxRecDepth 20000 in
theorem t_1352 : (Jvm.Cond.methodLink "MatchTrees" (434 : Nat) ({ cls := "java/lang/Math", name := "max", desc := "(II)I" } : Jvm.MethodName)) ∈ WT := WT_of (sub_tables_1_6 _ (List.mem_of_getElem? (i := 23) (by decide +kernel))) (by decide +kernel)
set_option maxRecDepth 20000 in
theorem t_1353 : (Jvm.Cond.methodLink "MatchTreesLaw" (157 : Nat) ({ cls := "MatchTrees", name := "status", desc := "(I)I" } : Jvm.MethodName)) ∈ WT := WT_of (sub_tables_1_6 _ (List.mem_of_getElem? (i := 24) (by decide +kernel))) (by decide +kernel)
set_option maxRecDepth 20000 in
theorem t_1354 : (Jvm.Cond.instanceMethod ({ cls := "MatchTrees", name := "status", desc := "(I)I" } : Jvm.MethodName)) ∈ WT := WT_of (sub_tables_1_6 _ (List.mem_of_getElem? (i := 25) (by decide +kernel))) (by decide +kernel)
set_option maxRecDepth 20000 in
theorem t_1355 : (Jvm.Cond.selects "MatchTrees" ({ cls := "MatchTrees", name := "status", desc := "(I)I" } : Jvm.MethodName) ({ cls := "MatchTrees", name := "status", desc := "(I)I" } : Jvm.MethodName)) ∈ WT := WT_of (sub_tables_1_6 _ (List.mem_of_getElem? (i := 26) (by decide +kernel))) (by decide +kernel)
set_option maxRecDepth 20000 in
theorem t_1356 : (Jvm.Cond.code ({ cls := "MatchTrees", name := "status", desc := "(I)I" } : Jvm.MethodName) prog_1_method_50_code (2 : Nat) (Option.some Jvm.ClassFile.FieldType.int)) ∈ WT := WT_of (sub_tables_1_6 _ (List.mem_of_getElem? (i := 27) rfl)) (by decide +kernel)
set_option maxRecDepth 20000 in
theorem t_1357 : (Jvm.Cond.classLink "MatchTreesLaw" (10 : Nat) "MatchTreesModel") ∈ WT := WT_of (sub_tables_1_6 _ (List.mem_of_getElem? (i := 28) (by decide +kernel))) (by decide +kernel)
set_option maxRecDepth 20000 in
theorem t_1358 : (Jvm.Cond.instantiable "MatchTreesModel" (98 : Nat)) ∈ WT := WT_of (sub_tables_1_6 _ (List.mem_of_getElem? (i := 29) (by decide +kernel))) (by decide +kernel)
set_option maxRecDepth 20000 in
theorem t_1359 : (Jvm.Cond.methodLink "MatchTreesLaw" (12 : Nat) ({ cls := "MatchTreesModel", name := "<init>", desc := "()V" } : Jvm.MethodName)) ∈ WT := WT_of (sub_tables_1_6 _ (List.mem_of_getElem? (i := 30) (by decide +kernel))) (by decide +kernel)
set_option maxRecDepth 20000 in
theorem t_1360 : (Jvm.Cond.instanceMethod ({ cls := "MatchTreesModel", name := "<init>", desc := "()V" } : Jvm.MethodName)) ∈ WT := WT_of (sub_tables_1_6 _ (List.mem_of_getElem? (i := 31) (by decide +kernel))) (by decide +kernel)
set_option maxRecDepth 20000 in
theorem t_1361 : (Jvm.Cond.code ({ cls := "MatchTreesModel", name := "<init>", desc := "()V" } : Jvm.MethodName) prog_14_method_1_code (1 : Nat) (Option.none : Option Jvm.ClassFile.FieldType)) ∈ WT := WT_of (sub_tables_1_6 _ (List.mem_of_getElem? (i := 32) rfl)) (by decide +kernel)
set_option maxRecDepth 20000 in
theorem t_1362 : (Jvm.Cond.methodLink "MatchTreesModel" (1 : Nat) ({ cls := "java/lang/Object", name := "<init>", desc := "()V" } : Jvm.MethodName)) ∈ WT := WT_of (sub_tables_1_6 _ (List.mem_of_getElem? (i := 33) (by decide +kernel))) (by decide +kernel)
set_option maxRecDepth 20000 in
theorem t_1363 : (Jvm.Cond.constant "MatchTreesModel" (239 : Nat) (65536 : Int32)) ∈ WT := WT_of (sub_tables_1_6 _ (List.mem_of_getElem? (i := 34) (by decide +kernel))) (by decide +kernel)
set_option maxRecDepth 20000 in
theorem t_1364 : (Jvm.Cond.methodLink "MatchTreesModel" (309 : Nat) ({ cls := "MatchTreesModel", name := "begin", desc := "()V" } : Jvm.MethodName)) ∈ WT := WT_of (sub_tables_1_6 _ (List.mem_of_getElem? (i := 35) (by decide +kernel))) (by decide +kernel)
set_option maxRecDepth 20000 in
theorem t_1366 : (Jvm.Cond.instanceMethod ({ cls := "MatchTreesModel", name := "begin", desc := "()V" } : Jvm.MethodName)) ∈ WT := WT_of (sub_tables_1_6 _ (List.mem_of_getElem? (i := 37) (by decide +kernel))) (by decide +kernel)
set_option maxRecDepth 20000 in
theorem t_1367 : (Jvm.Cond.code ({ cls := "MatchTreesModel", name := "begin", desc := "()V" } : Jvm.MethodName) prog_14_method_48_code (2 : Nat) (Option.none : Option Jvm.ClassFile.FieldType)) ∈ WT := WT_of (sub_tables_1_6 _ (List.mem_of_getElem? (i := 38) rfl)) (by decide +kernel)
set_option maxRecDepth 20000 in
theorem t_1368 : (Jvm.Cond.fieldLink "MatchTreesModel" (7 : Nat) "MatchTreesModel" "tape" "[I") ∈ WT := WT_of (sub_tables_1_6 _ (List.mem_of_getElem? (i := 39) (by decide +kernel))) (by decide +kernel)
set_option maxRecDepth 20000 in
theorem t_1369 : (Jvm.Cond.fieldLink "MatchTreesModel" (13 : Nat) "MatchTreesModel" "taped" "I") ∈ WT := WT_of (sub_tables_1_6 _ (List.mem_of_getElem? (i := 40) (by decide +kernel))) (by decide +kernel)
set_option maxRecDepth 20000 in
theorem t_1370 : (Jvm.Cond.fieldLink "MatchTreesModel" (17 : Nat) "MatchTreesModel" "size" "I") ∈ WT := WT_of (sub_tables_1_6 _ (List.mem_of_getElem? (i := 41) (by decide +kernel))) (by decide +kernel)
set_option maxRecDepth 20000 in
theorem t_1371 : (Jvm.Cond.fieldLink "MatchTreesModel" (20 : Nat) "MatchTreesModel" "sign" "I") ∈ WT := WT_of (sub_tables_1_6 _ (List.mem_of_getElem? (i := 42) (by decide +kernel))) (by decide +kernel)
set_option maxRecDepth 20000 in
theorem t_1372 : (Jvm.Cond.fieldLink "MatchTreesModel" (23 : Nat) "MatchTreesModel" "signAt" "I") ∈ WT := WT_of (sub_tables_1_6 _ (List.mem_of_getElem? (i := 43) (by decide +kernel))) (by decide +kernel)
set_option maxRecDepth 20000 in
theorem t_1373 : (Jvm.Cond.fieldLink "MatchTreesModel" (26 : Nat) "MatchTreesModel" "signEnd" "I") ∈ WT := WT_of (sub_tables_1_6 _ (List.mem_of_getElem? (i := 44) (by decide +kernel))) (by decide +kernel)
set_option maxRecDepth 20000 in
theorem t_1374 : (Jvm.Cond.fieldLink "MatchTreesModel" (29 : Nat) "MatchTreesModel" "value" "I") ∈ WT := WT_of (sub_tables_1_6 _ (List.mem_of_getElem? (i := 45) (by decide +kernel))) (by decide +kernel)
set_option maxRecDepth 20000 in
theorem t_1375 : (Jvm.Cond.fieldLink "MatchTreesModel" (32 : Nat) "MatchTreesModel" "word" "J") ∈ WT := WT_of (sub_tables_1_6 _ (List.mem_of_getElem? (i := 46) (by decide +kernel))) (by decide +kernel)
set_option maxRecDepth 20000 in
theorem t_1376 : (Jvm.Cond.fieldLink "MatchTreesModel" (36 : Nat) "MatchTreesModel" "faultKind" "I") ∈ WT := WT_of (sub_tables_1_6 _ (List.mem_of_getElem? (i := 47) (by decide +kernel))) (by decide +kernel)
set_option maxRecDepth 20000 in
theorem t_1377 : (Jvm.Cond.fieldLink "MatchTreesModel" (39 : Nat) "MatchTreesModel" "faultPlace" "I") ∈ WT := WT_of (sub_tables_1_6 _ (List.mem_of_getElem? (i := 48) (by decide +kernel))) (by decide +kernel)
set_option maxRecDepth 20000 in
theorem t_1378 : (Jvm.Cond.fieldLink "MatchTreesModel" (42 : Nat) "MatchTreesModel" "toldKind" "I") ∈ WT := WT_of (sub_tables_1_6 _ (List.mem_of_getElem? (i := 49) (by decide +kernel))) (by decide +kernel)
set_option maxRecDepth 20000 in
theorem t_1379 : (Jvm.Cond.fieldLink "MatchTreesModel" (45 : Nat) "MatchTreesModel" "toldPlace" "I") ∈ WT := WT_of (sub_tables_1_6 _ (List.mem_of_getElem? (i := 50) (by decide +kernel))) (by decide +kernel)
set_option maxRecDepth 20000 in
theorem t_1380 : (Jvm.Cond.fieldLink "MatchTreesModel" (48 : Nat) "MatchTreesModel" "lexAt" "I") ∈ WT := WT_of (sub_tables_1_6 _ (List.mem_of_getElem? (i := 51) (by decide +kernel))) (by decide +kernel)
set_option maxRecDepth 20000 in
theorem t_1381 : (Jvm.Cond.fieldLink "MatchTreesModel" (51 : Nat) "MatchTreesModel" "bank" "I") ∈ WT := WT_of (sub_tables_1_6 _ (List.mem_of_getElem? (i := 52) (by decide +kernel))) (by decide +kernel)
set_option maxRecDepth 20000 in
theorem t_1382 : (Jvm.Cond.fieldLink "MatchTreesModel" (54 : Nat) "MatchTreesModel" "kindMany" "[I") ∈ WT := WT_of (sub_tables_1_6 _ (List.mem_of_getElem? (i := 53) (by decide +kernel))) (by decide +kernel)
set_option maxRecDepth 20000 in
theorem t_1383 : (Jvm.Cond.fieldLink "MatchTreesModel" (57 : Nat) "MatchTreesModel" "kindValues" "[I") ∈ WT := WT_of (sub_tables_1_6 _ (List.mem_of_getElem? (i := 54) (by decide +kernel))) (by decide +kernel)
set_option maxRecDepth 20000 in
theorem t_1384 : (Jvm.Cond.fieldLink "MatchTreesModel" (60 : Nat) "MatchTreesModel" "kindCons" "[I") ∈ WT := WT_of (sub_tables_1_6 _ (List.mem_of_getElem? (i := 55) (by decide +kernel))) (by decide +kernel)
set_option maxRecDepth 20000 in
theorem t_1385 : (Jvm.Cond.fieldLink "MatchTreesModel" (63 : Nat) "MatchTreesModel" "conMany" "[I") ∈ WT := WT_of (sub_tables_1_6 _ (List.mem_of_getElem? (i := 56) (by decide +kernel))) (by decide +kernel)
set_option maxRecDepth 20000 in
theorem t_1386 : (Jvm.Cond.fieldLink "MatchTreesModel" (66 : Nat) "MatchTreesModel" "conKind" "[I") ∈ WT := WT_of (sub_tables_1_6 _ (List.mem_of_getElem? (i := 57) (by decide +kernel))) (by decide +kernel)
set_option maxRecDepth 20000 in
theorem t_1387 : (Jvm.Cond.fieldLink "MatchTreesModel" (69 : Nat) "MatchTreesModel" "conFields" "[I") ∈ WT := WT_of (sub_tables_1_6 _ (List.mem_of_getElem? (i := 58) (by decide +kernel))) (by decide +kernel)
set_option maxRecDepth 20000 in
theorem t_1388 : (Jvm.Cond.fieldLink "MatchTreesModel" (72 : Nat) "MatchTreesModel" "conField" "[I") ∈ WT := WT_of (sub_tables_1_6 _ (List.mem_of_getElem? (i := 59) (by decide +kernel))) (by decide +kernel)
set_option maxRecDepth 20000 in
theorem t_1389 : (Jvm.Cond.fieldLink "MatchTreesModel" (75 : Nat) "MatchTreesModel" "conFrom" "[I") ∈ WT := WT_of (sub_tables_1_6 _ (List.mem_of_getElem? (i := 60) (by decide +kernel))) (by decide +kernel)
set_option maxRecDepth 20000 in
theorem t_1390 : (Jvm.Cond.fieldLink "MatchTreesModel" (78 : Nat) "MatchTreesModel" "conValues" "[I") ∈ WT := WT_of (sub_tables_1_6 _ (List.mem_of_getElem? (i := 61) (by decide +kernel))) (by decide +kernel)
set_option maxRecDepth 20000 in
theorem t_1391 : (Jvm.Cond.fieldLink "MatchTreesModel" (81 : Nat) "MatchTreesModel" "columnMany" "[I") ∈ WT := WT_of (sub_tables_1_6 _ (List.mem_of_getElem? (i := 62) (by decide +kernel))) (by decide +kernel)
set_option maxRecDepth 20000 in
theorem t_1392 : (Jvm.Cond.fieldLink "MatchTreesModel" (84 : Nat) "MatchTreesModel" "columnKind" "[I") ∈ WT := WT_of (sub_tables_1_6 _ (List.mem_of_getElem? (i := 63) (by decide +kernel))) (by decide +kernel)
set_option maxRecDepth 20000 in
theorem t_1393 : (Jvm.Cond.fieldLink "MatchTreesModel" (87 : Nat) "MatchTreesModel" "armMany" "[I") ∈ WT := WT_of (sub_tables_1_6 _ (List.mem_of_getElem? (i := 64) (by decide +kernel))) (by decide +kernel)
set_option maxRecDepth 20000 in
theorem t_1394 : (Jvm.Cond.fieldLink "MatchTreesModel" (90 : Nat) "MatchTreesModel" "armGuard" "[I") ∈ WT := WT_of (sub_tables_1_6 _ (List.mem_of_getElem? (i := 65) (by decide +kernel))) (by decide +kernel)
set_option maxRecDepth 20000 in
theorem t_1395 : (Jvm.Cond.fieldLink "MatchTreesModel" (93 : Nat) "MatchTreesModel" "ruleTold" "[I") ∈ WT := WT_of (sub_tables_1_6 _ (List.mem_of_getElem? (i := 66) (by decide +kernel))) (by decide +kernel)
set_option maxRecDepth 20000 in
theorem t_1396 : (Jvm.Cond.fieldLink "MatchTreesModel" (96 : Nat) "MatchTreesModel" "budgetTold" "[I") ∈ WT := WT_of (sub_tables_1_6 _ (List.mem_of_getElem? (i := 67) (by decide +kernel))) (by decide +kernel)
set_option maxRecDepth 20000 in
theorem t_1397 : (Jvm.Cond.fieldLink "MatchTreesModel" (99 : Nat) "MatchTreesModel" "patFrom" "[I") ∈ WT := WT_of (sub_tables_1_6 _ (List.mem_of_getElem? (i := 68) (by decide +kernel))) (by decide +kernel)
set_option maxRecDepth 20000 in
theorem t_1398 : (Jvm.Cond.fieldLink "MatchTreesModel" (102 : Nat) "MatchTreesModel" "patBehind" "[I") ∈ WT := WT_of (sub_tables_1_6 _ (List.mem_of_getElem? (i := 69) (by decide +kernel))) (by decide +kernel)
set_option maxRecDepth 20000 in
theorem t_1399 : (Jvm.Cond.fieldLink "MatchTreesModel" (105 : Nat) "MatchTreesModel" "codeOp" "[I") ∈ WT := WT_of (sub_tables_1_6 _ (List.mem_of_getElem? (i := 70) (by decide +kernel))) (by decide +kernel)
set_option maxRecDepth 20000 in
theorem t_1400 : (Jvm.Cond.fieldLink "MatchTreesModel" (108 : Nat) "MatchTreesModel" "codeA" "[I") ∈ WT := WT_of (sub_tables_1_6 _ (List.mem_of_getElem? (i := 71) (by decide +kernel))) (by decide +kernel)
set_option maxRecDepth 20000 in
theorem t_1401 : (Jvm.Cond.fieldLink "MatchTreesModel" (111 : Nat) "MatchTreesModel" "codeB" "[I") ∈ WT := WT_of (sub_tables_1_6 _ (List.mem_of_getElem? (i := 72) (by decide +kernel))) (by decide +kernel)
set_option maxRecDepth 20000 in
theorem t_1402 : (Jvm.Cond.fieldLink "MatchTreesModel" (114 : Nat) "MatchTreesModel" "kindName" "[J") ∈ WT := WT_of (sub_tables_1_6 _ (List.mem_of_getElem? (i := 73) (by decide +kernel))) (by decide +kernel)
set_option maxRecDepth 20000 in
theorem t_1403 : (Jvm.Cond.fieldLink "MatchTreesModel" (118 : Nat) "MatchTreesModel" "conName" "[J") ∈ WT := WT_of (sub_tables_1_6 _ (List.mem_of_getElem? (i := 74) (by decide +kernel))) (by decide +kernel)
set_option maxRecDepth 20000 in
theorem t_1404 : (Jvm.Cond.fieldLink "MatchTreesModel" (121 : Nat) "MatchTreesModel" "codes" "I") ∈ WT := WT_of (sub_tables_1_6 _ (List.mem_of_getElem? (i := 75) (by decide +kernel))) (by decide +kernel)
set_option maxRecDepth 20000 in
theorem t_1405 : (Jvm.Cond.fieldLink "MatchTreesModel" (124 : Nat) "MatchTreesModel" "in" "I") ∈ WT := WT_of (sub_tables_1_6 _ (List.mem_of_getElem? (i := 76) (by decide +kernel))) (by decide +kernel)
set_option maxRecDepth 20000 in
theorem t_1406 : (Jvm.Cond.fieldLink "MatchTreesModel" (127 : Nat) "MatchTreesModel" "isMatched" "Z") ∈ WT := WT_of (sub_tables_1_6 _ (List.mem_of_getElem? (i := 77) (by decide +kernel))) (by decide +kernel)
set_option maxRecDepth 20000 in
theorem t_1407 : (Jvm.Cond.fieldLink "MatchTreesModel" (131 : Nat) "MatchTreesModel" "openKind" "[I") ∈ WT := WT_of (sub_tables_1_6 _ (List.mem_of_getElem? (i := 78) (by decide +kernel))) (by decide +kernel)
set_option maxRecDepth 20000 in
theorem t_1408 : (Jvm.Cond.fieldLink "MatchTreesModel" (134 : Nat) "MatchTreesModel" "openAlts" "[I") ∈ WT := WT_of (sub_tables_1_6 _ (List.mem_of_getElem? (i := 79) (by decide +kernel))) (by decide +kernel)
set_option maxRecDepth 20000 in
theorem t_1409 : (Jvm.Cond.fieldLink "MatchTreesModel" (137 : Nat) "MatchTreesModel" "openCon" "[I") ∈ WT := WT_of (sub_tables_1_6 _ (List.mem_of_getElem? (i := 80) (by decide +kernel))) (by decide +kernel)
set_option maxRecDepth 20000 in
theorem t_1410 : (Jvm.Cond.fieldLink "MatchTreesModel" (140 : Nat) "MatchTreesModel" "openField" "[I") ∈ WT := WT_of (sub_tables_1_6 _ (List.mem_of_getElem? (i := 81) (by decide +kernel))) (by decide +kernel)
set_option maxRecDepth 20000 in
theorem t_1411 : (Jvm.Cond.fieldLink "MatchTreesModel" (143 : Nat) "MatchTreesModel" "open" "I") ∈ WT := WT_of (sub_tables_1_6 _ (List.mem_of_getElem? (i := 82) (by decide +kernel))) (by decide +kernel)
set_option maxRecDepth 20000 in
theorem t_1412 : (Jvm.Cond.fieldLink "MatchTreesModel" (146 : Nat) "MatchTreesModel" "isMatch" "Z") ∈ WT := WT_of (sub_tables_1_6 _ (List.mem_of_getElem? (i := 83) (by decide +kernel))) (by decide +kernel)
set_option maxRecDepth 20000 in
theorem t_1413 : (Jvm.Cond.fieldLink "MatchTreesModel" (149 : Nat) "MatchTreesModel" "refused" "[I") ∈ WT := WT_of (sub_tables_1_6 _ (List.mem_of_getElem? (i := 84) (by decide +kernel))) (by decide +kernel)
set_option maxRecDepth 20000 in
theorem t_1414 : (Jvm.Cond.fieldLink "MatchTreesModel" (152 : Nat) "MatchTreesModel" "gone" "[I") ∈ WT := WT_of (sub_tables_1_6 _ (List.mem_of_getElem? (i := 85) (by decide +kernel))) (by decide +kernel)
set_option maxRecDepth 20000 in
theorem t_1415 : (Jvm.Cond.fieldLink "MatchTreesModel" (155 : Nat) "MatchTreesModel" "truth" "[I") ∈ WT := WT_of (sub_tables_1_6 _ (List.mem_of_getElem? (i := 86) (by decide +kernel))) (by decide +kernel)
set_option maxRecDepth 20000 in
theorem t_1416 : (Jvm.Cond.fieldLink "MatchTreesModel" (158 : Nat) "MatchTreesModel" "setOf" "[I") ∈ WT := WT_of (sub_tables_1_6 _ (List.mem_of_getElem? (i := 87) (by decide +kernel))) (by decide +kernel)
set_option maxRecDepth 20000 in
theorem t_1417 : (Jvm.Cond.fieldLink "MatchTreesModel" (161 : Nat) "MatchTreesModel" "toldSet" "[I") ∈ WT := WT_of (sub_tables_1_6 _ (List.mem_of_getElem? (i := 88) (by decide +kernel))) (by decide +kernel)
set_option maxRecDepth 20000 in
theorem t_1418 : (Jvm.Cond.fieldLink "MatchTreesModel" (164 : Nat) "MatchTreesModel" "setMany" "[I") ∈ WT := WT_of (sub_tables_1_6 _ (List.mem_of_getElem? (i := 89) (by decide +kernel))) (by decide +kernel)
set_option maxRecDepth 20000 in
theorem t_1419 : (Jvm.Cond.fieldLink "MatchTreesModel" (167 : Nat) "MatchTreesModel" "setNumber" "[I") ∈ WT := WT_of (sub_tables_1_6 _ (List.mem_of_getElem? (i := 90) (by decide +kernel))) (by decide +kernel)
set_option maxRecDepth 20000 in
theorem t_1420 : (Jvm.Cond.fieldLink "MatchTreesModel" (170 : Nat) "MatchTreesModel" "rowMany" "I") ∈ WT := WT_of (sub_tables_1_6 _ (List.mem_of_getElem? (i := 91) (by decide +kernel))) (by decide +kernel)
set_option maxRecDepth 20000 in
theorem t_1421 : (Jvm.Cond.fieldLink "MatchTreesModel" (173 : Nat) "MatchTreesModel" "armsOf" "[I") ∈ WT := WT_of (sub_tables_1_6 _ (List.mem_of_getElem? (i := 92) (by decide +kernel))) (by decide +kernel)
set_option maxRecDepth 20000 in
theorem t_1422 : (Jvm.Cond.fieldLink "MatchTreesModel" (176 : Nat) "MatchTreesModel" "orderOf" "[I") ∈ WT := WT_of (sub_tables_1_6 _ (List.mem_of_getElem? (i := 93) (by decide +kernel))) (by decide +kernel)
set_option maxRecDepth 20000 in
theorem t_1423 : (Jvm.Cond.fieldLink "MatchTreesModel" (179 : Nat) "MatchTreesModel" "guardsOf" "[I") ∈ WT := WT_of (sub_tables_1_6 _ (List.mem_of_getElem? (i := 94) (by decide +kernel))) (by decide +kernel)
set_option maxRecDepth 20000 in
theorem t_1424 : (Jvm.Cond.fieldLink "MatchTreesModel" (182 : Nat) "MatchTreesModel" "ruleOf" "[I") ∈ WT := WT_of (sub_tables_1_6 _ (List.mem_of_getElem? (i := 95) (by decide +kernel))) (by decide +kernel)
set_option maxRecDepth 20000 in
theorem t_1425 : (Jvm.Cond.fieldLink "MatchTreesModel" (185 : Nat) "MatchTreesModel" "keptMany" "[I") ∈ WT := WT_of (sub_tables_1_6 _ (List.mem_of_getElem? (i := 96) (by decide +kernel))) (by decide +kernel)
set_option maxRecDepth 20000 in
theorem t_1426 : (Jvm.Cond.fieldLink "MatchTreesModel" (188 : Nat) "MatchTreesModel" "keptRow" "[I") ∈ WT := WT_of (sub_tables_1_6 _ (List.mem_of_getElem? (i := 97) (by decide +kernel))) (by decide +kernel)
set_option maxRecDepth 20000 in
theorem t_1427 : (Jvm.Cond.fieldLink "MatchTreesModel" (191 : Nat) "MatchTreesModel" "undoFirst" "I") ∈ WT := WT_of (sub_tables_1_6 _ (List.mem_of_getElem? (i := 98) (by decide +kernel))) (by decide +kernel)
set_option maxRecDepth 20000 in
theorem t_1428 : (Jvm.Cond.fieldLink "MatchTreesModel" (194 : Nat) "MatchTreesModel" "undos" "I") ∈ WT := WT_of (sub_tables_1_6 _ (List.mem_of_getElem? (i := 99) (by decide +kernel))) (by decide +kernel)
set_option maxRecDepth 20000 in
theorem t_1429 : (Jvm.Cond.fieldLink "MatchTreesModel" (197 : Nat) "MatchTreesModel" "seeds" "J") ∈ WT := WT_of (sub_tables_1_6 _ (List.mem_of_getElem? (i := 100) (by decide +kernel))) (by decide +kernel)
set_option maxRecDepth 20000 in
theorem t_1430 : (Jvm.Cond.fieldLink "MatchTreesModel" (200 : Nat) "MatchTreesModel" "places" "I") ∈ WT := WT_of (sub_tables_1_6 _ (List.mem_of_getElem? (i := 101) (by decide +kernel))) (by decide +kernel)
set_option maxRecDepth 20000 in
theorem t_1431 : (Jvm.Cond.fieldLink "MatchTreesModel" (203 : Nat) "MatchTreesModel" "placeSet" "[I") ∈ WT := WT_of (sub_tables_1_6 _ (List.mem_of_getElem? (i := 102) (by decide +kernel))) (by decide +kernel)
set_option maxRecDepth 20000 in
theorem t_1432 : (Jvm.Cond.fieldLink "MatchTreesModel" (206 : Nat) "MatchTreesModel" "fullIn" "[I") ∈ WT := WT_of (sub_tables_1_6 _ (List.mem_of_getElem? (i := 103) (by decide +kernel))) (by decide +kernel)
set_option maxRecDepth 20000 in
theorem t_1433 : (Jvm.Cond.fieldLink "MatchTreesModel" (209 : Nat) "MatchTreesModel" "guardAt" "[I") ∈ WT := WT_of (sub_tables_1_6 _ (List.mem_of_getElem? (i := 104) (by decide +kernel))) (by decide +kernel)
set_option maxRecDepth 20000 in
theorem t_1434 : (Jvm.Cond.fieldLink "MatchTreesModel" (212 : Nat) "MatchTreesModel" "unguarded" "I") ∈ WT := WT_of (sub_tables_1_6 _ (List.mem_of_getElem? (i := 105) (by decide +kernel))) (by decide +kernel)
set_option maxRecDepth 20000 in
theorem t_1435 : (Jvm.Cond.fieldLink "MatchTreesModel" (215 : Nat) "MatchTreesModel" "valueAt" "[I") ∈ WT := WT_of (sub_tables_1_6 _ (List.mem_of_getElem? (i := 106) (by decide +kernel))) (by decide +kernel)
set_option maxRecDepth 20000 in
theorem t_1436 : (Jvm.Cond.fieldLink "MatchTreesModel" (218 : Nat) "MatchTreesModel" "manyBy" "[I") ∈ WT := WT_of (sub_tables_1_6 _ (List.mem_of_getElem? (i := 107) (by decide +kernel))) (by decide +kernel)
set_option maxRecDepth 20000 in
theorem t_1437 : (Jvm.Cond.fieldLink "MatchTreesModel" (221 : Nat) "MatchTreesModel" "out" "[I") ∈ WT := WT_of (sub_tables_1_6 _ (List.mem_of_getElem? (i := 108) (by decide +kernel))) (by decide +kernel)
set_option maxRecDepth 20000 in
theorem t_1438 : (Jvm.Cond.fieldLink "MatchTreesModel" (224 : Nat) "MatchTreesModel" "outs" "I") ∈ WT := WT_of (sub_tables_1_6 _ (List.mem_of_getElem? (i := 109) (by decide +kernel))) (by decide +kernel)
set_option maxRecDepth 20000 in
theorem t_1439 : (Jvm.Cond.fieldLink "MatchTreesModel" (227 : Nat) "MatchTreesModel" "todoKind" "[I") ∈ WT := WT_of (sub_tables_1_6 _ (List.mem_of_getElem? (i := 110) (by decide +kernel))) (by decide +kernel)
set_option maxRecDepth 20000 in
theorem t_1440 : (Jvm.Cond.fieldLink "MatchTreesModel" (230 : Nat) "MatchTreesModel" "todo" "[I") ∈ WT := WT_of (sub_tables_1_6 _ (List.mem_of_getElem? (i := 111) (by decide +kernel))) (by decide +kernel)
set_option maxRecDepth 20000 in
theorem t_1441 : (Jvm.Cond.fieldLink "MatchTreesModel" (233 : Nat) "MatchTreesModel" "todos" "I") ∈ WT := WT_of (sub_tables_1_6 _ (List.mem_of_getElem? (i := 112) (by decide +kernel))) (by decide +kernel)
set_option maxRecDepth 20000 in
theorem t_1442 : (Jvm.Cond.fieldLink "MatchTreesModel" (236 : Nat) "MatchTreesModel" "stamp" "I") ∈ WT := WT_of (sub_tables_1_6 _ (List.mem_of_getElem? (i := 113) (by decide +kernel))) (by decide +kernel)
set_option maxRecDepth 20000 in
theorem t_1443 : (Jvm.Cond.fieldLink "MatchTreesModel" (240 : Nat) "MatchTreesModel" "chosen" "[I") ∈ WT := WT_of (sub_tables_1_6 _ (List.mem_of_getElem? (i := 114) (by decide +kernel))) (by decide +kernel)
set_option maxRecDepth 20000 in
theorem t_1444 : (Jvm.Cond.fieldLink "MatchTreesModel" (243 : Nat) "MatchTreesModel" "ruleNow" "I") ∈ WT := WT_of (sub_tables_1_6 _ (List.mem_of_getElem? (i := 115) (by decide +kernel))) (by decide +kernel)
set_option maxRecDepth 20000 in
theorem t_1445 : (Jvm.Cond.fieldLink "MatchTreesModel" (246 : Nat) "MatchTreesModel" "metBy" "[I") ∈ WT := WT_of (sub_tables_1_6 _ (List.mem_of_getElem? (i := 116) (by decide +kernel))) (by decide +kernel)
set_option maxRecDepth 20000 in
theorem t_1446 : (Jvm.Cond.fieldLink "MatchTreesModel" (249 : Nat) "MatchTreesModel" "meeting" "I") ∈ WT := WT_of (sub_tables_1_6 _ (List.mem_of_getElem? (i := 117) (by decide +kernel))) (by decide +kernel)
set_option maxRecDepth 20000 in
theorem t_1447 : (Jvm.Cond.fieldLink "MatchTreesModel" (252 : Nat) "MatchTreesModel" "reached" "[I") ∈ WT := WT_of (sub_tables_1_6 _ (List.mem_of_getElem? (i := 118) (by decide +kernel))) (by decide +kernel)
set_option maxRecDepth 20000 in
theorem t_1448 : (Jvm.Cond.fieldLink "MatchTreesModel" (255 : Nat) "MatchTreesModel" "states" "[I") ∈ WT := WT_of (sub_tables_1_6 _ (List.mem_of_getElem? (i := 119) (by decide +kernel))) (by decide +kernel)
set_option maxRecDepth 20000 in
theorem t_1449 : (Jvm.Cond.fieldLink "MatchTreesModel" (258 : Nat) "MatchTreesModel" "stateMany" "I") ∈ WT := WT_of (sub_tables_1_6 _ (List.mem_of_getElem? (i := 120) (by decide +kernel))) (by decide +kernel)
set_option maxRecDepth 20000 in
theorem t_1450 : (Jvm.Cond.fieldLink "MatchTreesModel" (261 : Nat) "MatchTreesModel" "below" "[I") ∈ WT := WT_of (sub_tables_1_6 _ (List.mem_of_getElem? (i := 121) (by decide +kernel))) (by decide +kernel)
set_option maxRecDepth 20000 in
theorem t_1451 : (Jvm.Cond.fieldLink "MatchTreesModel" (264 : Nat) "MatchTreesModel" "openLeft" "[I") ∈ WT := WT_of (sub_tables_1_6 _ (List.mem_of_getElem? (i := 122) (by decide +kernel))) (by decide +kernel)
set_option maxRecDepth 20000 in
theorem t_1452 : (Jvm.Cond.fieldLink "MatchTreesModel" (267 : Nat) "MatchTreesModel" "openNext" "[I") ∈ WT := WT_of (sub_tables_1_6 _ (List.mem_of_getElem? (i := 123) (by decide +kernel))) (by decide +kernel)
set_option maxRecDepth 20000 in
theorem t_1453 : (Jvm.Cond.fieldLink "MatchTreesModel" (270 : Nat) "MatchTreesModel" "openScope" "[I") ∈ WT := WT_of (sub_tables_1_6 _ (List.mem_of_getElem? (i := 124) (by decide +kernel))) (by decide +kernel)
set_option maxRecDepth 20000 in
theorem t_1454 : (Jvm.Cond.fieldLink "MatchTreesModel" (273 : Nat) "MatchTreesModel" "shut" "[I") ∈ WT := WT_of (sub_tables_1_6 _ (List.mem_of_getElem? (i := 125) (by decide +kernel))) (by decide +kernel)
set_option maxRecDepth 20000 in
theorem t_1455 : (Jvm.Cond.fieldLink "MatchTreesModel" (276 : Nat) "MatchTreesModel" "scopeMany" "I") ∈ WT := WT_of (sub_tables_1_6 _ (List.mem_of_getElem? (i := 126) (by decide +kernel))) (by decide +kernel)
set_option maxRecDepth 20000 in
theorem t_1456 : (Jvm.Cond.fieldLink "MatchTreesModel" (279 : Nat) "MatchTreesModel" "shutMany" "I") ∈ WT := WT_of (sub_tables_1_6 _ (List.mem_of_getElem? (i := 127) (by decide +kernel))) (by decide +kernel)
set_option maxRecDepth 20000 in
theorem t_1457 : (Jvm.Cond.fieldLink "MatchTreesModel" (282 : Nat) "MatchTreesModel" "mostOpen" "I") ∈ WT := WT_of (sub_tables_1_6 _ (List.mem_of_getElem? (i := 128) (by decide +kernel))) (by decide +kernel)
set_option maxRecDepth 20000 in
theorem t_1458 : (Jvm.Cond.fieldLink "MatchTreesModel" (285 : Nat) "MatchTreesModel" "isStopped" "Z") ∈ WT := WT_of (sub_tables_1_6 _ (List.mem_of_getElem? (i := 129) (by decide +kernel))) (by decide +kernel)
set_option maxRecDepth 20000 in
theorem t_1459 : (Jvm.Cond.fieldLink "MatchTreesModel" (288 : Nat) "MatchTreesModel" "isFair" "[I") ∈ WT := WT_of (sub_tables_1_6 _ (List.mem_of_getElem? (i := 130) (by decide +kernel))) (by decide +kernel)
set_option maxRecDepth 20000 in
theorem t_1460 : (Jvm.Cond.fieldLink "MatchTreesModel" (291 : Nat) "MatchTreesModel" "seenMany" "I") ∈ WT := WT_of (sub_tables_1_6 _ (List.mem_of_getElem? (i := 131) (by decide +kernel))) (by decide +kernel)
set_option maxRecDepth 20000 in
theorem t_1461 : (Jvm.Cond.fieldLink "MatchTreesModel" (294 : Nat) "MatchTreesModel" "seenRow" "[I") ∈ WT := WT_of (sub_tables_1_6 _ (List.mem_of_getElem? (i := 132) (by decide +kernel))) (by decide +kernel)
set_option maxRecDepth 20000 in
theorem t_1462 : (Jvm.Cond.fieldLink "MatchTreesModel" (297 : Nat) "MatchTreesModel" "seenArm" "[I") ∈ WT := WT_of (sub_tables_1_6 _ (List.mem_of_getElem? (i := 133) (by decide +kernel))) (by decide +kernel)
set_option maxRecDepth 20000 in
theorem t_1463 : (Jvm.Cond.fieldLink "MatchTreesModel" (300 : Nat) "MatchTreesModel" "isLeft" "[I") ∈ WT := WT_of (sub_tables_1_6 _ (List.mem_of_getElem? (i := 134) (by decide +kernel))) (by decide +kernel)
set_option maxRecDepth 20000 in
theorem t_1464 : (Jvm.Cond.fieldLink "MatchTreesModel" (303 : Nat) "MatchTreesModel" "openOf" "[I") ∈ WT := WT_of (sub_tables_1_6 _ (List.mem_of_getElem? (i := 135) (by decide +kernel))) (by decide +kernel)
set_option maxRecDepth 20000 in
theorem t_1465 : (Jvm.Cond.fieldLink "MatchTreesModel" (306 : Nat) "MatchTreesModel" "manyArm" "[I") ∈ WT := WT_of (sub_tables_1_6 _ (List.mem_of_getElem? (i := 136) (by decide +kernel))) (by decide +kernel)
set_option maxRecDepth 20000 in
theorem t_1466 : (Jvm.Cond.laysFinal "MatchTreesModel" "MatchTreesModel" "tape" "[I") ∈ WT := WT_of (sub_tables_1_6 _ (List.mem_of_getElem? (i := 137) (by decide +kernel))) (by decide +kernel)
set_option maxRecDepth 20000 in
theorem t_1468 : (Jvm.Cond.lays "MatchTreesModel" "MatchTreesModel" "taped" "I") ∈ WT := WT_of (sub_tables_1_6 _ (List.mem_of_getElem? (i := 139) (by decide +kernel))) (by decide +kernel)
set_option maxRecDepth 20000 in
theorem t_1470 : (Jvm.Cond.lays "MatchTreesModel" "MatchTreesModel" "size" "I") ∈ WT := WT_of (sub_tables_1_6 _ (List.mem_of_getElem? (i := 141) (by decide +kernel))) (by decide +kernel)
set_option maxRecDepth 20000 in
theorem t_1472 : (Jvm.Cond.lays "MatchTreesModel" "MatchTreesModel" "sign" "I") ∈ WT := WT_of (sub_tables_1_6 _ (List.mem_of_getElem? (i := 143) (by decide +kernel))) (by decide +kernel)
set_option maxRecDepth 20000 in
theorem t_1474 : (Jvm.Cond.lays "MatchTreesModel" "MatchTreesModel" "signAt" "I") ∈ WT := WT_of (sub_tables_1_6 _ (List.mem_of_getElem? (i := 145) (by decide +kernel))) (by decide +kernel)
set_option maxRecDepth 20000 in
theorem t_1476 : (Jvm.Cond.lays "MatchTreesModel" "MatchTreesModel" "signEnd" "I") ∈ WT := WT_of (sub_tables_1_6 _ (List.mem_of_getElem? (i := 147) (by decide +kernel))) (by decide +kernel)
set_option maxRecDepth 20000 in
theorem t_1478 : (Jvm.Cond.lays "MatchTreesModel" "MatchTreesModel" "value" "I") ∈ WT := WT_of (sub_tables_1_6 _ (List.mem_of_getElem? (i := 149) (by decide +kernel))) (by decide +kernel)
set_option maxRecDepth 20000 in
theorem t_1480 : (Jvm.Cond.lays "MatchTreesModel" "MatchTreesModel" "word" "J") ∈ WT := WT_of (sub_tables_1_6 _ (List.mem_of_getElem? (i := 151) (by decide +kernel))) (by decide +kernel)
set_option maxRecDepth 20000 in
theorem t_1482 : (Jvm.Cond.lays "MatchTreesModel" "MatchTreesModel" "faultKind" "I") ∈ WT := WT_of (sub_tables_1_6 _ (List.mem_of_getElem? (i := 153) (by decide +kernel))) (by decide +kernel)
set_option maxRecDepth 20000 in
theorem t_1484 : (Jvm.Cond.lays "MatchTreesModel" "MatchTreesModel" "faultPlace" "I") ∈ WT := WT_of (sub_tables_1_6 _ (List.mem_of_getElem? (i := 155) (by decide +kernel))) (by decide +kernel)
set_option maxRecDepth 20000 in
theorem t_1486 : (Jvm.Cond.lays "MatchTreesModel" "MatchTreesModel" "toldKind" "I") ∈ WT := WT_of (sub_tables_1_6 _ (List.mem_of_getElem? (i := 157) (by decide +kernel))) (by decide +kernel)
set_option maxRecDepth 20000 in
theorem t_1488 : (Jvm.Cond.lays "MatchTreesModel" "MatchTreesModel" "toldPlace" "I") ∈ WT := WT_of (sub_tables_1_6 _ (List.mem_of_getElem? (i := 159) (by decide +kernel))) (by decide +kernel)
set_option maxRecDepth 20000 in
theorem t_1490 : (Jvm.Cond.lays "MatchTreesModel" "MatchTreesModel" "lexAt" "I") ∈ WT := WT_of (sub_tables_1_6 _ (List.mem_of_getElem? (i := 161) (by decide +kernel))) (by decide +kernel)
set_option maxRecDepth 20000 in
theorem t_1492 : (Jvm.Cond.lays "MatchTreesModel" "MatchTreesModel" "bank" "I") ∈ WT := WT_of (sub_tables_1_6 _ (List.mem_of_getElem? (i := 163) (by decide +kernel))) (by decide +kernel)
set_option maxRecDepth 20000 in
theorem t_1494 : (Jvm.Cond.laysFinal "MatchTreesModel" "MatchTreesModel" "kindMany" "[I") ∈ WT := WT_of (sub_tables_1_6 _ (List.mem_of_getElem? (i := 165) (by decide +kernel))) (by decide +kernel)
set_option maxRecDepth 20000 in
theorem t_1496 : (Jvm.Cond.laysFinal "MatchTreesModel" "MatchTreesModel" "kindValues" "[I") ∈ WT := WT_of (sub_tables_1_6 _ (List.mem_of_getElem? (i := 167) (by decide +kernel))) (by decide +kernel)
set_option maxRecDepth 20000 in
theorem t_1498 : (Jvm.Cond.laysFinal "MatchTreesModel" "MatchTreesModel" "kindCons" "[I") ∈ WT := WT_of (sub_tables_1_6 _ (List.mem_of_getElem? (i := 169) (by decide +kernel))) (by decide +kernel)
set_option maxRecDepth 20000 in
theorem t_1500 : (Jvm.Cond.laysFinal "MatchTreesModel" "MatchTreesModel" "conMany" "[I") ∈ WT := WT_of (sub_tables_1_6 _ (List.mem_of_getElem? (i := 171) (by decide +kernel))) (by decide +kernel)
set_option maxRecDepth 20000 in
theorem t_1502 : (Jvm.Cond.laysFinal "MatchTreesModel" "MatchTreesModel" "conKind" "[I") ∈ WT := WT_of (sub_tables_1_6 _ (List.mem_of_getElem? (i := 173) (by decide +kernel))) (by decide +kernel)
set_option maxRecDepth 20000 in
theorem t_1504 : (Jvm.Cond.laysFinal "MatchTreesModel" "MatchTreesModel" "conFields" "[I") ∈ WT := WT_of (sub_tables_1_6 _ (List.mem_of_getElem? (i := 175) (by decide +kernel))) (by decide +kernel)
set_option maxRecDepth 20000 in
theorem t_1506 : (Jvm.Cond.laysFinal "MatchTreesModel" "MatchTreesModel" "conField" "[I") ∈ WT := WT_of (sub_tables_1_6 _ (List.mem_of_getElem? (i := 177) (by decide +kernel))) (by decide +kernel)
set_option maxRecDepth 20000 in
theorem t_1508 : (Jvm.Cond.laysFinal "MatchTreesModel" "MatchTreesModel" "conFrom" "[I") ∈ WT := WT_of (sub_tables_1_6 _ (List.mem_of_getElem? (i := 179) (by decide +kernel))) (by decide +kernel)
set_option maxRecDepth 20000 in
theorem t_1510 : (Jvm.Cond.laysFinal "MatchTreesModel" "MatchTreesModel" "conValues" "[I") ∈ WT := WT_of (sub_tables_1_6 _ (List.mem_of_getElem? (i := 181) (by decide +kernel))) (by decide +kernel)
set_option maxRecDepth 20000 in
theorem t_1512 : (Jvm.Cond.laysFinal "MatchTreesModel" "MatchTreesModel" "columnMany" "[I") ∈ WT := WT_of (sub_tables_1_6 _ (List.mem_of_getElem? (i := 183) (by decide +kernel))) (by decide +kernel)
set_option maxRecDepth 20000 in
theorem t_1514 : (Jvm.Cond.laysFinal "MatchTreesModel" "MatchTreesModel" "columnKind" "[I") ∈ WT := WT_of (sub_tables_1_6 _ (List.mem_of_getElem? (i := 185) (by decide +kernel))) (by decide +kernel)
set_option maxRecDepth 20000 in
theorem t_1516 : (Jvm.Cond.laysFinal "MatchTreesModel" "MatchTreesModel" "armMany" "[I") ∈ WT := WT_of (sub_tables_1_6 _ (List.mem_of_getElem? (i := 187) (by decide +kernel))) (by decide +kernel)
set_option maxRecDepth 20000 in
theorem t_1518 : (Jvm.Cond.laysFinal "MatchTreesModel" "MatchTreesModel" "armGuard" "[I") ∈ WT := WT_of (sub_tables_1_6 _ (List.mem_of_getElem? (i := 189) (by decide +kernel))) (by decide +kernel)
set_option maxRecDepth 20000 in
theorem t_1520 : (Jvm.Cond.laysFinal "MatchTreesModel" "MatchTreesModel" "ruleTold" "[I") ∈ WT := WT_of (sub_tables_1_6 _ (List.mem_of_getElem? (i := 191) (by decide +kernel))) (by decide +kernel)
set_option maxRecDepth 20000 in
theorem t_1522 : (Jvm.Cond.laysFinal "MatchTreesModel" "MatchTreesModel" "budgetTold" "[I") ∈ WT := WT_of (sub_tables_1_6 _ (List.mem_of_getElem? (i := 193) (by decide +kernel))) (by decide +kernel)
set_option maxRecDepth 20000 in
theorem t_1524 : (Jvm.Cond.laysFinal "MatchTreesModel" "MatchTreesModel" "patFrom" "[I") ∈ WT := WT_of (sub_tables_1_6 _ (List.mem_of_getElem? (i := 195) (by decide +kernel))) (by decide +kernel)
set_option maxRecDepth 20000 in
theorem t_1526 : (Jvm.Cond.laysFinal "MatchTreesModel" "MatchTreesModel" "patBehind" "[I") ∈ WT := WT_of (sub_tables_1_6 _ (List.mem_of_getElem? (i := 197) (by decide +kernel))) (by decide +kernel)
set_option maxRecDepth 20000 in
theorem t_1528 : (Jvm.Cond.laysFinal "MatchTreesModel" "MatchTreesModel" "codeOp" "[I") ∈ WT := WT_of (sub_tables_1_6 _ (List.mem_of_getElem? (i := 199) (by decide +kernel))) (by decide +kernel)
set_option maxRecDepth 20000 in
theorem t_1530 : (Jvm.Cond.laysFinal "MatchTreesModel" "MatchTreesModel" "codeA" "[I") ∈ WT := WT_of (sub_tables_1_6 _ (List.mem_of_getElem? (i := 201) (by decide +kernel))) (by decide +kernel)
set_option maxRecDepth 20000 in
theorem t_1532 : (Jvm.Cond.laysFinal "MatchTreesModel" "MatchTreesModel" "codeB" "[I") ∈ WT := WT_of (sub_tables_1_6 _ (List.mem_of_getElem? (i := 203) (by decide +kernel))) (by decide +kernel)
set_option maxRecDepth 20000 in
theorem t_1534 : (Jvm.Cond.laysFinal "MatchTreesModel" "MatchTreesModel" "kindName" "[J") ∈ WT := WT_of (sub_tables_1_6 _ (List.mem_of_getElem? (i := 205) (by decide +kernel))) (by decide +kernel)
set_option maxRecDepth 20000 in
theorem t_1536 : (Jvm.Cond.laysFinal "MatchTreesModel" "MatchTreesModel" "conName" "[J") ∈ WT := WT_of (sub_tables_1_6 _ (List.mem_of_getElem? (i := 207) (by decide +kernel))) (by decide +kernel)
set_option maxRecDepth 20000 in
theorem t_1538 : (Jvm.Cond.lays "MatchTreesModel" "MatchTreesModel" "codes" "I") ∈ WT := WT_of (sub_tables_1_6 _ (List.mem_of_getElem? (i := 209) (by decide +kernel))) (by decide +kernel)
set_option maxRecDepth 20000 in
theorem t_1540 : (Jvm.Cond.lays "MatchTreesModel" "MatchTreesModel" "in" "I") ∈ WT := WT_of (sub_tables_1_6 _ (List.mem_of_getElem? (i := 211) (by decide +kernel))) (by decide +kernel)
set_option maxRecDepth 20000 in
theorem t_1542 : (Jvm.Cond.lays "MatchTreesModel" "MatchTreesModel" "isMatched" "Z") ∈ WT := WT_of (sub_tables_1_6 _ (List.mem_of_getElem? (i := 213) (by decide +kernel))) (by decide +kernel)
set_option maxRecDepth 20000 in
theorem t_1544 : (Jvm.Cond.laysFinal "MatchTreesModel" "MatchTreesModel" "openKind" "[I") ∈ WT := WT_of (sub_tables_1_6 _ (List.mem_of_getElem? (i := 215) (by decide +kernel))) (by decide +kernel)
set_option maxRecDepth 20000 in
theorem t_1546 : (Jvm.Cond.laysFinal "MatchTreesModel" "MatchTreesModel" "openAlts" "[I") ∈ WT := WT_of (sub_tables_1_6 _ (List.mem_of_getElem? (i := 217) (by decide +kernel))) (by decide +kernel)
set_option maxRecDepth 20000 in
theorem t_1548 : (Jvm.Cond.laysFinal "MatchTreesModel" "MatchTreesModel" "openCon" "[I") ∈ WT := WT_of (sub_tables_1_6 _ (List.mem_of_getElem? (i := 219) (by decide +kernel))) (by decide +kernel)
set_option maxRecDepth 20000 in
theorem t_1550 : (Jvm.Cond.laysFinal "MatchTreesModel" "MatchTreesModel" "openField" "[I") ∈ WT := WT_of (sub_tables_1_6 _ (List.mem_of_getElem? (i := 221) (by decide +kernel))) (by decide +kernel)
set_option maxRecDepth 20000 in
theorem t_1552 : (Jvm.Cond.lays "MatchTreesModel" "MatchTreesModel" "open" "I") ∈ WT := WT_of (sub_tables_1_6 _ (List.mem_of_getElem? (i := 223) (by decide +kernel))) (by decide +kernel)
set_option maxRecDepth 20000 in
theorem t_1554 : (Jvm.Cond.lays "MatchTreesModel" "MatchTreesModel" "isMatch" "Z") ∈ WT := WT_of (sub_tables_1_6 _ (List.mem_of_getElem? (i := 225) (by decide +kernel))) (by decide +kernel)
set_option maxRecDepth 20000 in
theorem t_1556 : (Jvm.Cond.laysFinal "MatchTreesModel" "MatchTreesModel" "refused" "[I") ∈ WT := WT_of (sub_tables_1_6 _ (List.mem_of_getElem? (i := 227) (by decide +kernel))) (by decide +kernel)
set_option maxRecDepth 20000 in
theorem t_1558 : (Jvm.Cond.laysFinal "MatchTreesModel" "MatchTreesModel" "gone" "[I") ∈ WT := WT_of (sub_tables_1_6 _ (List.mem_of_getElem? (i := 229) (by decide +kernel))) (by decide +kernel)
set_option maxRecDepth 20000 in
theorem t_1560 : (Jvm.Cond.laysFinal "MatchTreesModel" "MatchTreesModel" "truth" "[I") ∈ WT := WT_of (sub_tables_1_6 _ (List.mem_of_getElem? (i := 231) (by decide +kernel))) (by decide +kernel)
set_option maxRecDepth 20000 in
theorem t_1562 : (Jvm.Cond.laysFinal "MatchTreesModel" "MatchTreesModel" "setOf" "[I") ∈ WT := WT_of (sub_tables_1_6 _ (List.mem_of_getElem? (i := 233) (by decide +kernel))) (by decide +kernel)
set_option maxRecDepth 20000 in
theorem t_1564 : (Jvm.Cond.laysFinal "MatchTreesModel" "MatchTreesModel" "toldSet" "[I") ∈ WT := WT_of (sub_tables_1_6 _ (List.mem_of_getElem? (i := 235) (by decide +kernel))) (by decide +kernel)
set_option maxRecDepth 20000 in
theorem t_1566 : (Jvm.Cond.laysFinal "MatchTreesModel" "MatchTreesModel" "setMany" "[I") ∈ WT := WT_of (sub_tables_1_6 _ (List.mem_of_getElem? (i := 237) (by decide +kernel))) (by decide +kernel)
set_option maxRecDepth 20000 in
theorem t_1568 : (Jvm.Cond.laysFinal "MatchTreesModel" "MatchTreesModel" "setNumber" "[I") ∈ WT := WT_of (sub_tables_1_6 _ (List.mem_of_getElem? (i := 239) (by decide +kernel))) (by decide +kernel)
set_option maxRecDepth 20000 in
theorem t_1570 : (Jvm.Cond.lays "MatchTreesModel" "MatchTreesModel" "rowMany" "I") ∈ WT := WT_of (sub_tables_1_7 _ (List.mem_of_getElem? (i := 1) (by decide +kernel))) (by decide +kernel)
set_option maxRecDepth 20000 in
theorem t_1572 : (Jvm.Cond.laysFinal "MatchTreesModel" "MatchTreesModel" "armsOf" "[I") ∈ WT := WT_of (sub_tables_1_7 _ (List.mem_of_getElem? (i := 3) (by decide +kernel))) (by decide +kernel)
set_option maxRecDepth 20000 in
theorem t_1574 : (Jvm.Cond.laysFinal "MatchTreesModel" "MatchTreesModel" "orderOf" "[I") ∈ WT := WT_of (sub_tables_1_7 _ (List.mem_of_getElem? (i := 5) (by decide +kernel))) (by decide +kernel)
set_option maxRecDepth 20000 in
theorem t_1576 : (Jvm.Cond.laysFinal "MatchTreesModel" "MatchTreesModel" "guardsOf" "[I") ∈ WT := WT_of (sub_tables_1_7 _ (List.mem_of_getElem? (i := 7) (by decide +kernel))) (by decide +kernel)
set_option maxRecDepth 20000 in
theorem t_1578 : (Jvm.Cond.laysFinal "MatchTreesModel" "MatchTreesModel" "ruleOf" "[I") ∈ WT := WT_of (sub_tables_1_7 _ (List.mem_of_getElem? (i := 9) (by decide +kernel))) (by decide +kernel)
set_option maxRecDepth 20000 in
theorem t_1580 : (Jvm.Cond.laysFinal "MatchTreesModel" "MatchTreesModel" "keptMany" "[I") ∈ WT := WT_of (sub_tables_1_7 _ (List.mem_of_getElem? (i := 11) (by decide +kernel))) (by decide +kernel)
set_option maxRecDepth 20000 in
theorem t_1582 : (Jvm.Cond.laysFinal "MatchTreesModel" "MatchTreesModel" "keptRow" "[I") ∈ WT := WT_of (sub_tables_1_7 _ (List.mem_of_getElem? (i := 13) (by decide +kernel))) (by decide +kernel)
set_option maxRecDepth 20000 in
theorem t_1584 : (Jvm.Cond.lays "MatchTreesModel" "MatchTreesModel" "undoFirst" "I") ∈ WT := WT_of (sub_tables_1_7 _ (List.mem_of_getElem? (i := 15) (by decide +kernel))) (by decide +kernel)
set_option maxRecDepth 20000 in
theorem t_1586 : (Jvm.Cond.lays "MatchTreesModel" "MatchTreesModel" "undos" "I") ∈ WT := WT_of (sub_tables_1_7 _ (List.mem_of_getElem? (i := 17) (by decide +kernel))) (by decide +kernel)
set_option maxRecDepth 20000 in
theorem t_1588 : (Jvm.Cond.lays "MatchTreesModel" "MatchTreesModel" "seeds" "J") ∈ WT := WT_of (sub_tables_1_7 _ (List.mem_of_getElem? (i := 19) (by decide +kernel))) (by decide +kernel)
set_option maxRecDepth 20000 in
theorem t_1590 : (Jvm.Cond.lays "MatchTreesModel" "MatchTreesModel" "places" "I") ∈ WT := WT_of (sub_tables_1_7 _ (List.mem_of_getElem? (i := 21) (by decide +kernel))) (by decide +kernel)
set_option maxRecDepth 20000 in
theorem t_1592 : (Jvm.Cond.laysFinal "MatchTreesModel" "MatchTreesModel" "placeSet" "[I") ∈ WT := WT_of (sub_tables_1_7 _ (List.mem_of_getElem? (i := 23) (by decide +kernel))) (by decide +kernel)
set_option maxRecDepth 20000 in
theorem t_1594 : (Jvm.Cond.laysFinal "MatchTreesModel" "MatchTreesModel" "fullIn" "[I") ∈ WT := WT_of (sub_tables_1_7 _ (List.mem_of_getElem? (i := 25) (by decide +kernel))) (by decide +kernel)
set_option maxRecDepth 20000 in
theorem t_1596 : (Jvm.Cond.laysFinal "MatchTreesModel" "MatchTreesModel" "guardAt" "[I") ∈ WT := WT_of (sub_tables_1_7 _ (List.mem_of_getElem? (i := 27) (by decide +kernel))) (by decide +kernel)
set_option maxRecDepth 20000 in
theorem t_1598 : (Jvm.Cond.lays "MatchTreesModel" "MatchTreesModel" "unguarded" "I") ∈ WT := WT_of (sub_tables_1_7 _ (List.mem_of_getElem? (i := 29) (by decide +kernel))) (by decide +kernel)
set_option maxRecDepth 20000 in
theorem t_1600 : (Jvm.Cond.laysFinal "MatchTreesModel" "MatchTreesModel" "valueAt" "[I") ∈ WT := WT_of (sub_tables_1_7 _ (List.mem_of_getElem? (i := 31) (by decide +kernel))) (by decide +kernel)
set_option maxRecDepth 20000 in
theorem t_1602 : (Jvm.Cond.laysFinal "MatchTreesModel" "MatchTreesModel" "manyBy" "[I") ∈ WT := WT_of (sub_tables_1_7 _ (List.mem_of_getElem? (i := 33) (by decide +kernel))) (by decide +kernel)
set_option maxRecDepth 20000 in
theorem t_1604 : (Jvm.Cond.laysFinal "MatchTreesModel" "MatchTreesModel" "out" "[I") ∈ WT := WT_of (sub_tables_1_7 _ (List.mem_of_getElem? (i := 35) (by decide +kernel))) (by decide +kernel)
set_option maxRecDepth 20000 in
theorem t_1606 : (Jvm.Cond.lays "MatchTreesModel" "MatchTreesModel" "outs" "I") ∈ WT := WT_of (sub_tables_1_7 _ (List.mem_of_getElem? (i := 37) (by decide +kernel))) (by decide +kernel)
set_option maxRecDepth 20000 in
theorem t_1608 : (Jvm.Cond.laysFinal "MatchTreesModel" "MatchTreesModel" "todoKind" "[I") ∈ WT := WT_of (sub_tables_1_7 _ (List.mem_of_getElem? (i := 39) (by decide +kernel))) (by decide +kernel)
set_option maxRecDepth 20000 in
theorem t_1610 : (Jvm.Cond.laysFinal "MatchTreesModel" "MatchTreesModel" "todo" "[I") ∈ WT := WT_of (sub_tables_1_7 _ (List.mem_of_getElem? (i := 41) (by decide +kernel))) (by decide +kernel)
set_option maxRecDepth 20000 in
theorem t_1612 : (Jvm.Cond.lays "MatchTreesModel" "MatchTreesModel" "todos" "I") ∈ WT := WT_of (sub_tables_1_7 _ (List.mem_of_getElem? (i := 43) (by decide +kernel))) (by decide +kernel)
set_option maxRecDepth 20000 in
theorem t_1614 : (Jvm.Cond.lays "MatchTreesModel" "MatchTreesModel" "stamp" "I") ∈ WT := WT_of (sub_tables_1_7 _ (List.mem_of_getElem? (i := 45) (by decide +kernel))) (by decide +kernel)
set_option maxRecDepth 20000 in
theorem t_1616 : (Jvm.Cond.laysFinal "MatchTreesModel" "MatchTreesModel" "chosen" "[I") ∈ WT := WT_of (sub_tables_1_7 _ (List.mem_of_getElem? (i := 47) (by decide +kernel))) (by decide +kernel)
set_option maxRecDepth 20000 in
theorem t_1618 : (Jvm.Cond.lays "MatchTreesModel" "MatchTreesModel" "ruleNow" "I") ∈ WT := WT_of (sub_tables_1_7 _ (List.mem_of_getElem? (i := 49) (by decide +kernel))) (by decide +kernel)
set_option maxRecDepth 20000 in
theorem t_1620 : (Jvm.Cond.laysFinal "MatchTreesModel" "MatchTreesModel" "metBy" "[I") ∈ WT := WT_of (sub_tables_1_7 _ (List.mem_of_getElem? (i := 51) (by decide +kernel))) (by decide +kernel)
set_option maxRecDepth 20000 in
theorem t_1622 : (Jvm.Cond.lays "MatchTreesModel" "MatchTreesModel" "meeting" "I") ∈ WT := WT_of (sub_tables_1_7 _ (List.mem_of_getElem? (i := 53) (by decide +kernel))) (by decide +kernel)
set_option maxRecDepth 20000 in
theorem t_1624 : (Jvm.Cond.laysFinal "MatchTreesModel" "MatchTreesModel" "reached" "[I") ∈ WT := WT_of (sub_tables_1_7 _ (List.mem_of_getElem? (i := 55) (by decide +kernel))) (by decide +kernel)
set_option maxRecDepth 20000 in
theorem t_1626 : (Jvm.Cond.laysFinal "MatchTreesModel" "MatchTreesModel" "states" "[I") ∈ WT := WT_of (sub_tables_1_7 _ (List.mem_of_getElem? (i := 57) (by decide +kernel))) (by decide +kernel)
set_option maxRecDepth 20000 in
theorem t_1628 : (Jvm.Cond.lays "MatchTreesModel" "MatchTreesModel" "stateMany" "I") ∈ WT := WT_of (sub_tables_1_7 _ (List.mem_of_getElem? (i := 59) (by decide +kernel))) (by decide +kernel)
set_option maxRecDepth 20000 in
theorem t_1630 : (Jvm.Cond.laysFinal "MatchTreesModel" "MatchTreesModel" "below" "[I") ∈ WT := WT_of (sub_tables_1_7 _ (List.mem_of_getElem? (i := 61) (by decide +kernel))) (by decide +kernel)
set_option maxRecDepth 20000 in
theorem t_1632 : (Jvm.Cond.laysFinal "MatchTreesModel" "MatchTreesModel" "openLeft" "[I") ∈ WT := WT_of (sub_tables_1_7 _ (List.mem_of_getElem? (i := 63) (by decide +kernel))) (by decide +kernel)
set_option maxRecDepth 20000 in
theorem t_1634 : (Jvm.Cond.laysFinal "MatchTreesModel" "MatchTreesModel" "openNext" "[I") ∈ WT := WT_of (sub_tables_1_7 _ (List.mem_of_getElem? (i := 65) (by decide +kernel))) (by decide +kernel)
set_option maxRecDepth 20000 in
theorem t_1636 : (Jvm.Cond.laysFinal "MatchTreesModel" "MatchTreesModel" "openScope" "[I") ∈ WT := WT_of (sub_tables_1_7 _ (List.mem_of_getElem? (i := 67) (by decide +kernel))) (by decide +kernel)
set_option maxRecDepth 20000 in
theorem t_1638 : (Jvm.Cond.laysFinal "MatchTreesModel" "MatchTreesModel" "shut" "[I") ∈ WT := WT_of (sub_tables_1_7 _ (List.mem_of_getElem? (i := 69) (by decide +kernel))) (by decide +kernel)
set_option maxRecDepth 20000 in
theorem t_1640 : (Jvm.Cond.lays "MatchTreesModel" "MatchTreesModel" "scopeMany" "I") ∈ WT := WT_of (sub_tables_1_7 _ (List.mem_of_getElem? (i := 71) (by decide +kernel))) (by decide +kernel)
set_option maxRecDepth 20000 in
theorem t_1642 : (Jvm.Cond.lays "MatchTreesModel" "MatchTreesModel" "shutMany" "I") ∈ WT := WT_of (sub_tables_1_7 _ (List.mem_of_getElem? (i := 73) (by decide +kernel))) (by decide +kernel)
set_option maxRecDepth 20000 in
theorem t_1644 : (Jvm.Cond.lays "MatchTreesModel" "MatchTreesModel" "mostOpen" "I") ∈ WT := WT_of (sub_tables_1_7 _ (List.mem_of_getElem? (i := 75) (by decide +kernel))) (by decide +kernel)
set_option maxRecDepth 20000 in
theorem t_1646 : (Jvm.Cond.lays "MatchTreesModel" "MatchTreesModel" "isStopped" "Z") ∈ WT := WT_of (sub_tables_1_7 _ (List.mem_of_getElem? (i := 77) (by decide +kernel))) (by decide +kernel)
set_option maxRecDepth 20000 in
theorem t_1648 : (Jvm.Cond.laysFinal "MatchTreesModel" "MatchTreesModel" "isFair" "[I") ∈ WT := WT_of (sub_tables_1_7 _ (List.mem_of_getElem? (i := 79) (by decide +kernel))) (by decide +kernel)
set_option maxRecDepth 20000 in
theorem t_1650 : (Jvm.Cond.lays "MatchTreesModel" "MatchTreesModel" "seenMany" "I") ∈ WT := WT_of (sub_tables_1_7 _ (List.mem_of_getElem? (i := 81) (by decide +kernel))) (by decide +kernel)
set_option maxRecDepth 20000 in
theorem t_1652 : (Jvm.Cond.laysFinal "MatchTreesModel" "MatchTreesModel" "seenRow" "[I") ∈ WT := WT_of (sub_tables_1_7 _ (List.mem_of_getElem? (i := 83) (by decide +kernel))) (by decide +kernel)
set_option maxRecDepth 20000 in
theorem t_1654 : (Jvm.Cond.laysFinal "MatchTreesModel" "MatchTreesModel" "seenArm" "[I") ∈ WT := WT_of (sub_tables_1_7 _ (List.mem_of_getElem? (i := 85) (by decide +kernel))) (by decide +kernel)
set_option maxRecDepth 20000 in
theorem t_1656 : (Jvm.Cond.laysFinal "MatchTreesModel" "MatchTreesModel" "isLeft" "[I") ∈ WT := WT_of (sub_tables_1_7 _ (List.mem_of_getElem? (i := 87) (by decide +kernel))) (by decide +kernel)
set_option maxRecDepth 20000 in
theorem t_1658 : (Jvm.Cond.laysFinal "MatchTreesModel" "MatchTreesModel" "openOf" "[I") ∈ WT := WT_of (sub_tables_1_7 _ (List.mem_of_getElem? (i := 89) (by decide +kernel))) (by decide +kernel)
set_option maxRecDepth 20000 in
theorem t_1660 : (Jvm.Cond.laysFinal "MatchTreesModel" "MatchTreesModel" "manyArm" "[I") ∈ WT := WT_of (sub_tables_1_7 _ (List.mem_of_getElem? (i := 91) (by decide +kernel))) (by decide +kernel)
set_option maxRecDepth 20000 in
theorem t_1663 : (Jvm.Cond.methodLink "MatchTreesLaw" (17 : Nat) ({ cls := "MatchTreesModel", name := "feed", desc := "(IIIII)I" } : Jvm.MethodName)) ∈ WT := WT_of (sub_tables_1_7 _ (List.mem_of_getElem? (i := 94) (by decide +kernel))) (by decide +kernel)
set_option maxRecDepth 20000 in
theorem t_1664 : (Jvm.Cond.instanceMethod ({ cls := "MatchTreesModel", name := "feed", desc := "(IIIII)I" } : Jvm.MethodName)) ∈ WT := WT_of (sub_tables_1_7 _ (List.mem_of_getElem? (i := 95) (by decide +kernel))) (by decide +kernel)
set_option maxRecDepth 20000 in
theorem t_1665 : (Jvm.Cond.selects "MatchTreesModel" ({ cls := "MatchTreesModel", name := "feed", desc := "(IIIII)I" } : Jvm.MethodName) ({ cls := "MatchTreesModel", name := "feed", desc := "(IIIII)I" } : Jvm.MethodName)) ∈ WT := WT_of (sub_tables_1_7 _ (List.mem_of_getElem? (i := 96) (by decide +kernel))) (by decide +kernel)
set_option maxRecDepth 20000 in
theorem t_1666 : (Jvm.Cond.code ({ cls := "MatchTreesModel", name := "feed", desc := "(IIIII)I" } : Jvm.MethodName) prog_14_method_4_code (6 : Nat) (Option.some Jvm.ClassFile.FieldType.int)) ∈ WT := WT_of (sub_tables_1_7 _ (List.mem_of_getElem? (i := 97) rfl)) (by decide +kernel)
set_option maxRecDepth 20000 in
theorem t_1667 : (Jvm.Cond.methodLink "MatchTreesModel" (312 : Nat) ({ cls := "MatchTreesModel", name := "refuses", desc := "(I)I" } : Jvm.MethodName)) ∈ WT := WT_of (sub_tables_1_7 _ (List.mem_of_getElem? (i := 98) (by decide +kernel))) (by decide +kernel)
set_option maxRecDepth 20000 in
theorem t_1669 : (Jvm.Cond.instanceMethod ({ cls := "MatchTreesModel", name := "refuses", desc := "(I)I" } : Jvm.MethodName)) ∈ WT := WT_of (sub_tables_1_7 _ (List.mem_of_getElem? (i := 100) (by decide +kernel))) (by decide +kernel)
set_option maxRecDepth 20000 in
theorem t_1670 : (Jvm.Cond.code ({ cls := "MatchTreesModel", name := "refuses", desc := "(I)I" } : Jvm.MethodName) prog_14_method_40_code (2 : Nat) (Option.some Jvm.ClassFile.FieldType.int)) ∈ WT := WT_of (sub_tables_1_7 _ (List.mem_of_getElem? (i := 101) rfl)) (by decide +kernel)
set_option maxRecDepth 20000 in
theorem t_1671 : (Jvm.Cond.methodLink "MatchTreesModel" (316 : Nat) ({ cls := "MatchTreesModel", name := "put", desc := "(I)V" } : Jvm.MethodName)) ∈ WT := WT_of (sub_tables_1_7 _ (List.mem_of_getElem? (i := 102) (by decide +kernel))) (by decide +kernel)
set_option maxRecDepth 20000 in
theorem t_1673 : (Jvm.Cond.instanceMethod ({ cls := "MatchTreesModel", name := "put", desc := "(I)V" } : Jvm.MethodName)) ∈ WT := WT_of (sub_tables_1_7 _ (List.mem_of_getElem? (i := 104) (by decide +kernel))) (by decide +kernel)
set_option maxRecDepth 20000 in
theorem t_1674 : (Jvm.Cond.code ({ cls := "MatchTreesModel", name := "put", desc := "(I)V" } : Jvm.MethodName) prog_14_method_3_code (3 : Nat) (Option.none : Option Jvm.ClassFile.FieldType)) ∈ WT := WT_of (sub_tables_1_7 _ (List.mem_of_getElem? (i := 105) rfl)) (by decide +kernel)
set_option maxRecDepth 20000 in
theorem t_1675 : (Jvm.Cond.methodLink "MatchTreesLaw" (22 : Nat) ({ cls := "MatchTreesModel", name := "end", desc := "(I)Z" } : Jvm.MethodName)) ∈ WT := WT_of (sub_tables_1_7 _ (List.mem_of_getElem? (i := 106) (by decide +kernel))) (by decide +kernel)
set_option maxRecDepth 20000 in
theorem t_1676 : (Jvm.Cond.instanceMethod ({ cls := "MatchTreesModel", name := "end", desc := "(I)Z" } : Jvm.MethodName)) ∈ WT := WT_of (sub_tables_1_7 _ (List.mem_of_getElem? (i := 107) (by decide +kernel))) (by decide +kernel)
set_option maxRecDepth 20000 in
theorem t_1677 : (Jvm.Cond.selects "MatchTreesModel" ({ cls := "MatchTreesModel", name := "end", desc := "(I)Z" } : Jvm.MethodName) ({ cls := "MatchTreesModel", name := "end", desc := "(I)Z" } : Jvm.MethodName)) ∈ WT := WT_of (sub_tables_1_7 _ (List.mem_of_getElem? (i := 108) (by decide +kernel))) (by decide +kernel)
set_option maxRecDepth 20000 in
theorem t_1678 : (Jvm.Cond.code ({ cls := "MatchTreesModel", name := "end", desc := "(I)Z" } : Jvm.MethodName) prog_14_method_5_code (2 : Nat) (Option.some Jvm.ClassFile.FieldType.boolean)) ∈ WT := WT_of (sub_tables_1_7 _ (List.mem_of_getElem? (i := 109) rfl)) (by decide +kernel)
set_option maxRecDepth 20000 in
theorem t_1679 : (Jvm.Cond.methodLink "MatchTreesLaw" (27 : Nat) ({ cls := "MatchTreesModel", name := "match", desc := "()I" } : Jvm.MethodName)) ∈ WT := WT_of (sub_tables_1_7 _ (List.mem_of_getElem? (i := 110) (by decide +kernel))) (by decide +kernel)
set_option maxRecDepth 20000 in
theorem t_1680 : (Jvm.Cond.instanceMethod ({ cls := "MatchTreesModel", name := "match", desc := "()I" } : Jvm.MethodName)) ∈ WT := WT_of (sub_tables_1_7 _ (List.mem_of_getElem? (i := 111) (by decide +kernel))) (by decide +kernel)
set_option maxRecDepth 20000 in
theorem t_1681 : (Jvm.Cond.selects "MatchTreesModel" ({ cls := "MatchTreesModel", name := "match", desc := "()I" } : Jvm.MethodName) ({ cls := "MatchTreesModel", name := "match", desc := "()I" } : Jvm.MethodName)) ∈ WT := WT_of (sub_tables_1_7 _ (List.mem_of_getElem? (i := 112) (by decide +kernel))) (by decide +kernel)
set_option maxRecDepth 20000 in
theorem t_1682 : (Jvm.Cond.code ({ cls := "MatchTreesModel", name := "match", desc := "()I" } : Jvm.MethodName) prog_14_method_38_code (2 : Nat) (Option.some Jvm.ClassFile.FieldType.int)) ∈ WT := WT_of (sub_tables_1_7 _ (List.mem_of_getElem? (i := 113) rfl)) (by decide +kernel)
set_option maxRecDepth 20000 in
theorem t_1683 : (Jvm.Cond.methodLink "MatchTreesModel" (337 : Nat) ({ cls := "MatchTreesModel", name := "ahead", desc := "()V" } : Jvm.MethodName)) ∈ WT := WT_of (sub_tables_1_7 _ (List.mem_of_getElem? (i := 114) (by decide +kernel))) (by decide +kernel)
set_option maxRecDepth 20000 in
theorem t_1685 : (Jvm.Cond.instanceMethod ({ cls := "MatchTreesModel", name := "ahead", desc := "()V" } : Jvm.MethodName)) ∈ WT := WT_of (sub_tables_1_7 _ (List.mem_of_getElem? (i := 116) (by decide +kernel))) (by decide +kernel)
set_option maxRecDepth 20000 in
theorem t_1686 : (Jvm.Cond.code ({ cls := "MatchTreesModel", name := "ahead", desc := "()V" } : Jvm.MethodName) prog_14_method_10_code (6 : Nat) (Option.none : Option Jvm.ClassFile.FieldType)) ∈ WT := WT_of (sub_tables_1_7 _ (List.mem_of_getElem? (i := 117) rfl)) (by decide +kernel)
set_option maxRecDepth 20000 in
theorem t_1687 : (Jvm.Cond.methodLink "MatchTreesModel" (324 : Nat) ({ cls := "MatchTreesModel", name := "isLetter", desc := "(I)Z" } : Jvm.MethodName)) ∈ WT := WT_of (sub_tables_1_7 _ (List.mem_of_getElem? (i := 118) (by decide +kernel))) (by decide +kernel)
set_option maxRecDepth 20000 in
theorem t_1688 : (Jvm.Cond.static ({ cls := "MatchTreesModel", name := "isLetter", desc := "(I)Z" } : Jvm.MethodName)) ∈ WT := WT_of (sub_tables_1_7 _ (List.mem_of_getElem? (i := 119) (by decide +kernel))) (by decide +kernel)
set_option maxRecDepth 20000 in
theorem t_1689 : (Jvm.Cond.code ({ cls := "MatchTreesModel", name := "isLetter", desc := "(I)Z" } : Jvm.MethodName) prog_14_method_7_code (1 : Nat) (Option.some Jvm.ClassFile.FieldType.boolean)) ∈ WT := WT_of (sub_tables_1_7 _ (List.mem_of_getElem? (i := 120) rfl)) (by decide +kernel)
set_option maxRecDepth 20000 in
theorem t_1690 : (Jvm.Cond.methodLink "MatchTreesModel" (328 : Nat) ({ cls := "MatchTreesModel", name := "isDigit", desc := "(I)Z" } : Jvm.MethodName)) ∈ WT := WT_of (sub_tables_1_7 _ (List.mem_of_getElem? (i := 121) (by decide +kernel))) (by decide +kernel)
set_option maxRecDepth 20000 in
theorem t_1691 : (Jvm.Cond.static ({ cls := "MatchTreesModel", name := "isDigit", desc := "(I)Z" } : Jvm.MethodName)) ∈ WT := WT_of (sub_tables_1_7 _ (List.mem_of_getElem? (i := 122) (by decide +kernel))) (by decide +kernel)
set_option maxRecDepth 20000 in
theorem t_1692 : (Jvm.Cond.code ({ cls := "MatchTreesModel", name := "isDigit", desc := "(I)Z" } : Jvm.MethodName) prog_14_method_8_code (1 : Nat) (Option.some Jvm.ClassFile.FieldType.boolean)) ∈ WT := WT_of (sub_tables_1_7 _ (List.mem_of_getElem? (i := 123) rfl)) (by decide +kernel)
set_option maxRecDepth 20000 in
theorem t_1693 : (Jvm.Cond.methodLink "MatchTreesModel" (446 : Nat) ({ cls := "MatchTreesModel", name := "statement", desc := "()V" } : Jvm.MethodName)) ∈ WT := WT_of (sub_tables_1_7 _ (List.mem_of_getElem? (i := 124) (by decide +kernel))) (by decide +kernel)
set_option maxRecDepth 20000 in
theorem t_1695 : (Jvm.Cond.instanceMethod ({ cls := "MatchTreesModel", name := "statement", desc := "()V" } : Jvm.MethodName)) ∈ WT := WT_of (sub_tables_1_7 _ (List.mem_of_getElem? (i := 126) (by decide +kernel))) (by decide +kernel)
set_option maxRecDepth 20000 in
theorem t_1696 : (Jvm.Cond.code ({ cls := "MatchTreesModel", name := "statement", desc := "()V" } : Jvm.MethodName) prog_14_method_36_code (1 : Nat) (Option.none : Option Jvm.ClassFile.FieldType)) ∈ WT := WT_of (sub_tables_1_7 _ (List.mem_of_getElem? (i := 127) rfl)) (by decide +kernel)
set_option maxRecDepth 20000 in
theorem t_1697 : (Jvm.Cond.methodLink "MatchTreesModel" (331 : Nat) ({ cls := "MatchTreesModel", name := "lex", desc := "()V" } : Jvm.MethodName)) ∈ WT := WT_of (sub_tables_1_7 _ (List.mem_of_getElem? (i := 128) (by decide +kernel))) (by decide +kernel)
set_option maxRecDepth 20000 in
theorem t_1699 : (Jvm.Cond.instanceMethod ({ cls := "MatchTreesModel", name := "lex", desc := "()V" } : Jvm.MethodName)) ∈ WT := WT_of (sub_tables_1_7 _ (List.mem_of_getElem? (i := 130) (by decide +kernel))) (by decide +kernel)
set_option maxRecDepth 20000 in
theorem t_1700 : (Jvm.Cond.code ({ cls := "MatchTreesModel", name := "lex", desc := "()V" } : Jvm.MethodName) prog_14_method_9_code (1 : Nat) (Option.none : Option Jvm.ClassFile.FieldType)) ∈ WT := WT_of (sub_tables_1_7 _ (List.mem_of_getElem? (i := 131) rfl)) (by decide +kernel)
set_option maxRecDepth 20000 in
theorem t_1701 : (Jvm.Cond.methodLink "MatchTreesModel" (320 : Nat) ({ cls := "MatchTreesModel", name := "blame", desc := "(II)V" } : Jvm.MethodName)) ∈ WT := WT_of (sub_tables_1_7 _ (List.mem_of_getElem? (i := 132) (by decide +kernel))) (by decide +kernel)
set_option maxRecDepth 20000 in
theorem t_1703 : (Jvm.Cond.instanceMethod ({ cls := "MatchTreesModel", name := "blame", desc := "(II)V" } : Jvm.MethodName)) ∈ WT := WT_of (sub_tables_1_7 _ (List.mem_of_getElem? (i := 134) (by decide +kernel))) (by decide +kernel)
set_option maxRecDepth 20000 in
theorem t_1704 : (Jvm.Cond.code ({ cls := "MatchTreesModel", name := "blame", desc := "(II)V" } : Jvm.MethodName) prog_14_method_6_code (3 : Nat) (Option.none : Option Jvm.ClassFile.FieldType)) ∈ WT := WT_of (sub_tables_1_7 _ (List.mem_of_getElem? (i := 135) rfl)) (by decide +kernel)
set_option maxRecDepth 20000 in
theorem t_1705 : (Jvm.Cond.constantLong "MatchTreesModel" (340 : Nat) (1802071652 : Int64)) ∈ WT := WT_of (sub_tables_1_7 _ (List.mem_of_getElem? (i := 136) (by decide +kernel))) (by decide +kernel)
set_option maxRecDepth 20000 in
theorem t_1706 : (Jvm.Cond.methodLink "MatchTreesModel" (386 : Nat) ({ cls := "MatchTreesModel", name := "isWord", desc := "(J)Z" } : Jvm.MethodName)) ∈ WT := WT_of (sub_tables_1_7 _ (List.mem_of_getElem? (i := 137) (by decide +kernel))) (by decide +kernel)
set_option maxRecDepth 20000 in
theorem t_1708 : (Jvm.Cond.instanceMethod ({ cls := "MatchTreesModel", name := "isWord", desc := "(J)Z" } : Jvm.MethodName)) ∈ WT := WT_of (sub_tables_1_7 _ (List.mem_of_getElem? (i := 139) (by decide +kernel))) (by decide +kernel)
set_option maxRecDepth 20000 in
theorem t_1709 : (Jvm.Cond.code ({ cls := "MatchTreesModel", name := "isWord", desc := "(J)Z" } : Jvm.MethodName) prog_14_method_12_code (3 : Nat) (Option.some Jvm.ClassFile.FieldType.boolean)) ∈ WT := WT_of (sub_tables_1_7 _ (List.mem_of_getElem? (i := 140) rfl)) (by decide +kernel)
set_option maxRecDepth 20000 in
theorem t_1710 : (Jvm.Cond.methodLink "MatchTreesModel" (428 : Nat) ({ cls := "MatchTreesModel", name := "kindIs", desc := "()V" } : Jvm.MethodName)) ∈ WT := WT_of (sub_tables_1_7 _ (List.mem_of_getElem? (i := 141) (by decide +kernel))) (by decide +kernel)
set_option maxRecDepth 20000 in
theorem t_1712 : (Jvm.Cond.instanceMethod ({ cls := "MatchTreesModel", name := "kindIs", desc := "()V" } : Jvm.MethodName)) ∈ WT := WT_of (sub_tables_1_7 _ (List.mem_of_getElem? (i := 143) (by decide +kernel))) (by decide +kernel)
set_option maxRecDepth 20000 in
theorem t_1713 : (Jvm.Cond.code ({ cls := "MatchTreesModel", name := "kindIs", desc := "()V" } : Jvm.MethodName) prog_14_method_21_code (4 : Nat) (Option.none : Option Jvm.ClassFile.FieldType)) ∈ WT := WT_of (sub_tables_1_7 _ (List.mem_of_getElem? (i := 144) rfl)) (by decide +kernel)
set_option maxRecDepth 20000 in
theorem t_1714 : (Jvm.Cond.methodLink "MatchTreesModel" (378 : Nat) ({ cls := "MatchTreesModel", name := "isCounted", desc := "(Z)Z" } : Jvm.MethodName)) ∈ WT := WT_of (sub_tables_1_7 _ (List.mem_of_getElem? (i := 145) (by decide +kernel))) (by decide +kernel)
set_option maxRecDepth 20000 in
theorem t_1716 : (Jvm.Cond.instanceMethod ({ cls := "MatchTreesModel", name := "isCounted", desc := "(Z)Z" } : Jvm.MethodName)) ∈ WT := WT_of (sub_tables_1_7 _ (List.mem_of_getElem? (i := 147) (by decide +kernel))) (by decide +kernel)
set_option maxRecDepth 20000 in
theorem t_1717 : (Jvm.Cond.code ({ cls := "MatchTreesModel", name := "isCounted", desc := "(Z)Z" } : Jvm.MethodName) prog_14_method_16_code (2 : Nat) (Option.some Jvm.ClassFile.FieldType.boolean)) ∈ WT := WT_of (sub_tables_1_7 _ (List.mem_of_getElem? (i := 148) rfl)) (by decide +kernel)
set_option maxRecDepth 20000 in
theorem t_1718 : (Jvm.Cond.methodLink "MatchTreesModel" (382 : Nat) ({ cls := "MatchTreesModel", name := "fresh", desc := "()J" } : Jvm.MethodName)) ∈ WT := WT_of (sub_tables_1_7 _ (List.mem_of_getElem? (i := 149) (by decide +kernel))) (by decide +kernel)
set_option maxRecDepth 20000 in
theorem t_1720 : (Jvm.Cond.instanceMethod ({ cls := "MatchTreesModel", name := "fresh", desc := "()J" } : Jvm.MethodName)) ∈ WT := WT_of (sub_tables_1_7 _ (List.mem_of_getElem? (i := 151) (by decide +kernel))) (by decide +kernel)
set_option maxRecDepth 20000 in
theorem t_1721 : (Jvm.Cond.code ({ cls := "MatchTreesModel", name := "fresh", desc := "()J" } : Jvm.MethodName) prog_14_method_20_code (3 : Nat) (Option.some Jvm.ClassFile.FieldType.long)) ∈ WT := WT_of (sub_tables_1_7 _ (List.mem_of_getElem? (i := 152) rfl)) (by decide +kernel)
set_option maxRecDepth 20000 in
theorem t_1722 : (Jvm.Cond.methodLink "MatchTreesModel" (366 : Nat) ({ cls := "MatchTreesModel", name := "isOwn", desc := "(J)Z" } : Jvm.MethodName)) ∈ WT := WT_of (sub_tables_1_7 _ (List.mem_of_getElem? (i := 153) (by decide +kernel))) (by decide +kernel)
set_option maxRecDepth 20000 in
theorem t_1724 : (Jvm.Cond.instanceMethod ({ cls := "MatchTreesModel", name := "isOwn", desc := "(J)Z" } : Jvm.MethodName)) ∈ WT := WT_of (sub_tables_1_7 _ (List.mem_of_getElem? (i := 155) (by decide +kernel))) (by decide +kernel)
set_option maxRecDepth 20000 in
theorem t_1725 : (Jvm.Cond.code ({ cls := "MatchTreesModel", name := "isOwn", desc := "(J)Z" } : Jvm.MethodName) prog_14_method_14_code (3 : Nat) (Option.some Jvm.ClassFile.FieldType.boolean)) ∈ WT := WT_of (sub_tables_1_7 _ (List.mem_of_getElem? (i := 156) rfl)) (by decide +kernel)
set_option maxRecDepth 20000 in
theorem t_1726 : (Jvm.Cond.constantLong "MatchTreesModel" (342 : Nat) (6516590 : Int64)) ∈ WT := WT_of (sub_tables_1_7 _ (List.mem_of_getElem? (i := 157) (by decide +kernel))) (by decide +kernel)
set_option maxRecDepth 20000 in
theorem t_1727 : (Jvm.Cond.constantLong "MatchTreesModel" (344 : Nat) (469786452840 : Int64)) ∈ WT := WT_of (sub_tables_1_7 _ (List.mem_of_getElem? (i := 158) (by decide +kernel))) (by decide +kernel)
set_option maxRecDepth 20000 in
theorem t_1728 : (Jvm.Cond.constantLong "MatchTreesModel" (346 : Nat) (6386285 : Int64)) ∈ WT := WT_of (sub_tables_1_7 _ (List.mem_of_getElem? (i := 159) (by decide +kernel))) (by decide +kernel)
set_option maxRecDepth 20000 in
theorem t_1729 : (Jvm.Cond.constantLong "MatchTreesModel" (348 : Nat) (2003330414 : Int64)) ∈ WT := WT_of (sub_tables_1_7 _ (List.mem_of_getElem? (i := 160) (by decide +kernel))) (by decide +kernel)
set_option maxRecDepth 20000 in
theorem t_1730 : (Jvm.Cond.constantLong "MatchTreesModel" (350 : Nat) (1920298085 : Int64)) ∈ WT := WT_of (sub_tables_1_7 _ (List.mem_of_getElem? (i := 161) (by decide +kernel))) (by decide +kernel)
set_option maxRecDepth 20000 in
theorem t_1731 : (Jvm.Cond.constantLong "MatchTreesModel" (352 : Nat) (108256335193460 : Int64)) ∈ WT := WT_of (sub_tables_1_7 _ (List.mem_of_getElem? (i := 162) (by decide +kernel))) (by decide +kernel)
set_option maxRecDepth 20000 in
theorem t_1732 : (Jvm.Cond.constantLong "MatchTreesModel" (354 : Nat) (7239021 : Int64)) ∈ WT := WT_of (sub_tables_1_7 _ (List.mem_of_getElem? (i := 163) (by decide +kernel))) (by decide +kernel)
set_option maxRecDepth 20000 in
theorem t_1733 : (Jvm.Cond.constantLong "MatchTreesModel" (356 : Nat) (6385273 : Int64)) ∈ WT := WT_of (sub_tables_1_7 _ (List.mem_of_getElem? (i := 164) (by decide +kernel))) (by decide +kernel)
set_option maxRecDepth 20000 in
theorem t_1734 : (Jvm.Cond.constantLong "MatchTreesModel" (358 : Nat) (28530 : Int64)) ∈ WT := WT_of (sub_tables_1_7 _ (List.mem_of_getElem? (i := 165) (by decide +kernel))) (by decide +kernel)
set_option maxRecDepth 20000 in
theorem t_1735 : (Jvm.Cond.constantLong "MatchTreesModel" (360 : Nat) (29807 : Int64)) ∈ WT := WT_of (sub_tables_1_7 _ (List.mem_of_getElem? (i := 166) (by decide +kernel))) (by decide +kernel)
set_option maxRecDepth 20000 in
theorem t_1736 : (Jvm.Cond.methodLink "MatchTreesModel" (370 : Nat) ({ cls := "MatchTreesModel", name := "kindNamed", desc := "(J)I" } : Jvm.MethodName)) ∈ WT := WT_of (sub_tables_1_7 _ (List.mem_of_getElem? (i := 167) (by decide +kernel))) (by decide +kernel)
set_option maxRecDepth 20000 in
theorem t_1738 : (Jvm.Cond.instanceMethod ({ cls := "MatchTreesModel", name := "kindNamed", desc := "(J)I" } : Jvm.MethodName)) ∈ WT := WT_of (sub_tables_1_7 _ (List.mem_of_getElem? (i := 169) (by decide +kernel))) (by decide +kernel)
set_option maxRecDepth 20000 in
theorem t_1739 : (Jvm.Cond.code ({ cls := "MatchTreesModel", name := "kindNamed", desc := "(J)I" } : Jvm.MethodName) prog_14_method_17_code (4 : Nat) (Option.some Jvm.ClassFile.FieldType.int)) ∈ WT := WT_of (sub_tables_1_7 _ (List.mem_of_getElem? (i := 170) rfl)) (by decide +kernel)
set_option maxRecDepth 20000 in
theorem t_1740 : (Jvm.Cond.methodLink "MatchTreesModel" (374 : Nat) ({ cls := "MatchTreesModel", name := "conNamed", desc := "(IJ)I" } : Jvm.MethodName)) ∈ WT := WT_of (sub_tables_1_7 _ (List.mem_of_getElem? (i := 171) (by decide +kernel))) (by decide +kernel)
set_option maxRecDepth 20000 in
theorem t_1742 : (Jvm.Cond.instanceMethod ({ cls := "MatchTreesModel", name := "conNamed", desc := "(IJ)I" } : Jvm.MethodName)) ∈ WT := WT_of (sub_tables_1_7 _ (List.mem_of_getElem? (i := 173) (by decide +kernel))) (by decide +kernel)
set_option maxRecDepth 20000 in
theorem t_1743 : (Jvm.Cond.code ({ cls := "MatchTreesModel", name := "conNamed", desc := "(IJ)I" } : Jvm.MethodName) prog_14_method_18_code (5 : Nat) (Option.some Jvm.ClassFile.FieldType.int)) ∈ WT := WT_of (sub_tables_1_7 _ (List.mem_of_getElem? (i := 174) rfl)) (by decide +kernel)
set_option maxRecDepth 20000 in
theorem t_1744 : (Jvm.Cond.methodLink "MatchTreesModel" (431 : Nat) ({ cls := "MatchTreesModel", name := "conIs", desc := "()V" } : Jvm.MethodName)) ∈ WT := WT_of (sub_tables_1_7 _ (List.mem_of_getElem? (i := 175) (by decide +kernel))) (by decide +kernel)
set_option maxRecDepth 20000 in
theorem t_1746 : (Jvm.Cond.instanceMethod ({ cls := "MatchTreesModel", name := "conIs", desc := "()V" } : Jvm.MethodName)) ∈ WT := WT_of (sub_tables_1_7 _ (List.mem_of_getElem? (i := 177) (by decide +kernel))) (by decide +kernel)
set_option maxRecDepth 20000 in
theorem t_1747 : (Jvm.Cond.code ({ cls := "MatchTreesModel", name := "conIs", desc := "()V" } : Jvm.MethodName) prog_14_method_24_code (7 : Nat) (Option.none : Option Jvm.ClassFile.FieldType)) ∈ WT := WT_of (sub_tables_1_7 _ (List.mem_of_getElem? (i := 178) rfl)) (by decide +kernel)
set_option maxRecDepth 20000 in
theorem t_1748 : (Jvm.Cond.methodLink "MatchTreesModel" (389 : Nat) ({ cls := "MatchTreesModel", name := "isKindHere", desc := "()Z" } : Jvm.MethodName)) ∈ WT := WT_of (sub_tables_1_7 _ (List.mem_of_getElem? (i := 179) (by decide +kernel))) (by decide +kernel)
set_option maxRecDepth 20000 in
theorem t_1750 : (Jvm.Cond.instanceMethod ({ cls := "MatchTreesModel", name := "isKindHere", desc := "()Z" } : Jvm.MethodName)) ∈ WT := WT_of (sub_tables_1_7 _ (List.mem_of_getElem? (i := 181) (by decide +kernel))) (by decide +kernel)
set_option maxRecDepth 20000 in
theorem t_1751 : (Jvm.Cond.code ({ cls := "MatchTreesModel", name := "isKindHere", desc := "()Z" } : Jvm.MethodName) prog_14_method_23_code (1 : Nat) (Option.some Jvm.ClassFile.FieldType.boolean)) ∈ WT := WT_of (sub_tables_1_7 _ (List.mem_of_getElem? (i := 182) rfl)) (by decide +kernel)
set_option maxRecDepth 20000 in
theorem t_1752 : (Jvm.Cond.methodLink "MatchTreesModel" (393 : Nat) ({ cls := "MatchTreesModel", name := "known", desc := "(I)I" } : Jvm.MethodName)) ∈ WT := WT_of (sub_tables_1_7 _ (List.mem_of_getElem? (i := 183) (by decide +kernel))) (by decide +kernel)
set_option maxRecDepth 20000 in
theorem t_1754 : (Jvm.Cond.instanceMethod ({ cls := "MatchTreesModel", name := "known", desc := "(I)I" } : Jvm.MethodName)) ∈ WT := WT_of (sub_tables_1_7 _ (List.mem_of_getElem? (i := 185) (by decide +kernel))) (by decide +kernel)
set_option maxRecDepth 20000 in
theorem t_1755 : (Jvm.Cond.code ({ cls := "MatchTreesModel", name := "known", desc := "(I)I" } : Jvm.MethodName) prog_14_method_22_code (4 : Nat) (Option.some Jvm.ClassFile.FieldType.int)) ∈ WT := WT_of (sub_tables_1_7 _ (List.mem_of_getElem? (i := 186) rfl)) (by decide +kernel)
set_option maxRecDepth 20000 in
theorem t_1756 : (Jvm.Cond.methodLink "MatchTreesModel" (396 : Nat) ({ cls := "MatchTreesModel", name := "valuesOf", desc := "(II)I" } : Jvm.MethodName)) ∈ WT := WT_of (sub_tables_1_7 _ (List.mem_of_getElem? (i := 187) (by decide +kernel))) (by decide +kernel)
set_option maxRecDepth 20000 in
theorem t_1758 : (Jvm.Cond.instanceMethod ({ cls := "MatchTreesModel", name := "valuesOf", desc := "(II)I" } : Jvm.MethodName)) ∈ WT := WT_of (sub_tables_1_7 _ (List.mem_of_getElem? (i := 189) (by decide +kernel))) (by decide +kernel)
set_option maxRecDepth 20000 in
theorem t_1759 : (Jvm.Cond.code ({ cls := "MatchTreesModel", name := "valuesOf", desc := "(II)I" } : Jvm.MethodName) prog_14_method_19_code (3 : Nat) (Option.some Jvm.ClassFile.FieldType.int)) ∈ WT := WT_of (sub_tables_1_7 _ (List.mem_of_getElem? (i := 190) rfl)) (by decide +kernel)
set_option maxRecDepth 20000 in
theorem t_1760 : (Jvm.Cond.methodLink "MatchTreesModel" (434 : Nat) ({ cls := "MatchTreesModel", name := "matchIs", desc := "()V" } : Jvm.MethodName)) ∈ WT := WT_of (sub_tables_1_7 _ (List.mem_of_getElem? (i := 191) (by decide +kernel))) (by decide +kernel)
set_option maxRecDepth 20000 in
theorem t_1762 : (Jvm.Cond.instanceMethod ({ cls := "MatchTreesModel", name := "matchIs", desc := "()V" } : Jvm.MethodName)) ∈ WT := WT_of (sub_tables_1_7 _ (List.mem_of_getElem? (i := 193) (by decide +kernel))) (by decide +kernel)
set_option maxRecDepth 20000 in
theorem t_1763 : (Jvm.Cond.code ({ cls := "MatchTreesModel", name := "matchIs", desc := "()V" } : Jvm.MethodName) prog_14_method_25_code (3 : Nat) (Option.none : Option Jvm.ClassFile.FieldType)) ∈ WT := WT_of (sub_tables_1_7 _ (List.mem_of_getElem? (i := 194) rfl)) (by decide +kernel)
set_option maxRecDepth 20000 in
theorem t_1764 : (Jvm.Cond.methodLink "MatchTreesModel" (437 : Nat) ({ cls := "MatchTreesModel", name := "armIs", desc := "()V" } : Jvm.MethodName)) ∈ WT := WT_of (sub_tables_1_7 _ (List.mem_of_getElem? (i := 195) (by decide +kernel))) (by decide +kernel)
set_option maxRecDepth 20000 in
theorem t_1766 : (Jvm.Cond.instanceMethod ({ cls := "MatchTreesModel", name := "armIs", desc := "()V" } : Jvm.MethodName)) ∈ WT := WT_of (sub_tables_1_7 _ (List.mem_of_getElem? (i := 197) (by decide +kernel))) (by decide +kernel)
set_option maxRecDepth 20000 in
theorem t_1767 : (Jvm.Cond.code ({ cls := "MatchTreesModel", name := "armIs", desc := "()V" } : Jvm.MethodName) prog_14_method_33_code (3 : Nat) (Option.none : Option Jvm.ClassFile.FieldType)) ∈ WT := WT_of (sub_tables_1_7 _ (List.mem_of_getElem? (i := 198) rfl)) (by decide +kernel)
set_option maxRecDepth 20000 in
theorem t_1768 : (Jvm.Cond.methodLink "MatchTreesModel" (413 : Nat) ({ cls := "MatchTreesModel", name := "must", desc := "(I)V" } : Jvm.MethodName)) ∈ WT := WT_of (sub_tables_1_7 _ (List.mem_of_getElem? (i := 199) (by decide +kernel))) (by decide +kernel)
set_option maxRecDepth 20000 in
theorem t_1770 : (Jvm.Cond.instanceMethod ({ cls := "MatchTreesModel", name := "must", desc := "(I)V" } : Jvm.MethodName)) ∈ WT := WT_of (sub_tables_1_7 _ (List.mem_of_getElem? (i := 201) (by decide +kernel))) (by decide +kernel)
set_option maxRecDepth 20000 in
theorem t_1771 : (Jvm.Cond.code ({ cls := "MatchTreesModel", name := "must", desc := "(I)V" } : Jvm.MethodName) prog_14_method_13_code (2 : Nat) (Option.none : Option Jvm.ClassFile.FieldType)) ∈ WT := WT_of (sub_tables_1_7 _ (List.mem_of_getElem? (i := 202) rfl)) (by decide +kernel)
set_option maxRecDepth 20000 in
theorem t_1772 : (Jvm.Cond.methodLink "MatchTreesModel" (334 : Nat) ({ cls := "MatchTreesModel", name := "isSign", desc := "(I)Z" } : Jvm.MethodName)) ∈ WT := WT_of (sub_tables_1_7 _ (List.mem_of_getElem? (i := 203) (by decide +kernel))) (by decide +kernel)
set_option maxRecDepth 20000 in
theorem t_1774 : (Jvm.Cond.instanceMethod ({ cls := "MatchTreesModel", name := "isSign", desc := "(I)Z" } : Jvm.MethodName)) ∈ WT := WT_of (sub_tables_1_7 _ (List.mem_of_getElem? (i := 205) (by decide +kernel))) (by decide +kernel)
set_option maxRecDepth 20000 in
theorem t_1775 : (Jvm.Cond.code ({ cls := "MatchTreesModel", name := "isSign", desc := "(I)Z" } : Jvm.MethodName) prog_14_method_11_code (2 : Nat) (Option.some Jvm.ClassFile.FieldType.boolean)) ∈ WT := WT_of (sub_tables_1_7 _ (List.mem_of_getElem? (i := 206) rfl)) (by decide +kernel)
set_option maxRecDepth 20000 in
theorem t_1776 : (Jvm.Cond.methodLink "MatchTreesModel" (425 : Nat) ({ cls := "MatchTreesModel", name := "pattern", desc := "(I)V" } : Jvm.MethodName)) ∈ WT := WT_of (sub_tables_1_7 _ (List.mem_of_getElem? (i := 207) (by decide +kernel))) (by decide +kernel)
set_option maxRecDepth 20000 in
theorem t_1778 : (Jvm.Cond.instanceMethod ({ cls := "MatchTreesModel", name := "pattern", desc := "(I)V" } : Jvm.MethodName)) ∈ WT := WT_of (sub_tables_1_7 _ (List.mem_of_getElem? (i := 209) (by decide +kernel))) (by decide +kernel)
set_option maxRecDepth 20000 in
theorem t_1779 : (Jvm.Cond.code ({ cls := "MatchTreesModel", name := "pattern", desc := "(I)V" } : Jvm.MethodName) prog_14_method_32_code (3 : Nat) (Option.none : Option Jvm.ClassFile.FieldType)) ∈ WT := WT_of (sub_tables_1_7 _ (List.mem_of_getElem? (i := 210) rfl)) (by decide +kernel)
set_option maxRecDepth 20000 in
theorem t_1780 : (Jvm.Cond.methodLink "MatchTreesModel" (404 : Nat) ({ cls := "MatchTreesModel", name := "opensPattern", desc := "(I)V" } : Jvm.MethodName)) ∈ WT := WT_of (sub_tables_1_7 _ (List.mem_of_getElem? (i := 211) (by decide +kernel))) (by decide +kernel)
set_option maxRecDepth 20000 in
theorem t_1782 : (Jvm.Cond.instanceMethod ({ cls := "MatchTreesModel", name := "opensPattern", desc := "(I)V" } : Jvm.MethodName)) ∈ WT := WT_of (sub_tables_1_7 _ (List.mem_of_getElem? (i := 213) (by decide +kernel))) (by decide +kernel)
set_option maxRecDepth 20000 in
theorem t_1783 : (Jvm.Cond.code ({ cls := "MatchTreesModel", name := "opensPattern", desc := "(I)V" } : Jvm.MethodName) prog_14_method_27_code (2 : Nat) (Option.none : Option Jvm.ClassFile.FieldType)) ∈ WT := WT_of (sub_tables_1_7 _ (List.mem_of_getElem? (i := 214) rfl)) (by decide +kernel)
set_option maxRecDepth 20000 in
theorem t_1784 : (Jvm.Cond.methodLink "MatchTreesModel" (419 : Nat) ({ cls := "MatchTreesModel", name := "alternative", desc := "()Z" } : Jvm.MethodName)) ∈ WT := WT_of (sub_tables_1_7 _ (List.mem_of_getElem? (i := 215) (by decide +kernel))) (by decide +kernel)
set_option maxRecDepth 20000 in
theorem t_1786 : (Jvm.Cond.instanceMethod ({ cls := "MatchTreesModel", name := "alternative", desc := "()Z" } : Jvm.MethodName)) ∈ WT := WT_of (sub_tables_1_7 _ (List.mem_of_getElem? (i := 217) (by decide +kernel))) (by decide +kernel)
set_option maxRecDepth 20000 in
theorem t_1787 : (Jvm.Cond.code ({ cls := "MatchTreesModel", name := "alternative", desc := "()Z" } : Jvm.MethodName) prog_14_method_30_code (3 : Nat) (Option.some Jvm.ClassFile.FieldType.boolean)) ∈ WT := WT_of (sub_tables_1_7 _ (List.mem_of_getElem? (i := 218) rfl)) (by decide +kernel)
set_option maxRecDepth 20000 in
theorem t_1788 : (Jvm.Cond.methodLink "MatchTreesModel" (400 : Nat) ({ cls := "MatchTreesModel", name := "emits", desc := "(III)V" } : Jvm.MethodName)) ∈ WT := WT_of (sub_tables_1_7 _ (List.mem_of_getElem? (i := 219) (by decide +kernel))) (by decide +kernel)
set_option maxRecDepth 20000 in
theorem t_1790 : (Jvm.Cond.instanceMethod ({ cls := "MatchTreesModel", name := "emits", desc := "(III)V" } : Jvm.MethodName)) ∈ WT := WT_of (sub_tables_1_7 _ (List.mem_of_getElem? (i := 221) (by decide +kernel))) (by decide +kernel)
set_option maxRecDepth 20000 in
theorem t_1791 : (Jvm.Cond.code ({ cls := "MatchTreesModel", name := "emits", desc := "(III)V" } : Jvm.MethodName) prog_14_method_26_code (5 : Nat) (Option.none : Option Jvm.ClassFile.FieldType)) ∈ WT := WT_of (sub_tables_1_7 _ (List.mem_of_getElem? (i := 222) rfl)) (by decide +kernel)
set_option maxRecDepth 20000 in
theorem t_1792 : (Jvm.Cond.methodLink "MatchTreesModel" (410 : Nat) ({ cls := "MatchTreesModel", name := "range", desc := "()V" } : Jvm.MethodName)) ∈ WT := WT_of (sub_tables_1_7 _ (List.mem_of_getElem? (i := 223) (by decide +kernel))) (by decide +kernel)
set_option maxRecDepth 20000 in
theorem t_1794 : (Jvm.Cond.instanceMethod ({ cls := "MatchTreesModel", name := "range", desc := "()V" } : Jvm.MethodName)) ∈ WT := WT_of (sub_tables_1_7 _ (List.mem_of_getElem? (i := 225) (by decide +kernel))) (by decide +kernel)
set_option maxRecDepth 20000 in
theorem t_1795 : (Jvm.Cond.code ({ cls := "MatchTreesModel", name := "range", desc := "()V" } : Jvm.MethodName) prog_14_method_29_code (3 : Nat) (Option.none : Option Jvm.ClassFile.FieldType)) ∈ WT := WT_of (sub_tables_1_7 _ (List.mem_of_getElem? (i := 226) rfl)) (by decide +kernel)
set_option maxRecDepth 20000 in
theorem t_1796 : (Jvm.Cond.methodLink "MatchTreesModel" (407 : Nat) ({ cls := "MatchTreesModel", name := "number", desc := "(II)I" } : Jvm.MethodName)) ∈ WT := WT_of (sub_tables_1_7 _ (List.mem_of_getElem? (i := 227) (by decide +kernel))) (by decide +kernel)
set_option maxRecDepth 20000 in
theorem t_1798 : (Jvm.Cond.instanceMethod ({ cls := "MatchTreesModel", name := "number", desc := "(II)I" } : Jvm.MethodName)) ∈ WT := WT_of (sub_tables_1_7 _ (List.mem_of_getElem? (i := 229) (by decide +kernel))) (by decide +kernel)
set_option maxRecDepth 20000 in
theorem t_1799 : (Jvm.Cond.code ({ cls := "MatchTreesModel", name := "number", desc := "(II)I" } : Jvm.MethodName) prog_14_method_15_code (4 : Nat) (Option.some Jvm.ClassFile.FieldType.int)) ∈ WT := WT_of (sub_tables_1_7 _ (List.mem_of_getElem? (i := 230) rfl)) (by decide +kernel)
set_option maxRecDepth 20000 in
theorem t_1800 : (Jvm.Cond.methodLink "MatchTreesModel" (362 : Nat) ({ cls := "MatchTreesModel", name := "is", desc := "(III)Z" } : Jvm.MethodName)) ∈ WT := WT_of (sub_tables_1_7 _ (List.mem_of_getElem? (i := 231) (by decide +kernel))) (by decide +kernel)
set_option maxRecDepth 20000 in
theorem t_1801 : (Jvm.Cond.static ({ cls := "MatchTreesModel", name := "is", desc := "(III)Z" } : Jvm.MethodName)) ∈ WT := WT_of (sub_tables_1_7 _ (List.mem_of_getElem? (i := 232) (by decide +kernel))) (by decide +kernel)
set_option maxRecDepth 20000 in
theorem t_1802 : (Jvm.Cond.code ({ cls := "MatchTreesModel", name := "is", desc := "(III)Z" } : Jvm.MethodName) prog_14_method_2_code (3 : Nat) (Option.some Jvm.ClassFile.FieldType.boolean)) ∈ WT := WT_of (sub_tables_1_7 _ (List.mem_of_getElem? (i := 233) rfl)) (by decide +kernel)
set_option maxRecDepth 20000 in
theorem t_1803 : (Jvm.Cond.methodLink "MatchTreesModel" (416 : Nat) ({ cls := "MatchTreesModel", name := "fieldBegins", desc := "(II)V" } : Jvm.MethodName)) ∈ WT := WT_of (sub_tables_1_7 _ (List.mem_of_getElem? (i := 234) (by decide +kernel))) (by decide +kernel)
set_option maxRecDepth 20000 in
theorem t_1805 : (Jvm.Cond.instanceMethod ({ cls := "MatchTreesModel", name := "fieldBegins", desc := "(II)V" } : Jvm.MethodName)) ∈ WT := WT_of (sub_tables_1_7 _ (List.mem_of_getElem? (i := 236) (by decide +kernel))) (by decide +kernel)
set_option maxRecDepth 20000 in
theorem t_1806 : (Jvm.Cond.code ({ cls := "MatchTreesModel", name := "fieldBegins", desc := "(II)V" } : Jvm.MethodName) prog_14_method_28_code (3 : Nat) (Option.none : Option Jvm.ClassFile.FieldType)) ∈ WT := WT_of (sub_tables_1_7 _ (List.mem_of_getElem? (i := 237) rfl)) (by decide +kernel)
set_option maxRecDepth 20000 in
theorem t_1807 : (Jvm.Cond.methodLink "MatchTreesModel" (422 : Nat) ({ cls := "MatchTreesModel", name := "goesOn", desc := "(I)Z" } : Jvm.MethodName)) ∈ WT := WT_of (sub_tables_1_7 _ (List.mem_of_getElem? (i := 238) (by decide +kernel))) (by decide +kernel)
set_option maxRecDepth 20000 in
theorem t_1809 : (Jvm.Cond.instanceMethod ({ cls := "MatchTreesModel", name := "goesOn", desc := "(I)Z" } : Jvm.MethodName)) ∈ WT := WT_of (sub_tables_1_8 _ (List.mem_of_getElem? (i := 0) (by decide +kernel))) (by decide +kernel)
set_option maxRecDepth 20000 in
theorem t_1810 : (Jvm.Cond.code ({ cls := "MatchTreesModel", name := "goesOn", desc := "(I)Z" } : Jvm.MethodName) prog_14_method_31_code (3 : Nat) (Option.some Jvm.ClassFile.FieldType.boolean)) ∈ WT := WT_of (sub_tables_1_8 _ (List.mem_of_getElem? (i := 1) rfl)) (by decide +kernel)
set_option maxRecDepth 20000 in
theorem t_1811 : (Jvm.Cond.methodLink "MatchTreesModel" (440 : Nat) ({ cls := "MatchTreesModel", name := "ruleIs", desc := "()V" } : Jvm.MethodName)) ∈ WT := WT_of (sub_tables_1_8 _ (List.mem_of_getElem? (i := 2) (by decide +kernel))) (by decide +kernel)
set_option maxRecDepth 20000 in
theorem t_1813 : (Jvm.Cond.instanceMethod ({ cls := "MatchTreesModel", name := "ruleIs", desc := "()V" } : Jvm.MethodName)) ∈ WT := WT_of (sub_tables_1_8 _ (List.mem_of_getElem? (i := 4) (by decide +kernel))) (by decide +kernel)
set_option maxRecDepth 20000 in
theorem t_1814 : (Jvm.Cond.code ({ cls := "MatchTreesModel", name := "ruleIs", desc := "()V" } : Jvm.MethodName) prog_14_method_34_code (1 : Nat) (Option.none : Option Jvm.ClassFile.FieldType)) ∈ WT := WT_of (sub_tables_1_8 _ (List.mem_of_getElem? (i := 5) rfl)) (by decide +kernel)
set_option maxRecDepth 20000 in
theorem t_1815 : (Jvm.Cond.methodLink "MatchTreesModel" (443 : Nat) ({ cls := "MatchTreesModel", name := "budgetIs", desc := "()V" } : Jvm.MethodName)) ∈ WT := WT_of (sub_tables_1_8 _ (List.mem_of_getElem? (i := 6) (by decide +kernel))) (by decide +kernel)
set_option maxRecDepth 20000 in
theorem t_1817 : (Jvm.Cond.instanceMethod ({ cls := "MatchTreesModel", name := "budgetIs", desc := "()V" } : Jvm.MethodName)) ∈ WT := WT_of (sub_tables_1_8 _ (List.mem_of_getElem? (i := 8) (by decide +kernel))) (by decide +kernel)
set_option maxRecDepth 20000 in
theorem t_1818 : (Jvm.Cond.code ({ cls := "MatchTreesModel", name := "budgetIs", desc := "()V" } : Jvm.MethodName) prog_14_method_35_code (1 : Nat) (Option.none : Option Jvm.ClassFile.FieldType)) ∈ WT := WT_of (sub_tables_1_8 _ (List.mem_of_getElem? (i := 9) rfl)) (by decide +kernel)
set_option maxRecDepth 20000 in
theorem t_1819 : (Jvm.Cond.methodLink "MatchTreesModel" (449 : Nat) ({ cls := "MatchTreesModel", name := "finishes", desc := "(I)V" } : Jvm.MethodName)) ∈ WT := WT_of (sub_tables_1_8 _ (List.mem_of_getElem? (i := 10) (by decide +kernel))) (by decide +kernel)
set_option maxRecDepth 20000 in
theorem t_1821 : (Jvm.Cond.instanceMethod ({ cls := "MatchTreesModel", name := "finishes", desc := "(I)V" } : Jvm.MethodName)) ∈ WT := WT_of (sub_tables_1_8 _ (List.mem_of_getElem? (i := 12) (by decide +kernel))) (by decide +kernel)
set_option maxRecDepth 20000 in
theorem t_1822 : (Jvm.Cond.code ({ cls := "MatchTreesModel", name := "finishes", desc := "(I)V" } : Jvm.MethodName) prog_14_method_37_code (3 : Nat) (Option.none : Option Jvm.ClassFile.FieldType)) ∈ WT := WT_of (sub_tables_1_8 _ (List.mem_of_getElem? (i := 13) rfl)) (by decide +kernel)
set_option maxRecDepth 20000 in
theorem t_1823 : (Jvm.Cond.methodLink "MatchTreesModel" (452 : Nat) ({ cls := "MatchTreesModel", name := "lays", desc := "()V" } : Jvm.MethodName)) ∈ WT := WT_of (sub_tables_1_8 _ (List.mem_of_getElem? (i := 14) (by decide +kernel))) (by decide +kernel)
set_option maxRecDepth 20000 in
theorem t_1825 : (Jvm.Cond.instanceMethod ({ cls := "MatchTreesModel", name := "lays", desc := "()V" } : Jvm.MethodName)) ∈ WT := WT_of (sub_tables_1_8 _ (List.mem_of_getElem? (i := 16) (by decide +kernel))) (by decide +kernel)
set_option maxRecDepth 20000 in
theorem t_1826 : (Jvm.Cond.code ({ cls := "MatchTreesModel", name := "lays", desc := "()V" } : Jvm.MethodName) prog_14_method_46_code (5 : Nat) (Option.none : Option Jvm.ClassFile.FieldType)) ∈ WT := WT_of (sub_tables_1_8 _ (List.mem_of_getElem? (i := 17) rfl)) (by decide +kernel)
set_option maxRecDepth 20000 in
theorem t_1827 : (Jvm.Cond.methodLink "MatchTreesModel" (459 : Nat) ({ cls := "MatchTreesModel", name := "columns", desc := "()I" } : Jvm.MethodName)) ∈ WT := WT_of (sub_tables_1_8 _ (List.mem_of_getElem? (i := 18) (by decide +kernel))) (by decide +kernel)
set_option maxRecDepth 20000 in
theorem t_1829 : (Jvm.Cond.instanceMethod ({ cls := "MatchTreesModel", name := "columns", desc := "()I" } : Jvm.MethodName)) ∈ WT := WT_of (sub_tables_1_8 _ (List.mem_of_getElem? (i := 20) (by decide +kernel))) (by decide +kernel)
set_option maxRecDepth 20000 in
theorem t_1830 : (Jvm.Cond.code ({ cls := "MatchTreesModel", name := "columns", desc := "()I" } : Jvm.MethodName) prog_14_method_44_code (1 : Nat) (Option.some Jvm.ClassFile.FieldType.int)) ∈ WT := WT_of (sub_tables_1_8 _ (List.mem_of_getElem? (i := 21) rfl)) (by decide +kernel)
set_option maxRecDepth 20000 in
theorem t_1831 : (Jvm.Cond.methodLink "MatchTreesModel" (463 : Nat) ({ cls := "MatchTreesModel", name := "columnValues", desc := "(I)I" } : Jvm.MethodName)) ∈ WT := WT_of (sub_tables_1_8 _ (List.mem_of_getElem? (i := 22) (by decide +kernel))) (by decide +kernel)
set_option maxRecDepth 20000 in
theorem t_1833 : (Jvm.Cond.instanceMethod ({ cls := "MatchTreesModel", name := "columnValues", desc := "(I)I" } : Jvm.MethodName)) ∈ WT := WT_of (sub_tables_1_8 _ (List.mem_of_getElem? (i := 24) (by decide +kernel))) (by decide +kernel)
set_option maxRecDepth 20000 in
theorem t_1834 : (Jvm.Cond.code ({ cls := "MatchTreesModel", name := "columnValues", desc := "(I)I" } : Jvm.MethodName) prog_14_method_45_code (2 : Nat) (Option.some Jvm.ClassFile.FieldType.int)) ∈ WT := WT_of (sub_tables_1_8 _ (List.mem_of_getElem? (i := 25) rfl)) (by decide +kernel)
set_option maxRecDepth 20000 in
theorem t_1835 : (Jvm.Cond.methodLink "MatchTreesModel" (466 : Nat) ({ cls := "MatchTreesModel", name := "isFitting", desc := "(III)Z" } : Jvm.MethodName)) ∈ WT := WT_of (sub_tables_1_8 _ (List.mem_of_getElem? (i := 26) (by decide +kernel))) (by decide +kernel)
set_option maxRecDepth 20000 in
theorem t_1837 : (Jvm.Cond.instanceMethod ({ cls := "MatchTreesModel", name := "isFitting", desc := "(III)Z" } : Jvm.MethodName)) ∈ WT := WT_of (sub_tables_1_8 _ (List.mem_of_getElem? (i := 28) (by decide +kernel))) (by decide +kernel)
set_option maxRecDepth 20000 in
theorem t_1838 : (Jvm.Cond.code ({ cls := "MatchTreesModel", name := "isFitting", desc := "(III)Z" } : Jvm.MethodName) prog_14_method_43_code (9 : Nat) (Option.some Jvm.ClassFile.FieldType.boolean)) ∈ WT := WT_of (sub_tables_1_8 _ (List.mem_of_getElem? (i := 29) rfl)) (by decide +kernel)
set_option maxRecDepth 20000 in
theorem t_1839 : (Jvm.Cond.methodLink "MatchTreesModel" (455 : Nat) ({ cls := "MatchTreesModel", name := "fieldOf", desc := "(III)I" } : Jvm.MethodName)) ∈ WT := WT_of (sub_tables_1_8 _ (List.mem_of_getElem? (i := 30) (by decide +kernel))) (by decide +kernel)
set_option maxRecDepth 20000 in
theorem t_1841 : (Jvm.Cond.instanceMethod ({ cls := "MatchTreesModel", name := "fieldOf", desc := "(III)I" } : Jvm.MethodName)) ∈ WT := WT_of (sub_tables_1_8 _ (List.mem_of_getElem? (i := 32) (by decide +kernel))) (by decide +kernel)
set_option maxRecDepth 20000 in
theorem t_1842 : (Jvm.Cond.code ({ cls := "MatchTreesModel", name := "fieldOf", desc := "(III)I" } : Jvm.MethodName) prog_14_method_42_code (7 : Nat) (Option.some Jvm.ClassFile.FieldType.int)) ∈ WT := WT_of (sub_tables_1_8 _ (List.mem_of_getElem? (i := 33) rfl)) (by decide +kernel)
set_option maxRecDepth 20000 in
theorem t_1843 : (Jvm.Cond.methodLink "MatchTreesLaw" (32 : Nat) ({ cls := "MatchTreesModel", name := "fault", desc := "(I)I" } : Jvm.MethodName)) ∈ WT := WT_of (sub_tables_1_8 _ (List.mem_of_getElem? (i := 34) (by decide +kernel))) (by decide +kernel)
set_option maxRecDepth 20000 in
theorem t_1844 : (Jvm.Cond.instanceMethod ({ cls := "MatchTreesModel", name := "fault", desc := "(I)I" } : Jvm.MethodName)) ∈ WT := WT_of (sub_tables_1_8 _ (List.mem_of_getElem? (i := 35) (by decide +kernel))) (by decide +kernel)
set_option maxRecDepth 20000 in
theorem t_1845 : (Jvm.Cond.selects "MatchTreesModel" ({ cls := "MatchTreesModel", name := "fault", desc := "(I)I" } : Jvm.MethodName) ({ cls := "MatchTreesModel", name := "fault", desc := "(I)I" } : Jvm.MethodName)) ∈ WT := WT_of (sub_tables_1_8 _ (List.mem_of_getElem? (i := 36) (by decide +kernel))) (by decide +kernel)
set_option maxRecDepth 20000 in
theorem t_1846 : (Jvm.Cond.code ({ cls := "MatchTreesModel", name := "fault", desc := "(I)I" } : Jvm.MethodName) prog_14_method_39_code (2 : Nat) (Option.some Jvm.ClassFile.FieldType.int)) ∈ WT := WT_of (sub_tables_1_8 _ (List.mem_of_getElem? (i := 37) rfl)) (by decide +kernel)
set_option maxRecDepth 20000 in
theorem t_1847 : (Jvm.Cond.methodLink "MatchTreesLaw" (160 : Nat) ({ cls := "MatchTreesModel", name := "status", desc := "(I)I" } : Jvm.MethodName)) ∈ WT := WT_of (sub_tables_1_8 _ (List.mem_of_getElem? (i := 38) (by decide +kernel))) (by decide +kernel)
set_option maxRecDepth 20000 in
theorem t_1848 : (Jvm.Cond.instanceMethod ({ cls := "MatchTreesModel", name := "status", desc := "(I)I" } : Jvm.MethodName)) ∈ WT := WT_of (sub_tables_1_8 _ (List.mem_of_getElem? (i := 39) (by decide +kernel))) (by decide +kernel)
set_option maxRecDepth 20000 in
theorem t_1849 : (Jvm.Cond.selects "MatchTreesModel" ({ cls := "MatchTreesModel", name := "status", desc := "(I)I" } : Jvm.MethodName) ({ cls := "MatchTreesModel", name := "status", desc := "(I)I" } : Jvm.MethodName)) ∈ WT := WT_of (sub_tables_1_8 _ (List.mem_of_getElem? (i := 40) (by decide +kernel))) (by decide +kernel)
set_option maxRecDepth 20000 in
theorem t_1850 : (Jvm.Cond.code ({ cls := "MatchTreesModel", name := "status", desc := "(I)I" } : Jvm.MethodName) prog_14_method_41_code (2 : Nat) (Option.some Jvm.ClassFile.FieldType.int)) ∈ WT := WT_of (sub_tables_1_8 _ (List.mem_of_getElem? (i := 41) rfl)) (by decide +kernel)
set_option maxRecDepth 20000 in
theorem t_1851 : (Jvm.Cond.methodLink "MatchTreesLaw" (140 : Nat) ({ cls := "MatchTreesModel", name := "undo", desc := "()Z" } : Jvm.MethodName)) ∈ WT := WT_of (sub_tables_1_8 _ (List.mem_of_getElem? (i := 42) (by decide +kernel))) (by decide +kernel)
set_option maxRecDepth 20000 in
theorem t_1852 : (Jvm.Cond.instanceMethod ({ cls := "MatchTreesModel", name := "undo", desc := "()Z" } : Jvm.MethodName)) ∈ WT := WT_of (sub_tables_1_8 _ (List.mem_of_getElem? (i := 43) (by decide +kernel))) (by decide +kernel)
set_option maxRecDepth 20000 in
theorem t_1853 : (Jvm.Cond.selects "MatchTreesModel" ({ cls := "MatchTreesModel", name := "undo", desc := "()Z" } : Jvm.MethodName) ({ cls := "MatchTreesModel", name := "undo", desc := "()Z" } : Jvm.MethodName)) ∈ WT := WT_of (sub_tables_1_8 _ (List.mem_of_getElem? (i := 44) (by decide +kernel))) (by decide +kernel)
set_option maxRecDepth 20000 in
theorem t_1854 : (Jvm.Cond.code ({ cls := "MatchTreesModel", name := "undo", desc := "()Z" } : Jvm.MethodName) prog_14_method_51_code (1 : Nat) (Option.some Jvm.ClassFile.FieldType.boolean)) ∈ WT := WT_of (sub_tables_1_8 _ (List.mem_of_getElem? (i := 45) rfl)) (by decide +kernel)
set_option maxRecDepth 20000 in
theorem t_1855 : (Jvm.Cond.methodLink "MatchTreesModel" (469 : Nat) ({ cls := "MatchTreesModel", name := "slot", desc := "(I)I" } : Jvm.MethodName)) ∈ WT := WT_of (sub_tables_1_8 _ (List.mem_of_getElem? (i := 46) (by decide +kernel))) (by decide +kernel)
set_option maxRecDepth 20000 in
theorem t_1857 : (Jvm.Cond.instanceMethod ({ cls := "MatchTreesModel", name := "slot", desc := "(I)I" } : Jvm.MethodName)) ∈ WT := WT_of (sub_tables_1_8 _ (List.mem_of_getElem? (i := 48) (by decide +kernel))) (by decide +kernel)
set_option maxRecDepth 20000 in
theorem t_1858 : (Jvm.Cond.code ({ cls := "MatchTreesModel", name := "slot", desc := "(I)I" } : Jvm.MethodName) prog_14_method_49_code (2 : Nat) (Option.some Jvm.ClassFile.FieldType.int)) ∈ WT := WT_of (sub_tables_1_8 _ (List.mem_of_getElem? (i := 49) rfl)) (by decide +kernel)
set_option maxRecDepth 20000 in
theorem t_1859 : (Jvm.Cond.methodLink "MatchTreesModel" (472 : Nat) ({ cls := "MatchTreesModel", name := "copies", desc := "(II)V" } : Jvm.MethodName)) ∈ WT := WT_of (sub_tables_1_8 _ (List.mem_of_getElem? (i := 50) (by decide +kernel))) (by decide +kernel)
set_option maxRecDepth 20000 in
theorem t_1861 : (Jvm.Cond.instanceMethod ({ cls := "MatchTreesModel", name := "copies", desc := "(II)V" } : Jvm.MethodName)) ∈ WT := WT_of (sub_tables_1_8 _ (List.mem_of_getElem? (i := 52) (by decide +kernel))) (by decide +kernel)
set_option maxRecDepth 20000 in
theorem t_1862 : (Jvm.Cond.code ({ cls := "MatchTreesModel", name := "copies", desc := "(II)V" } : Jvm.MethodName) prog_14_method_47_code (4 : Nat) (Option.none : Option Jvm.ClassFile.FieldType)) ∈ WT := WT_of (sub_tables_1_8 _ (List.mem_of_getElem? (i := 53) rfl)) (by decide +kernel)
set_option maxRecDepth 20000 in
theorem t_1863 : (Jvm.Cond.methodLink "MatchTreesLaw" (36 : Nat) ({ cls := "MatchTreesModel", name := "has", desc := "(I)I" } : Jvm.MethodName)) ∈ WT := WT_of (sub_tables_1_8 _ (List.mem_of_getElem? (i := 54) (by decide +kernel))) (by decide +kernel)
set_option maxRecDepth 20000 in
theorem t_1864 : (Jvm.Cond.instanceMethod ({ cls := "MatchTreesModel", name := "has", desc := "(I)I" } : Jvm.MethodName)) ∈ WT := WT_of (sub_tables_1_8 _ (List.mem_of_getElem? (i := 55) (by decide +kernel))) (by decide +kernel)
set_option maxRecDepth 20000 in
theorem t_1865 : (Jvm.Cond.selects "MatchTreesModel" ({ cls := "MatchTreesModel", name := "has", desc := "(I)I" } : Jvm.MethodName) ({ cls := "MatchTreesModel", name := "has", desc := "(I)I" } : Jvm.MethodName)) ∈ WT := WT_of (sub_tables_1_8 _ (List.mem_of_getElem? (i := 56) (by decide +kernel))) (by decide +kernel)
set_option maxRecDepth 20000 in
theorem t_1866 : (Jvm.Cond.code ({ cls := "MatchTreesModel", name := "has", desc := "(I)I" } : Jvm.MethodName) prog_14_method_61_code (2 : Nat) (Option.some Jvm.ClassFile.FieldType.int)) ∈ WT := WT_of (sub_tables_1_8 _ (List.mem_of_getElem? (i := 57) rfl)) (by decide +kernel)
set_option maxRecDepth 20000 in
theorem t_1867 : (Jvm.Cond.methodLink "MatchTreesLaw" (41 : Nat) ({ cls := "MatchTreesModel", name := "letter", desc := "(III)I" } : Jvm.MethodName)) ∈ WT := WT_of (sub_tables_1_8 _ (List.mem_of_getElem? (i := 58) (by decide +kernel))) (by decide +kernel)
set_option maxRecDepth 20000 in
theorem t_1868 : (Jvm.Cond.instanceMethod ({ cls := "MatchTreesModel", name := "letter", desc := "(III)I" } : Jvm.MethodName)) ∈ WT := WT_of (sub_tables_1_8 _ (List.mem_of_getElem? (i := 59) (by decide +kernel))) (by decide +kernel)
set_option maxRecDepth 20000 in
theorem t_1869 : (Jvm.Cond.selects "MatchTreesModel" ({ cls := "MatchTreesModel", name := "letter", desc := "(III)I" } : Jvm.MethodName) ({ cls := "MatchTreesModel", name := "letter", desc := "(III)I" } : Jvm.MethodName)) ∈ WT := WT_of (sub_tables_1_8 _ (List.mem_of_getElem? (i := 60) (by decide +kernel))) (by decide +kernel)
set_option maxRecDepth 20000 in
theorem t_1870 : (Jvm.Cond.code ({ cls := "MatchTreesModel", name := "letter", desc := "(III)I" } : Jvm.MethodName) prog_14_method_63_code (7 : Nat) (Option.some Jvm.ClassFile.FieldType.int)) ∈ WT := WT_of (sub_tables_1_8 _ (List.mem_of_getElem? (i := 61) rfl)) (by decide +kernel)
set_option maxRecDepth 20000 in
theorem t_1871 : (Jvm.Cond.methodLink "MatchTreesModel" (487 : Nat) ({ cls := "MatchTreesModel", name := "lettersOf", desc := "(J)I" } : Jvm.MethodName)) ∈ WT := WT_of (sub_tables_1_8 _ (List.mem_of_getElem? (i := 62) (by decide +kernel))) (by decide +kernel)
set_option maxRecDepth 20000 in
theorem t_1872 : (Jvm.Cond.static ({ cls := "MatchTreesModel", name := "lettersOf", desc := "(J)I" } : Jvm.MethodName)) ∈ WT := WT_of (sub_tables_1_8 _ (List.mem_of_getElem? (i := 63) (by decide +kernel))) (by decide +kernel)
set_option maxRecDepth 20000 in
theorem t_1873 : (Jvm.Cond.code ({ cls := "MatchTreesModel", name := "lettersOf", desc := "(J)I" } : Jvm.MethodName) prog_14_method_62_code (5 : Nat) (Option.some Jvm.ClassFile.FieldType.int)) ∈ WT := WT_of (sub_tables_1_8 _ (List.mem_of_getElem? (i := 64) rfl)) (by decide +kernel)
set_option maxRecDepth 20000 in
theorem t_1874 : (Jvm.Cond.constantLong "MatchTreesModel" (490 : Nat) (255 : Int64)) ∈ WT := WT_of (sub_tables_1_8 _ (List.mem_of_getElem? (i := 65) (by decide +kernel))) (by decide +kernel)
set_option maxRecDepth 20000 in
theorem t_1875 : (Jvm.Cond.methodLink "MatchTreesLaw" (45 : Nat) ({ cls := "MatchTreesModel", name := "values", desc := "(I)I" } : Jvm.MethodName)) ∈ WT := WT_of (sub_tables_1_8 _ (List.mem_of_getElem? (i := 66) (by decide +kernel))) (by decide +kernel)
set_option maxRecDepth 20000 in
theorem t_1876 : (Jvm.Cond.instanceMethod ({ cls := "MatchTreesModel", name := "values", desc := "(I)I" } : Jvm.MethodName)) ∈ WT := WT_of (sub_tables_1_8 _ (List.mem_of_getElem? (i := 67) (by decide +kernel))) (by decide +kernel)
set_option maxRecDepth 20000 in
theorem t_1877 : (Jvm.Cond.selects "MatchTreesModel" ({ cls := "MatchTreesModel", name := "values", desc := "(I)I" } : Jvm.MethodName) ({ cls := "MatchTreesModel", name := "values", desc := "(I)I" } : Jvm.MethodName)) ∈ WT := WT_of (sub_tables_1_8 _ (List.mem_of_getElem? (i := 68) (by decide +kernel))) (by decide +kernel)
set_option maxRecDepth 20000 in
theorem t_1878 : (Jvm.Cond.code ({ cls := "MatchTreesModel", name := "values", desc := "(I)I" } : Jvm.MethodName) prog_14_method_64_code (2 : Nat) (Option.some Jvm.ClassFile.FieldType.int)) ∈ WT := WT_of (sub_tables_1_8 _ (List.mem_of_getElem? (i := 69) rfl)) (by decide +kernel)
set_option maxRecDepth 20000 in
theorem t_1879 : (Jvm.Cond.methodLink "MatchTreesLaw" (50 : Nat) ({ cls := "MatchTreesModel", name := "arm", desc := "(II)I" } : Jvm.MethodName)) ∈ WT := WT_of (sub_tables_1_8 _ (List.mem_of_getElem? (i := 70) (by decide +kernel))) (by decide +kernel)
set_option maxRecDepth 20000 in
theorem t_1880 : (Jvm.Cond.instanceMethod ({ cls := "MatchTreesModel", name := "arm", desc := "(II)I" } : Jvm.MethodName)) ∈ WT := WT_of (sub_tables_1_8 _ (List.mem_of_getElem? (i := 71) (by decide +kernel))) (by decide +kernel)
set_option maxRecDepth 20000 in
theorem t_1881 : (Jvm.Cond.selects "MatchTreesModel" ({ cls := "MatchTreesModel", name := "arm", desc := "(II)I" } : Jvm.MethodName) ({ cls := "MatchTreesModel", name := "arm", desc := "(II)I" } : Jvm.MethodName)) ∈ WT := WT_of (sub_tables_1_8 _ (List.mem_of_getElem? (i := 72) (by decide +kernel))) (by decide +kernel)
set_option maxRecDepth 20000 in
theorem t_1882 : (Jvm.Cond.code ({ cls := "MatchTreesModel", name := "arm", desc := "(II)I" } : Jvm.MethodName) prog_14_method_69_code (3 : Nat) (Option.some Jvm.ClassFile.FieldType.int)) ∈ WT := WT_of (sub_tables_1_8 _ (List.mem_of_getElem? (i := 73) rfl)) (by decide +kernel)
set_option maxRecDepth 20000 in
theorem t_1883 : (Jvm.Cond.methodLink "MatchTreesModel" (498 : Nat) ({ cls := "MatchTreesModel", name := "isPlace", desc := "(I)Z" } : Jvm.MethodName)) ∈ WT := WT_of (sub_tables_1_8 _ (List.mem_of_getElem? (i := 74) (by decide +kernel))) (by decide +kernel)
set_option maxRecDepth 20000 in
theorem t_1885 : (Jvm.Cond.instanceMethod ({ cls := "MatchTreesModel", name := "isPlace", desc := "(I)Z" } : Jvm.MethodName)) ∈ WT := WT_of (sub_tables_1_8 _ (List.mem_of_getElem? (i := 76) (by decide +kernel))) (by decide +kernel)
set_option maxRecDepth 20000 in
theorem t_1886 : (Jvm.Cond.code ({ cls := "MatchTreesModel", name := "isPlace", desc := "(I)Z" } : Jvm.MethodName) prog_14_method_65_code (2 : Nat) (Option.some Jvm.ClassFile.FieldType.boolean)) ∈ WT := WT_of (sub_tables_1_8 _ (List.mem_of_getElem? (i := 77) rfl)) (by decide +kernel)
set_option maxRecDepth 20000 in
theorem t_1887 : (Jvm.Cond.methodLink "MatchTreesModel" (501 : Nat) ({ cls := "MatchTreesModel", name := "arranges", desc := "(I)V" } : Jvm.MethodName)) ∈ WT := WT_of (sub_tables_1_8 _ (List.mem_of_getElem? (i := 78) (by decide +kernel))) (by decide +kernel)
set_option maxRecDepth 20000 in
theorem t_1889 : (Jvm.Cond.instanceMethod ({ cls := "MatchTreesModel", name := "arranges", desc := "(I)V" } : Jvm.MethodName)) ∈ WT := WT_of (sub_tables_1_8 _ (List.mem_of_getElem? (i := 80) (by decide +kernel))) (by decide +kernel)
set_option maxRecDepth 20000 in
theorem t_1890 : (Jvm.Cond.code ({ cls := "MatchTreesModel", name := "arranges", desc := "(I)V" } : Jvm.MethodName) prog_14_method_53_code (4 : Nat) (Option.none : Option Jvm.ClassFile.FieldType)) ∈ WT := WT_of (sub_tables_1_8 _ (List.mem_of_getElem? (i := 81) rfl)) (by decide +kernel)
set_option maxRecDepth 20000 in
theorem t_1891 : (Jvm.Cond.methodLink "MatchTreesModel" (475 : Nat) ({ cls := "MatchTreesModel", name := "placed", desc := "(II)I" } : Jvm.MethodName)) ∈ WT := WT_of (sub_tables_1_8 _ (List.mem_of_getElem? (i := 82) (by decide +kernel))) (by decide +kernel)
set_option maxRecDepth 20000 in
theorem t_1893 : (Jvm.Cond.instanceMethod ({ cls := "MatchTreesModel", name := "placed", desc := "(II)I" } : Jvm.MethodName)) ∈ WT := WT_of (sub_tables_1_8 _ (List.mem_of_getElem? (i := 84) (by decide +kernel))) (by decide +kernel)
set_option maxRecDepth 20000 in
theorem t_1894 : (Jvm.Cond.code ({ cls := "MatchTreesModel", name := "placed", desc := "(II)I" } : Jvm.MethodName) prog_14_method_52_code (5 : Nat) (Option.some Jvm.ClassFile.FieldType.int)) ∈ WT := WT_of (sub_tables_1_8 _ (List.mem_of_getElem? (i := 85) rfl)) (by decide +kernel)
set_option maxRecDepth 20000 in
theorem t_1895 : (Jvm.Cond.methodLink "MatchTreesModel" (504 : Nat) ({ cls := "MatchTreesModel", name := "countsRows", desc := "()V" } : Jvm.MethodName)) ∈ WT := WT_of (sub_tables_1_8 _ (List.mem_of_getElem? (i := 86) (by decide +kernel))) (by decide +kernel)
set_option maxRecDepth 20000 in
theorem t_1897 : (Jvm.Cond.instanceMethod ({ cls := "MatchTreesModel", name := "countsRows", desc := "()V" } : Jvm.MethodName)) ∈ WT := WT_of (sub_tables_1_8 _ (List.mem_of_getElem? (i := 88) (by decide +kernel))) (by decide +kernel)
set_option maxRecDepth 20000 in
theorem t_1898 : (Jvm.Cond.code ({ cls := "MatchTreesModel", name := "countsRows", desc := "()V" } : Jvm.MethodName) prog_14_method_60_code (2 : Nat) (Option.none : Option Jvm.ClassFile.FieldType)) ∈ WT := WT_of (sub_tables_1_8 _ (List.mem_of_getElem? (i := 89) rfl)) (by decide +kernel)
set_option maxRecDepth 20000 in
theorem t_1899 : (Jvm.Cond.methodLink "MatchTreesModel" (484 : Nat) ({ cls := "MatchTreesModel", name := "fitting", desc := "(I)I" } : Jvm.MethodName)) ∈ WT := WT_of (sub_tables_1_8 _ (List.mem_of_getElem? (i := 90) (by decide +kernel))) (by decide +kernel)
set_option maxRecDepth 20000 in
theorem t_1901 : (Jvm.Cond.instanceMethod ({ cls := "MatchTreesModel", name := "fitting", desc := "(I)I" } : Jvm.MethodName)) ∈ WT := WT_of (sub_tables_1_8 _ (List.mem_of_getElem? (i := 92) (by decide +kernel))) (by decide +kernel)
set_option maxRecDepth 20000 in
theorem t_1902 : (Jvm.Cond.code ({ cls := "MatchTreesModel", name := "fitting", desc := "(I)I" } : Jvm.MethodName) prog_14_method_59_code (4 : Nat) (Option.some Jvm.ClassFile.FieldType.int)) ∈ WT := WT_of (sub_tables_1_8 _ (List.mem_of_getElem? (i := 93) rfl)) (by decide +kernel)
set_option maxRecDepth 20000 in
theorem t_1903 : (Jvm.Cond.methodLink "MatchTreesModel" (478 : Nat) ({ cls := "MatchTreesModel", name := "valuesIn", desc := "(I)V" } : Jvm.MethodName)) ∈ WT := WT_of (sub_tables_1_8 _ (List.mem_of_getElem? (i := 94) (by decide +kernel))) (by decide +kernel)
set_option maxRecDepth 20000 in
theorem t_1905 : (Jvm.Cond.instanceMethod ({ cls := "MatchTreesModel", name := "valuesIn", desc := "(I)V" } : Jvm.MethodName)) ∈ WT := WT_of (sub_tables_1_8 _ (List.mem_of_getElem? (i := 96) (by decide +kernel))) (by decide +kernel)
set_option maxRecDepth 20000 in
theorem t_1906 : (Jvm.Cond.code ({ cls := "MatchTreesModel", name := "valuesIn", desc := "(I)V" } : Jvm.MethodName) prog_14_method_57_code (4 : Nat) (Option.none : Option Jvm.ClassFile.FieldType)) ∈ WT := WT_of (sub_tables_1_8 _ (List.mem_of_getElem? (i := 97) rfl)) (by decide +kernel)
set_option maxRecDepth 20000 in
theorem t_1907 : (Jvm.Cond.methodLink "MatchTreesModel" (481 : Nat) ({ cls := "MatchTreesModel", name := "setIn", desc := "(II)I" } : Jvm.MethodName)) ∈ WT := WT_of (sub_tables_1_8 _ (List.mem_of_getElem? (i := 98) (by decide +kernel))) (by decide +kernel)
set_option maxRecDepth 20000 in
theorem t_1909 : (Jvm.Cond.instanceMethod ({ cls := "MatchTreesModel", name := "setIn", desc := "(II)I" } : Jvm.MethodName)) ∈ WT := WT_of (sub_tables_1_8 _ (List.mem_of_getElem? (i := 100) (by decide +kernel))) (by decide +kernel)
set_option maxRecDepth 20000 in
theorem t_1910 : (Jvm.Cond.code ({ cls := "MatchTreesModel", name := "setIn", desc := "(II)I" } : Jvm.MethodName) prog_14_method_58_code (3 : Nat) (Option.some Jvm.ClassFile.FieldType.int)) ∈ WT := WT_of (sub_tables_1_8 _ (List.mem_of_getElem? (i := 101) rfl)) (by decide +kernel)
set_option maxRecDepth 20000 in
theorem t_1911 : (Jvm.Cond.methodLink "MatchTreesModel" (507 : Nat) ({ cls := "MatchTreesModel", name := "isUseful", desc := "(I)I" } : Jvm.MethodName)) ∈ WT := WT_of (sub_tables_1_8 _ (List.mem_of_getElem? (i := 102) (by decide +kernel))) (by decide +kernel)
set_option maxRecDepth 20000 in
theorem t_1913 : (Jvm.Cond.instanceMethod ({ cls := "MatchTreesModel", name := "isUseful", desc := "(I)I" } : Jvm.MethodName)) ∈ WT := WT_of (sub_tables_1_8 _ (List.mem_of_getElem? (i := 104) (by decide +kernel))) (by decide +kernel)
set_option maxRecDepth 20000 in
theorem t_1914 : (Jvm.Cond.code ({ cls := "MatchTreesModel", name := "isUseful", desc := "(I)I" } : Jvm.MethodName) prog_14_method_67_code (4 : Nat) (Option.some Jvm.ClassFile.FieldType.int)) ∈ WT := WT_of (sub_tables_1_8 _ (List.mem_of_getElem? (i := 105) rfl)) (by decide +kernel)
set_option maxRecDepth 20000 in
theorem t_1915 : (Jvm.Cond.methodLink "MatchTreesModel" (510 : Nat) ({ cls := "MatchTreesModel", name := "fittingRows", desc := "(I)I" } : Jvm.MethodName)) ∈ WT := WT_of (sub_tables_1_8 _ (List.mem_of_getElem? (i := 106) (by decide +kernel))) (by decide +kernel)
set_option maxRecDepth 20000 in
theorem t_1917 : (Jvm.Cond.instanceMethod ({ cls := "MatchTreesModel", name := "fittingRows", desc := "(I)I" } : Jvm.MethodName)) ∈ WT := WT_of (sub_tables_1_8 _ (List.mem_of_getElem? (i := 108) (by decide +kernel))) (by decide +kernel)
set_option maxRecDepth 20000 in
theorem t_1918 : (Jvm.Cond.code ({ cls := "MatchTreesModel", name := "fittingRows", desc := "(I)I" } : Jvm.MethodName) prog_14_method_66_code (4 : Nat) (Option.some Jvm.ClassFile.FieldType.int)) ∈ WT := WT_of (sub_tables_1_8 _ (List.mem_of_getElem? (i := 109) rfl)) (by decide +kernel)
set_option maxRecDepth 20000 in
theorem t_1919 : (Jvm.Cond.methodLink "MatchTreesModel" (513 : Nat) ({ cls := "MatchTreesModel", name := "takenRows", desc := "(I)I" } : Jvm.MethodName)) ∈ WT := WT_of (sub_tables_1_8 _ (List.mem_of_getElem? (i := 110) (by decide +kernel))) (by decide +kernel)
set_option maxRecDepth 20000 in
theorem t_1921 : (Jvm.Cond.instanceMethod ({ cls := "MatchTreesModel", name := "takenRows", desc := "(I)I" } : Jvm.MethodName)) ∈ WT := WT_of (sub_tables_1_8 _ (List.mem_of_getElem? (i := 112) (by decide +kernel))) (by decide +kernel)
set_option maxRecDepth 20000 in
theorem t_1922 : (Jvm.Cond.code ({ cls := "MatchTreesModel", name := "takenRows", desc := "(I)I" } : Jvm.MethodName) prog_14_method_68_code (5 : Nat) (Option.some Jvm.ClassFile.FieldType.int)) ∈ WT := WT_of (sub_tables_1_8 _ (List.mem_of_getElem? (i := 113) rfl)) (by decide +kernel)
set_option maxRecDepth 20000 in
theorem t_1923 : (Jvm.Cond.methodLink "MatchTreesModel" (492 : Nat) ({ cls := "MatchTreesModel", name := "openBy", desc := "(I)I" } : Jvm.MethodName)) ∈ WT := WT_of (sub_tables_1_8 _ (List.mem_of_getElem? (i := 114) (by decide +kernel))) (by decide +kernel)
set_option maxRecDepth 20000 in
theorem t_1925 : (Jvm.Cond.instanceMethod ({ cls := "MatchTreesModel", name := "openBy", desc := "(I)I" } : Jvm.MethodName)) ∈ WT := WT_of (sub_tables_1_8 _ (List.mem_of_getElem? (i := 116) (by decide +kernel))) (by decide +kernel)
set_option maxRecDepth 20000 in
theorem t_1926 : (Jvm.Cond.code ({ cls := "MatchTreesModel", name := "openBy", desc := "(I)I" } : Jvm.MethodName) prog_14_method_54_code (4 : Nat) (Option.some Jvm.ClassFile.FieldType.int)) ∈ WT := WT_of (sub_tables_1_8 _ (List.mem_of_getElem? (i := 117) rfl)) (by decide +kernel)
set_option maxRecDepth 20000 in
theorem t_1927 : (Jvm.Cond.methodLink "MatchTreesModel" (495 : Nat) ({ cls := "MatchTreesModel", name := "lowest", desc := "(I)I" } : Jvm.MethodName)) ∈ WT := WT_of (sub_tables_1_8 _ (List.mem_of_getElem? (i := 118) (by decide +kernel))) (by decide +kernel)
set_option maxRecDepth 20000 in
theorem t_1928 : (Jvm.Cond.static ({ cls := "MatchTreesModel", name := "lowest", desc := "(I)I" } : Jvm.MethodName)) ∈ WT := WT_of (sub_tables_1_8 _ (List.mem_of_getElem? (i := 119) (by decide +kernel))) (by decide +kernel)
set_option maxRecDepth 20000 in
theorem t_1929 : (Jvm.Cond.code ({ cls := "MatchTreesModel", name := "lowest", desc := "(I)I" } : Jvm.MethodName) prog_14_method_55_code (2 : Nat) (Option.some Jvm.ClassFile.FieldType.int)) ∈ WT := WT_of (sub_tables_1_8 _ (List.mem_of_getElem? (i := 120) rfl)) (by decide +kernel)
set_option maxRecDepth 20000 in
theorem t_1930 : (Jvm.Cond.methodLink "MatchTreesLaw" (54 : Nat) ({ cls := "MatchTreesModel", name := "fits", desc := "(III)I" } : Jvm.MethodName)) ∈ WT := WT_of (sub_tables_1_8 _ (List.mem_of_getElem? (i := 121) (by decide +kernel))) (by decide +kernel)
set_option maxRecDepth 20000 in
theorem t_1931 : (Jvm.Cond.instanceMethod ({ cls := "MatchTreesModel", name := "fits", desc := "(III)I" } : Jvm.MethodName)) ∈ WT := WT_of (sub_tables_1_8 _ (List.mem_of_getElem? (i := 122) (by decide +kernel))) (by decide +kernel)
set_option maxRecDepth 20000 in
theorem t_1932 : (Jvm.Cond.selects "MatchTreesModel" ({ cls := "MatchTreesModel", name := "fits", desc := "(III)I" } : Jvm.MethodName) ({ cls := "MatchTreesModel", name := "fits", desc := "(III)I" } : Jvm.MethodName)) ∈ WT := WT_of (sub_tables_1_8 _ (List.mem_of_getElem? (i := 123) (by decide +kernel))) (by decide +kernel)
set_option maxRecDepth 20000 in
theorem t_1933 : (Jvm.Cond.code ({ cls := "MatchTreesModel", name := "fits", desc := "(III)I" } : Jvm.MethodName) prog_14_method_70_code (4 : Nat) (Option.some Jvm.ClassFile.FieldType.int)) ∈ WT := WT_of (sub_tables_1_8 _ (List.mem_of_getElem? (i := 124) rfl)) (by decide +kernel)
set_option maxRecDepth 20000 in
theorem t_1934 : (Jvm.Cond.methodLink "MatchTreesLaw" (58 : Nat) ({ cls := "MatchTreesModel", name := "holds", desc := "(II)I" } : Jvm.MethodName)) ∈ WT := WT_of (sub_tables_1_8 _ (List.mem_of_getElem? (i := 125) (by decide +kernel))) (by decide +kernel)
set_option maxRecDepth 20000 in
theorem t_1935 : (Jvm.Cond.instanceMethod ({ cls := "MatchTreesModel", name := "holds", desc := "(II)I" } : Jvm.MethodName)) ∈ WT := WT_of (sub_tables_1_8 _ (List.mem_of_getElem? (i := 126) (by decide +kernel))) (by decide +kernel)
set_option maxRecDepth 20000 in
theorem t_1936 : (Jvm.Cond.selects "MatchTreesModel" ({ cls := "MatchTreesModel", name := "holds", desc := "(II)I" } : Jvm.MethodName) ({ cls := "MatchTreesModel", name := "holds", desc := "(II)I" } : Jvm.MethodName)) ∈ WT := WT_of (sub_tables_1_8 _ (List.mem_of_getElem? (i := 127) (by decide +kernel))) (by decide +kernel)
set_option maxRecDepth 20000 in
theorem t_1937 : (Jvm.Cond.code ({ cls := "MatchTreesModel", name := "holds", desc := "(II)I" } : Jvm.MethodName) prog_14_method_71_code (4 : Nat) (Option.some Jvm.ClassFile.FieldType.int)) ∈ WT := WT_of (sub_tables_1_8 _ (List.mem_of_getElem? (i := 128) rfl)) (by decide +kernel)
set_option maxRecDepth 20000 in
theorem t_1938 : (Jvm.Cond.methodLink "MatchTreesLaw" (62 : Nat) ({ cls := "MatchTreesModel", name := "missing", desc := "(I)I" } : Jvm.MethodName)) ∈ WT := WT_of (sub_tables_1_8 _ (List.mem_of_getElem? (i := 129) (by decide +kernel))) (by decide +kernel)
set_option maxRecDepth 20000 in
theorem t_1939 : (Jvm.Cond.instanceMethod ({ cls := "MatchTreesModel", name := "missing", desc := "(I)I" } : Jvm.MethodName)) ∈ WT := WT_of (sub_tables_1_8 _ (List.mem_of_getElem? (i := 130) (by decide +kernel))) (by decide +kernel)
set_option maxRecDepth 20000 in
theorem t_1940 : (Jvm.Cond.selects "MatchTreesModel" ({ cls := "MatchTreesModel", name := "missing", desc := "(I)I" } : Jvm.MethodName) ({ cls := "MatchTreesModel", name := "missing", desc := "(I)I" } : Jvm.MethodName)) ∈ WT := WT_of (sub_tables_1_8 _ (List.mem_of_getElem? (i := 131) (by decide +kernel))) (by decide +kernel)
set_option maxRecDepth 20000 in
theorem t_1941 : (Jvm.Cond.code ({ cls := "MatchTreesModel", name := "missing", desc := "(I)I" } : Jvm.MethodName) prog_14_method_72_code (4 : Nat) (Option.some Jvm.ClassFile.FieldType.int)) ∈ WT := WT_of (sub_tables_1_8 _ (List.mem_of_getElem? (i := 132) rfl)) (by decide +kernel)
set_option maxRecDepth 20000 in
theorem t_1942 : (Jvm.Cond.methodLink "MatchTreesLaw" (66 : Nat) ({ cls := "MatchTreesModel", name := "taken", desc := "(I)I" } : Jvm.MethodName)) ∈ WT := WT_of (sub_tables_1_8 _ (List.mem_of_getElem? (i := 133) (by decide +kernel))) (by decide +kernel)
set_option maxRecDepth 20000 in
theorem t_1943 : (Jvm.Cond.instanceMethod ({ cls := "MatchTreesModel", name := "taken", desc := "(I)I" } : Jvm.MethodName)) ∈ WT := WT_of (sub_tables_1_8 _ (List.mem_of_getElem? (i := 134) (by decide +kernel))) (by decide +kernel)
set_option maxRecDepth 20000 in
theorem t_1944 : (Jvm.Cond.selects "MatchTreesModel" ({ cls := "MatchTreesModel", name := "taken", desc := "(I)I" } : Jvm.MethodName) ({ cls := "MatchTreesModel", name := "taken", desc := "(I)I" } : Jvm.MethodName)) ∈ WT := WT_of (sub_tables_1_8 _ (List.mem_of_getElem? (i := 135) (by decide +kernel))) (by decide +kernel)
set_option maxRecDepth 20000 in
theorem t_1945 : (Jvm.Cond.code ({ cls := "MatchTreesModel", name := "taken", desc := "(I)I" } : Jvm.MethodName) prog_14_method_74_code (2 : Nat) (Option.some Jvm.ClassFile.FieldType.int)) ∈ WT := WT_of (sub_tables_1_8 _ (List.mem_of_getElem? (i := 136) rfl)) (by decide +kernel)
set_option maxRecDepth 20000 in
theorem t_1946 : (Jvm.Cond.methodLink "MatchTreesModel" (516 : Nat) ({ cls := "MatchTreesModel", name := "isRow", desc := "(I)Z" } : Jvm.MethodName)) ∈ WT := WT_of (sub_tables_1_8 _ (List.mem_of_getElem? (i := 137) (by decide +kernel))) (by decide +kernel)
set_option maxRecDepth 20000 in
theorem t_1948 : (Jvm.Cond.instanceMethod ({ cls := "MatchTreesModel", name := "isRow", desc := "(I)Z" } : Jvm.MethodName)) ∈ WT := WT_of (sub_tables_1_8 _ (List.mem_of_getElem? (i := 139) (by decide +kernel))) (by decide +kernel)
set_option maxRecDepth 20000 in
theorem t_1949 : (Jvm.Cond.code ({ cls := "MatchTreesModel", name := "isRow", desc := "(I)Z" } : Jvm.MethodName) prog_14_method_73_code (2 : Nat) (Option.some Jvm.ClassFile.FieldType.boolean)) ∈ WT := WT_of (sub_tables_1_8 _ (List.mem_of_getElem? (i := 140) rfl)) (by decide +kernel)
set_option maxRecDepth 20000 in
theorem t_1950 : (Jvm.Cond.methodLink "MatchTreesLaw" (70 : Nat) ({ cls := "MatchTreesModel", name := "row", desc := "()I" } : Jvm.MethodName)) ∈ WT := WT_of (sub_tables_1_8 _ (List.mem_of_getElem? (i := 141) (by decide +kernel))) (by decide +kernel)
set_option maxRecDepth 20000 in
theorem t_1951 : (Jvm.Cond.instanceMethod ({ cls := "MatchTreesModel", name := "row", desc := "()I" } : Jvm.MethodName)) ∈ WT := WT_of (sub_tables_1_8 _ (List.mem_of_getElem? (i := 142) (by decide +kernel))) (by decide +kernel)
set_option maxRecDepth 20000 in
theorem t_1952 : (Jvm.Cond.selects "MatchTreesModel" ({ cls := "MatchTreesModel", name := "row", desc := "()I" } : Jvm.MethodName) ({ cls := "MatchTreesModel", name := "row", desc := "()I" } : Jvm.MethodName)) ∈ WT := WT_of (sub_tables_1_8 _ (List.mem_of_getElem? (i := 143) (by decide +kernel))) (by decide +kernel)
set_option maxRecDepth 20000 in
theorem t_1953 : (Jvm.Cond.code ({ cls := "MatchTreesModel", name := "row", desc := "()I" } : Jvm.MethodName) prog_14_method_78_code (3 : Nat) (Option.some Jvm.ClassFile.FieldType.int)) ∈ WT := WT_of (sub_tables_1_8 _ (List.mem_of_getElem? (i := 144) rfl)) (by decide +kernel)
set_option maxRecDepth 20000 in
theorem t_1954 : (Jvm.Cond.methodLink "MatchTreesModel" (525 : Nat) ({ cls := "MatchTreesModel", name := "valueRead", desc := "(I)I" } : Jvm.MethodName)) ∈ WT := WT_of (sub_tables_1_8 _ (List.mem_of_getElem? (i := 145) (by decide +kernel))) (by decide +kernel)
set_option maxRecDepth 20000 in
theorem t_1956 : (Jvm.Cond.instanceMethod ({ cls := "MatchTreesModel", name := "valueRead", desc := "(I)I" } : Jvm.MethodName)) ∈ WT := WT_of (sub_tables_1_8 _ (List.mem_of_getElem? (i := 147) (by decide +kernel))) (by decide +kernel)
set_option maxRecDepth 20000 in
theorem t_1957 : (Jvm.Cond.code ({ cls := "MatchTreesModel", name := "valueRead", desc := "(I)I" } : Jvm.MethodName) prog_14_method_75_code (5 : Nat) (Option.some Jvm.ClassFile.FieldType.int)) ∈ WT := WT_of (sub_tables_1_8 _ (List.mem_of_getElem? (i := 148) rfl)) (by decide +kernel)
set_option maxRecDepth 20000 in
theorem t_1958 : (Jvm.Cond.methodLink "MatchTreesModel" (519 : Nat) ({ cls := "MatchTreesModel", name := "isMoreOf", desc := "(I)Z" } : Jvm.MethodName)) ∈ WT := WT_of (sub_tables_1_8 _ (List.mem_of_getElem? (i := 149) (by decide +kernel))) (by decide +kernel)
set_option maxRecDepth 20000 in
theorem t_1960 : (Jvm.Cond.instanceMethod ({ cls := "MatchTreesModel", name := "isMoreOf", desc := "(I)Z" } : Jvm.MethodName)) ∈ WT := WT_of (sub_tables_1_8 _ (List.mem_of_getElem? (i := 151) (by decide +kernel))) (by decide +kernel)
set_option maxRecDepth 20000 in
theorem t_1961 : (Jvm.Cond.code ({ cls := "MatchTreesModel", name := "isMoreOf", desc := "(I)Z" } : Jvm.MethodName) prog_14_method_77_code (5 : Nat) (Option.some Jvm.ClassFile.FieldType.boolean)) ∈ WT := WT_of (sub_tables_1_8 _ (List.mem_of_getElem? (i := 152) rfl)) (by decide +kernel)
