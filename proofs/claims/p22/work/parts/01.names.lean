-- ===== PART A: goes FIRST, ahead of the names: the tables' words, and 'selects' of the private methods out of them =====
/-- a private method of a class that the tables say can be made, by its rows of tables_1 -/
def lw_okq (q : MethodName × Nat) : Prop := (q.1.cls ≠ "java/lang/invoke/MethodHandle" ∧ q.1.cls ≠ "java/lang/invoke/VarHandle") ∧ Cond.instantiable q.1.cls q.2 ∈ tables_1 ∧ Cond.privateMethod q.1 ∈ tables_1 ∧ Cond.instanceMethod q.1 ∈ tables_1
theorem lw_p0 : lw_okq (⟨"MatchTrees", "refuse", "(I)Z"⟩, 15) := ⟨⟨by decide +kernel, by decide +kernel⟩, List.mem_of_getElem? (i := 21) (by decide +kernel), List.mem_of_getElem? (i := 535) (by decide +kernel), List.mem_of_getElem? (i := 536) (by decide +kernel)⟩
theorem lw_p1 : lw_okq (⟨"MatchTrees$Reader", "begin", "(LMatchTrees$Bytes;)V"⟩, 5) := ⟨⟨by decide +kernel, by decide +kernel⟩, List.mem_of_getElem? (i := 296) (by decide +kernel), List.mem_of_getElem? (i := 567) (by decide +kernel), List.mem_of_getElem? (i := 568) (by decide +kernel)⟩
theorem lw_p2 : lw_okq (⟨"MatchTrees$Scanner", "stepWord", "()V"⟩, 9) := ⟨⟨by decide +kernel, by decide +kernel⟩, List.mem_of_getElem? (i := 302) (by decide +kernel), List.mem_of_getElem? (i := 583) (by decide +kernel), List.mem_of_getElem? (i := 584) (by decide +kernel)⟩
theorem lw_p3 : lw_okq (⟨"MatchTrees$Scanner", "stepNumber", "()V"⟩, 9) := ⟨⟨by decide +kernel, by decide +kernel⟩, List.mem_of_getElem? (i := 302) (by decide +kernel), List.mem_of_getElem? (i := 587) (by decide +kernel), List.mem_of_getElem? (i := 588) (by decide +kernel)⟩
theorem lw_p4 : lw_okq (⟨"MatchTrees$Reader", "readKind", "()Z"⟩, 5) := ⟨⟨by decide +kernel, by decide +kernel⟩, List.mem_of_getElem? (i := 296) (by decide +kernel), List.mem_of_getElem? (i := 591) (by decide +kernel), List.mem_of_getElem? (i := 592) (by decide +kernel)⟩
theorem lw_p5 : lw_okq (⟨"MatchTrees$Reader", "failHere", "()Z"⟩, 5) := ⟨⟨by decide +kernel, by decide +kernel⟩, List.mem_of_getElem? (i := 296) (by decide +kernel), List.mem_of_getElem? (i := 595) (by decide +kernel), List.mem_of_getElem? (i := 596) (by decide +kernel)⟩
theorem lw_p6 : lw_okq (⟨"MatchTrees$Reader", "fail", "(II)Z"⟩, 5) := ⟨⟨by decide +kernel, by decide +kernel⟩, List.mem_of_getElem? (i := 296) (by decide +kernel), List.mem_of_getElem? (i := 599) (by decide +kernel), List.mem_of_getElem? (i := 600) (by decide +kernel)⟩
theorem lw_p7 : lw_okq (⟨"MatchTrees$Reader", "isNewName", "()Z"⟩, 5) := ⟨⟨by decide +kernel, by decide +kernel⟩, List.mem_of_getElem? (i := 296) (by decide +kernel), List.mem_of_getElem? (i := 604) (by decide +kernel), List.mem_of_getElem? (i := 605) (by decide +kernel)⟩
theorem lw_p8 : lw_okq (⟨"MatchTrees$Reader", "readCon", "()Z"⟩, 5) := ⟨⟨by decide +kernel, by decide +kernel⟩, List.mem_of_getElem? (i := 296) (by decide +kernel), List.mem_of_getElem? (i := 624) (by decide +kernel), List.mem_of_getElem? (i := 625) (by decide +kernel)⟩
theorem lw_p9 : lw_okq (⟨"MatchTrees$Reader", "isKindWord", "()Z"⟩, 5) := ⟨⟨by decide +kernel, by decide +kernel⟩, List.mem_of_getElem? (i := 296) (by decide +kernel), List.mem_of_getElem? (i := 636) (by decide +kernel), List.mem_of_getElem? (i := 637) (by decide +kernel)⟩
theorem lw_p10 : lw_okq (⟨"MatchTrees$Reader", "isKindHere", "(I)Z"⟩, 5) := ⟨⟨by decide +kernel, by decide +kernel⟩, List.mem_of_getElem? (i := 296) (by decide +kernel), List.mem_of_getElem? (i := 640) (by decide +kernel), List.mem_of_getElem? (i := 641) (by decide +kernel)⟩
theorem lw_p11 : lw_okq (⟨"MatchTrees$Reader", "kindHere", "()I"⟩, 5) := ⟨⟨by decide +kernel, by decide +kernel⟩, List.mem_of_getElem? (i := 296) (by decide +kernel), List.mem_of_getElem? (i := 644) (by decide +kernel), List.mem_of_getElem? (i := 645) (by decide +kernel)⟩
theorem lw_p12 : lw_okq (⟨"MatchTrees$Reader", "readColumns", "()Z"⟩, 5) := ⟨⟨by decide +kernel, by decide +kernel⟩, List.mem_of_getElem? (i := 296) (by decide +kernel), List.mem_of_getElem? (i := 656) (by decide +kernel), List.mem_of_getElem? (i := 657) (by decide +kernel)⟩
theorem lw_p13 : lw_okq (⟨"MatchTrees$Reader", "readArm", "()Z"⟩, 5) := ⟨⟨by decide +kernel, by decide +kernel⟩, List.mem_of_getElem? (i := 296) (by decide +kernel), List.mem_of_getElem? (i := 665) (by decide +kernel), List.mem_of_getElem? (i := 666) (by decide +kernel)⟩
theorem lw_p14 : lw_okq (⟨"MatchTrees$Reader", "readSign", "(I)Z"⟩, 5) := ⟨⟨by decide +kernel, by decide +kernel⟩, List.mem_of_getElem? (i := 296) (by decide +kernel), List.mem_of_getElem? (i := 669) (by decide +kernel), List.mem_of_getElem? (i := 670) (by decide +kernel)⟩
theorem lw_p15 : lw_okq (⟨"MatchTrees$Reader", "readRange", "(I)Z"⟩, 5) := ⟨⟨by decide +kernel, by decide +kernel⟩, List.mem_of_getElem? (i := 296) (by decide +kernel), List.mem_of_getElem? (i := 684) (by decide +kernel), List.mem_of_getElem? (i := 685) (by decide +kernel)⟩
def lw_privs_1 : List (MethodName × Nat) := [(⟨"MatchTrees", "refuse", "(I)Z"⟩, 15), (⟨"MatchTrees$Reader", "begin", "(LMatchTrees$Bytes;)V"⟩, 5), (⟨"MatchTrees$Scanner", "stepWord", "()V"⟩, 9), (⟨"MatchTrees$Scanner", "stepNumber", "()V"⟩, 9), (⟨"MatchTrees$Reader", "readKind", "()Z"⟩, 5), (⟨"MatchTrees$Reader", "failHere", "()Z"⟩, 5), (⟨"MatchTrees$Reader", "fail", "(II)Z"⟩, 5), (⟨"MatchTrees$Reader", "isNewName", "()Z"⟩, 5), (⟨"MatchTrees$Reader", "readCon", "()Z"⟩, 5), (⟨"MatchTrees$Reader", "isKindWord", "()Z"⟩, 5), (⟨"MatchTrees$Reader", "isKindHere", "(I)Z"⟩, 5), (⟨"MatchTrees$Reader", "kindHere", "()I"⟩, 5), (⟨"MatchTrees$Reader", "readColumns", "()Z"⟩, 5), (⟨"MatchTrees$Reader", "readArm", "()Z"⟩, 5), (⟨"MatchTrees$Reader", "readSign", "(I)Z"⟩, 5), (⟨"MatchTrees$Reader", "readRange", "(I)Z"⟩, 5)]
theorem lw_r1 : ∀ q ∈ lw_privs_1, lw_okq q := List.forall_mem_cons.mpr ⟨lw_p0, List.forall_mem_cons.mpr ⟨lw_p1, List.forall_mem_cons.mpr ⟨lw_p2, List.forall_mem_cons.mpr ⟨lw_p3, List.forall_mem_cons.mpr ⟨lw_p4, List.forall_mem_cons.mpr ⟨lw_p5, List.forall_mem_cons.mpr ⟨lw_p6, List.forall_mem_cons.mpr ⟨lw_p7, List.forall_mem_cons.mpr ⟨lw_p8, List.forall_mem_cons.mpr ⟨lw_p9, List.forall_mem_cons.mpr ⟨lw_p10, List.forall_mem_cons.mpr ⟨lw_p11, List.forall_mem_cons.mpr ⟨lw_p12, List.forall_mem_cons.mpr ⟨lw_p13, List.forall_mem_cons.mpr ⟨lw_p14, List.forall_mem_cons.mpr ⟨lw_p15, fun _ h => absurd h List.not_mem_nil⟩⟩⟩⟩⟩⟩⟩⟩⟩⟩⟩⟩⟩⟩⟩⟩
theorem lw_p16 : lw_okq (⟨"MatchTrees$Reader", "readNumber", "(II)I"⟩, 5) := ⟨⟨by decide +kernel, by decide +kernel⟩, List.mem_of_getElem? (i := 296) (by decide +kernel), List.mem_of_getElem? (i := 688) (by decide +kernel), List.mem_of_getElem? (i := 689) (by decide +kernel)⟩
theorem lw_p17 : lw_okq (⟨"MatchTrees$Reader", "readConName", "(I)I"⟩, 5) := ⟨⟨by decide +kernel, by decide +kernel⟩, List.mem_of_getElem? (i := 296) (by decide +kernel), List.mem_of_getElem? (i := 695) (by decide +kernel), List.mem_of_getElem? (i := 696) (by decide +kernel)⟩
theorem lw_p18 : lw_okq (⟨"MatchTrees$Reader", "fillCase", "(III)V"⟩, 5) := ⟨⟨by decide +kernel, by decide +kernel⟩, List.mem_of_getElem? (i := 296) (by decide +kernel), List.mem_of_getElem? (i := 704) (by decide +kernel), List.mem_of_getElem? (i := 705) (by decide +kernel)⟩
theorem lw_p19 : lw_okq (⟨"MatchTrees$Reader", "readRule", "()Z"⟩, 5) := ⟨⟨by decide +kernel, by decide +kernel⟩, List.mem_of_getElem? (i := 296) (by decide +kernel), List.mem_of_getElem? (i := 725) (by decide +kernel), List.mem_of_getElem? (i := 726) (by decide +kernel)⟩
theorem lw_p20 : lw_okq (⟨"MatchTrees$Reader", "readBudget", "()Z"⟩, 5) := ⟨⟨by decide +kernel, by decide +kernel⟩, List.mem_of_getElem? (i := 296) (by decide +kernel), List.mem_of_getElem? (i := 729) (by decide +kernel), List.mem_of_getElem? (i := 730) (by decide +kernel)⟩
theorem lw_p21 : lw_okq (⟨"MatchTrees", "startMatch", "()V"⟩, 15) := ⟨⟨by decide +kernel, by decide +kernel⟩, List.mem_of_getElem? (i := 21) (by decide +kernel), List.mem_of_getElem? (i := 733) (by decide +kernel), List.mem_of_getElem? (i := 734) (by decide +kernel)⟩
theorem lw_p22 : lw_okq (⟨"MatchTrees", "matched", "()Z"⟩, 15) := ⟨⟨by decide +kernel, by decide +kernel⟩, List.mem_of_getElem? (i := 21) (by decide +kernel), List.mem_of_getElem? (i := 809) (by decide +kernel), List.mem_of_getElem? (i := 810) (by decide +kernel)⟩
theorem lw_p23 : lw_okq (⟨"MatchTrees", "isUseful", "(I)Z"⟩, 15) := ⟨⟨by decide +kernel, by decide +kernel⟩, List.mem_of_getElem? (i := 21) (by decide +kernel), List.mem_of_getElem? (i := 830) (by decide +kernel), List.mem_of_getElem? (i := 831) (by decide +kernel)⟩
theorem lw_p24 : lw_okq (⟨"MatchTrees", "rowsFitting", "(I)I"⟩, 15) := ⟨⟨by decide +kernel, by decide +kernel⟩, List.mem_of_getElem? (i := 21) (by decide +kernel), List.mem_of_getElem? (i := 842) (by decide +kernel), List.mem_of_getElem? (i := 843) (by decide +kernel)⟩
theorem lw_p25 : lw_okq (⟨"MatchTrees", "rowsTaken", "(I)I"⟩, 15) := ⟨⟨by decide +kernel, by decide +kernel⟩, List.mem_of_getElem? (i := 21) (by decide +kernel), List.mem_of_getElem? (i := 846) (by decide +kernel), List.mem_of_getElem? (i := 847) (by decide +kernel)⟩
theorem lw_p26 : lw_okq (⟨"MatchTrees", "countMissing", "(I)I"⟩, 15) := ⟨⟨by decide +kernel, by decide +kernel⟩, List.mem_of_getElem? (i := 21) (by decide +kernel), List.mem_of_getElem? (i := 868) (by decide +kernel), List.mem_of_getElem? (i := 869) (by decide +kernel)⟩
theorem lw_p27 : lw_okq (⟨"MatchTrees", "findMissing", "(II)I"⟩, 15) := ⟨⟨by decide +kernel, by decide +kernel⟩, List.mem_of_getElem? (i := 21) (by decide +kernel), List.mem_of_getElem? (i := 872) (by decide +kernel), List.mem_of_getElem? (i := 873) (by decide +kernel)⟩
theorem lw_p28 : lw_okq (⟨"MatchTrees$Trees", "allColumns", "()I"⟩, 15) := ⟨⟨by decide +kernel, by decide +kernel⟩, List.mem_of_getElem? (i := 423) (by decide +kernel), List.mem_of_getElem? (i := 950) (by decide +kernel), List.mem_of_getElem? (i := 951) (by decide +kernel)⟩
theorem lw_p29 : lw_okq (⟨"MatchTrees$Trees", "columnAsked", "(II)I"⟩, 15) := ⟨⟨by decide +kernel, by decide +kernel⟩, List.mem_of_getElem? (i := 423) (by decide +kernel), List.mem_of_getElem? (i := 957) (by decide +kernel), List.mem_of_getElem? (i := 958) (by decide +kernel)⟩
theorem lw_p30 : lw_okq (⟨"MatchTrees$Trees", "costOf", "(II)I"⟩, 15) := ⟨⟨by decide +kernel, by decide +kernel⟩, List.mem_of_getElem? (i := 423) (by decide +kernel), List.mem_of_getElem? (i := 966) (by decide +kernel), List.mem_of_getElem? (i := 967) (by decide +kernel)⟩
theorem lw_p31 : lw_okq (⟨"MatchTrees$Trees", "notFullInRow", "(II)I"⟩, 15) := ⟨⟨by decide +kernel, by decide +kernel⟩, List.mem_of_getElem? (i := 423) (by decide +kernel), List.mem_of_getElem? (i := 970) (by decide +kernel), List.mem_of_getElem? (i := 971) (by decide +kernel)⟩
def lw_privs_2 : List (MethodName × Nat) := [(⟨"MatchTrees$Reader", "readNumber", "(II)I"⟩, 5), (⟨"MatchTrees$Reader", "readConName", "(I)I"⟩, 5), (⟨"MatchTrees$Reader", "fillCase", "(III)V"⟩, 5), (⟨"MatchTrees$Reader", "readRule", "()Z"⟩, 5), (⟨"MatchTrees$Reader", "readBudget", "()Z"⟩, 5), (⟨"MatchTrees", "startMatch", "()V"⟩, 15), (⟨"MatchTrees", "matched", "()Z"⟩, 15), (⟨"MatchTrees", "isUseful", "(I)Z"⟩, 15), (⟨"MatchTrees", "rowsFitting", "(I)I"⟩, 15), (⟨"MatchTrees", "rowsTaken", "(I)I"⟩, 15), (⟨"MatchTrees", "countMissing", "(I)I"⟩, 15), (⟨"MatchTrees", "findMissing", "(II)I"⟩, 15), (⟨"MatchTrees$Trees", "allColumns", "()I"⟩, 15), (⟨"MatchTrees$Trees", "columnAsked", "(II)I"⟩, 15), (⟨"MatchTrees$Trees", "costOf", "(II)I"⟩, 15), (⟨"MatchTrees$Trees", "notFullInRow", "(II)I"⟩, 15)]
theorem lw_r2 : ∀ q ∈ lw_privs_2, lw_okq q := List.forall_mem_cons.mpr ⟨lw_p16, List.forall_mem_cons.mpr ⟨lw_p17, List.forall_mem_cons.mpr ⟨lw_p18, List.forall_mem_cons.mpr ⟨lw_p19, List.forall_mem_cons.mpr ⟨lw_p20, List.forall_mem_cons.mpr ⟨lw_p21, List.forall_mem_cons.mpr ⟨lw_p22, List.forall_mem_cons.mpr ⟨lw_p23, List.forall_mem_cons.mpr ⟨lw_p24, List.forall_mem_cons.mpr ⟨lw_p25, List.forall_mem_cons.mpr ⟨lw_p26, List.forall_mem_cons.mpr ⟨lw_p27, List.forall_mem_cons.mpr ⟨lw_p28, List.forall_mem_cons.mpr ⟨lw_p29, List.forall_mem_cons.mpr ⟨lw_p30, List.forall_mem_cons.mpr ⟨lw_p31, fun _ h => absurd h List.not_mem_nil⟩⟩⟩⟩⟩⟩⟩⟩⟩⟩⟩⟩⟩⟩⟩⟩
theorem lw_p32 : lw_okq (⟨"MatchTrees$Trees", "countBranches", "(II)I"⟩, 15) := ⟨⟨by decide +kernel, by decide +kernel⟩, List.mem_of_getElem? (i := 423) (by decide +kernel), List.mem_of_getElem? (i := 974) (by decide +kernel), List.mem_of_getElem? (i := 975) (by decide +kernel)⟩
theorem lw_p33 : lw_okq (⟨"MatchTrees$Trees", "mostArms", "(II)I"⟩, 15) := ⟨⟨by decide +kernel, by decide +kernel⟩, List.mem_of_getElem? (i := 423) (by decide +kernel), List.mem_of_getElem? (i := 980) (by decide +kernel), List.mem_of_getElem? (i := 981) (by decide +kernel)⟩
theorem lw_p34 : lw_okq (⟨"MatchTrees$Trees", "rowsOf", "(I)I"⟩, 15) := ⟨⟨by decide +kernel, by decide +kernel⟩, List.mem_of_getElem? (i := 423) (by decide +kernel), List.mem_of_getElem? (i := 992) (by decide +kernel), List.mem_of_getElem? (i := 993) (by decide +kernel)⟩
theorem lw_p35 : lw_okq (⟨"MatchTrees$Trees", "split", "(III)LMatchTrees$Groups;"⟩, 15) := ⟨⟨by decide +kernel, by decide +kernel⟩, List.mem_of_getElem? (i := 423) (by decide +kernel), List.mem_of_getElem? (i := 996) (by decide +kernel), List.mem_of_getElem? (i := 997) (by decide +kernel)⟩
theorem lw_p36 : lw_okq (⟨"MatchTrees$Trees", "openScope", "()V"⟩, 15) := ⟨⟨by decide +kernel, by decide +kernel⟩, List.mem_of_getElem? (i := 423) (by decide +kernel), List.mem_of_getElem? (i := 1040) (by decide +kernel), List.mem_of_getElem? (i := 1041) (by decide +kernel)⟩
theorem lw_p37 : lw_okq (⟨"MatchTrees$Trees", "shutScope", "(I)V"⟩, 15) := ⟨⟨by decide +kernel, by decide +kernel⟩, List.mem_of_getElem? (i := 423) (by decide +kernel), List.mem_of_getElem? (i := 1044) (by decide +kernel), List.mem_of_getElem? (i := 1045) (by decide +kernel)⟩
theorem lw_p38 : lw_okq (⟨"MatchTrees", "trialTakesAlike", "()Z"⟩, 15) := ⟨⟨by decide +kernel, by decide +kernel⟩, List.mem_of_getElem? (i := 21) (by decide +kernel), List.mem_of_getElem? (i := 1065) (by decide +kernel), List.mem_of_getElem? (i := 1066) (by decide +kernel)⟩
theorem lw_p39 : lw_okq (⟨"MatchTrees", "allTests", "(LMatchTrees$Order;)I"⟩, 15) := ⟨⟨by decide +kernel, by decide +kernel⟩, List.mem_of_getElem? (i := 21) (by decide +kernel), List.mem_of_getElem? (i := 1078) (by decide +kernel), List.mem_of_getElem? (i := 1079) (by decide +kernel)⟩
theorem lw_p40 : lw_okq (⟨"MatchTrees$Seen", "agrees", "(LMatchTrees$Table;LMatchTrees$Order;I)Z"⟩, 6) := ⟨⟨by decide +kernel, by decide +kernel⟩, List.mem_of_getElem? (i := 155) (by decide +kernel), List.mem_of_getElem? (i := 1105) (by decide +kernel), List.mem_of_getElem? (i := 1106) (by decide +kernel)⟩
theorem lw_p41 : lw_okq (⟨"MatchTrees", "remember", "()V"⟩, 15) := ⟨⟨by decide +kernel, by decide +kernel⟩, List.mem_of_getElem? (i := 21) (by decide +kernel), List.mem_of_getElem? (i := 1126) (by decide +kernel), List.mem_of_getElem? (i := 1127) (by decide +kernel)⟩
theorem lw_p42 : lw_okq (⟨"MatchTrees", "runRow", "(I)I"⟩, 15) := ⟨⟨by decide +kernel, by decide +kernel⟩, List.mem_of_getElem? (i := 21) (by decide +kernel), List.mem_of_getElem? (i := 1138) (by decide +kernel), List.mem_of_getElem? (i := 1139) (by decide +kernel)⟩
theorem lw_p43 : lw_okq (⟨"MatchTrees", "draw", "(I)I"⟩, 15) := ⟨⟨by decide +kernel, by decide +kernel⟩, List.mem_of_getElem? (i := 21) (by decide +kernel), List.mem_of_getElem? (i := 1155) (by decide +kernel), List.mem_of_getElem? (i := 1156) (by decide +kernel)⟩
theorem lw_p44 : lw_okq (⟨"MatchTrees", "isImage", "()Z"⟩, 15) := ⟨⟨by decide +kernel, by decide +kernel⟩, List.mem_of_getElem? (i := 21) (by decide +kernel), List.mem_of_getElem? (i := 1215) (by decide +kernel), List.mem_of_getElem? (i := 1216) (by decide +kernel)⟩
theorem lw_p45 : lw_okq (⟨"MatchTrees", "takeImage", "()V"⟩, 15) := ⟨⟨by decide +kernel, by decide +kernel⟩, List.mem_of_getElem? (i := 21) (by decide +kernel), List.mem_of_getElem? (i := 1219) (by decide +kernel), List.mem_of_getElem? (i := 1220) (by decide +kernel)⟩
theorem lw_p46 : lw_okq (⟨"MatchTreesModel", "begin", "()V"⟩, 98) := ⟨⟨by decide +kernel, by decide +kernel⟩, List.mem_of_getElem? (i := 1229) (by decide +kernel), List.mem_of_getElem? (i := 1236) (by decide +kernel), List.mem_of_getElem? (i := 1237) (by decide +kernel)⟩
theorem lw_p47 : lw_okq (⟨"MatchTreesModel", "refuses", "(I)I"⟩, 98) := ⟨⟨by decide +kernel, by decide +kernel⟩, List.mem_of_getElem? (i := 1229) (by decide +kernel), List.mem_of_getElem? (i := 1539) (by decide +kernel), List.mem_of_getElem? (i := 1540) (by decide +kernel)⟩
def lw_privs_3 : List (MethodName × Nat) := [(⟨"MatchTrees$Trees", "countBranches", "(II)I"⟩, 15), (⟨"MatchTrees$Trees", "mostArms", "(II)I"⟩, 15), (⟨"MatchTrees$Trees", "rowsOf", "(I)I"⟩, 15), (⟨"MatchTrees$Trees", "split", "(III)LMatchTrees$Groups;"⟩, 15), (⟨"MatchTrees$Trees", "openScope", "()V"⟩, 15), (⟨"MatchTrees$Trees", "shutScope", "(I)V"⟩, 15), (⟨"MatchTrees", "trialTakesAlike", "()Z"⟩, 15), (⟨"MatchTrees", "allTests", "(LMatchTrees$Order;)I"⟩, 15), (⟨"MatchTrees$Seen", "agrees", "(LMatchTrees$Table;LMatchTrees$Order;I)Z"⟩, 6), (⟨"MatchTrees", "remember", "()V"⟩, 15), (⟨"MatchTrees", "runRow", "(I)I"⟩, 15), (⟨"MatchTrees", "draw", "(I)I"⟩, 15), (⟨"MatchTrees", "isImage", "()Z"⟩, 15), (⟨"MatchTrees", "takeImage", "()V"⟩, 15), (⟨"MatchTreesModel", "begin", "()V"⟩, 98), (⟨"MatchTreesModel", "refuses", "(I)I"⟩, 98)]
theorem lw_r3 : ∀ q ∈ lw_privs_3, lw_okq q := List.forall_mem_cons.mpr ⟨lw_p32, List.forall_mem_cons.mpr ⟨lw_p33, List.forall_mem_cons.mpr ⟨lw_p34, List.forall_mem_cons.mpr ⟨lw_p35, List.forall_mem_cons.mpr ⟨lw_p36, List.forall_mem_cons.mpr ⟨lw_p37, List.forall_mem_cons.mpr ⟨lw_p38, List.forall_mem_cons.mpr ⟨lw_p39, List.forall_mem_cons.mpr ⟨lw_p40, List.forall_mem_cons.mpr ⟨lw_p41, List.forall_mem_cons.mpr ⟨lw_p42, List.forall_mem_cons.mpr ⟨lw_p43, List.forall_mem_cons.mpr ⟨lw_p44, List.forall_mem_cons.mpr ⟨lw_p45, List.forall_mem_cons.mpr ⟨lw_p46, List.forall_mem_cons.mpr ⟨lw_p47, fun _ h => absurd h List.not_mem_nil⟩⟩⟩⟩⟩⟩⟩⟩⟩⟩⟩⟩⟩⟩⟩⟩
theorem lw_p48 : lw_okq (⟨"MatchTreesModel", "put", "(I)V"⟩, 98) := ⟨⟨by decide +kernel, by decide +kernel⟩, List.mem_of_getElem? (i := 1229) (by decide +kernel), List.mem_of_getElem? (i := 1543) (by decide +kernel), List.mem_of_getElem? (i := 1544) (by decide +kernel)⟩
theorem lw_p49 : lw_okq (⟨"MatchTreesModel", "ahead", "()V"⟩, 98) := ⟨⟨by decide +kernel, by decide +kernel⟩, List.mem_of_getElem? (i := 1229) (by decide +kernel), List.mem_of_getElem? (i := 1555) (by decide +kernel), List.mem_of_getElem? (i := 1556) (by decide +kernel)⟩
theorem lw_p50 : lw_okq (⟨"MatchTreesModel", "statement", "()V"⟩, 98) := ⟨⟨by decide +kernel, by decide +kernel⟩, List.mem_of_getElem? (i := 1229) (by decide +kernel), List.mem_of_getElem? (i := 1565) (by decide +kernel), List.mem_of_getElem? (i := 1566) (by decide +kernel)⟩
theorem lw_p51 : lw_okq (⟨"MatchTreesModel", "lex", "()V"⟩, 98) := ⟨⟨by decide +kernel, by decide +kernel⟩, List.mem_of_getElem? (i := 1229) (by decide +kernel), List.mem_of_getElem? (i := 1569) (by decide +kernel), List.mem_of_getElem? (i := 1570) (by decide +kernel)⟩
theorem lw_p52 : lw_okq (⟨"MatchTreesModel", "blame", "(II)V"⟩, 98) := ⟨⟨by decide +kernel, by decide +kernel⟩, List.mem_of_getElem? (i := 1229) (by decide +kernel), List.mem_of_getElem? (i := 1573) (by decide +kernel), List.mem_of_getElem? (i := 1574) (by decide +kernel)⟩
theorem lw_p53 : lw_okq (⟨"MatchTreesModel", "isWord", "(J)Z"⟩, 98) := ⟨⟨by decide +kernel, by decide +kernel⟩, List.mem_of_getElem? (i := 1229) (by decide +kernel), List.mem_of_getElem? (i := 1578) (by decide +kernel), List.mem_of_getElem? (i := 1579) (by decide +kernel)⟩
theorem lw_p54 : lw_okq (⟨"MatchTreesModel", "kindIs", "()V"⟩, 98) := ⟨⟨by decide +kernel, by decide +kernel⟩, List.mem_of_getElem? (i := 1229) (by decide +kernel), List.mem_of_getElem? (i := 1582) (by decide +kernel), List.mem_of_getElem? (i := 1583) (by decide +kernel)⟩
theorem lw_p55 : lw_okq (⟨"MatchTreesModel", "isCounted", "(Z)Z"⟩, 98) := ⟨⟨by decide +kernel, by decide +kernel⟩, List.mem_of_getElem? (i := 1229) (by decide +kernel), List.mem_of_getElem? (i := 1586) (by decide +kernel), List.mem_of_getElem? (i := 1587) (by decide +kernel)⟩
theorem lw_p56 : lw_okq (⟨"MatchTreesModel", "fresh", "()J"⟩, 98) := ⟨⟨by decide +kernel, by decide +kernel⟩, List.mem_of_getElem? (i := 1229) (by decide +kernel), List.mem_of_getElem? (i := 1590) (by decide +kernel), List.mem_of_getElem? (i := 1591) (by decide +kernel)⟩
theorem lw_p57 : lw_okq (⟨"MatchTreesModel", "isOwn", "(J)Z"⟩, 98) := ⟨⟨by decide +kernel, by decide +kernel⟩, List.mem_of_getElem? (i := 1229) (by decide +kernel), List.mem_of_getElem? (i := 1594) (by decide +kernel), List.mem_of_getElem? (i := 1595) (by decide +kernel)⟩
theorem lw_p58 : lw_okq (⟨"MatchTreesModel", "kindNamed", "(J)I"⟩, 98) := ⟨⟨by decide +kernel, by decide +kernel⟩, List.mem_of_getElem? (i := 1229) (by decide +kernel), List.mem_of_getElem? (i := 1608) (by decide +kernel), List.mem_of_getElem? (i := 1609) (by decide +kernel)⟩
theorem lw_p59 : lw_okq (⟨"MatchTreesModel", "conNamed", "(IJ)I"⟩, 98) := ⟨⟨by decide +kernel, by decide +kernel⟩, List.mem_of_getElem? (i := 1229) (by decide +kernel), List.mem_of_getElem? (i := 1612) (by decide +kernel), List.mem_of_getElem? (i := 1613) (by decide +kernel)⟩
theorem lw_p60 : lw_okq (⟨"MatchTreesModel", "conIs", "()V"⟩, 98) := ⟨⟨by decide +kernel, by decide +kernel⟩, List.mem_of_getElem? (i := 1229) (by decide +kernel), List.mem_of_getElem? (i := 1616) (by decide +kernel), List.mem_of_getElem? (i := 1617) (by decide +kernel)⟩
theorem lw_p61 : lw_okq (⟨"MatchTreesModel", "isKindHere", "()Z"⟩, 98) := ⟨⟨by decide +kernel, by decide +kernel⟩, List.mem_of_getElem? (i := 1229) (by decide +kernel), List.mem_of_getElem? (i := 1620) (by decide +kernel), List.mem_of_getElem? (i := 1621) (by decide +kernel)⟩
theorem lw_p62 : lw_okq (⟨"MatchTreesModel", "known", "(I)I"⟩, 98) := ⟨⟨by decide +kernel, by decide +kernel⟩, List.mem_of_getElem? (i := 1229) (by decide +kernel), List.mem_of_getElem? (i := 1624) (by decide +kernel), List.mem_of_getElem? (i := 1625) (by decide +kernel)⟩
theorem lw_p63 : lw_okq (⟨"MatchTreesModel", "valuesOf", "(II)I"⟩, 98) := ⟨⟨by decide +kernel, by decide +kernel⟩, List.mem_of_getElem? (i := 1229) (by decide +kernel), List.mem_of_getElem? (i := 1628) (by decide +kernel), List.mem_of_getElem? (i := 1629) (by decide +kernel)⟩
def lw_privs_4 : List (MethodName × Nat) := [(⟨"MatchTreesModel", "put", "(I)V"⟩, 98), (⟨"MatchTreesModel", "ahead", "()V"⟩, 98), (⟨"MatchTreesModel", "statement", "()V"⟩, 98), (⟨"MatchTreesModel", "lex", "()V"⟩, 98), (⟨"MatchTreesModel", "blame", "(II)V"⟩, 98), (⟨"MatchTreesModel", "isWord", "(J)Z"⟩, 98), (⟨"MatchTreesModel", "kindIs", "()V"⟩, 98), (⟨"MatchTreesModel", "isCounted", "(Z)Z"⟩, 98), (⟨"MatchTreesModel", "fresh", "()J"⟩, 98), (⟨"MatchTreesModel", "isOwn", "(J)Z"⟩, 98), (⟨"MatchTreesModel", "kindNamed", "(J)I"⟩, 98), (⟨"MatchTreesModel", "conNamed", "(IJ)I"⟩, 98), (⟨"MatchTreesModel", "conIs", "()V"⟩, 98), (⟨"MatchTreesModel", "isKindHere", "()Z"⟩, 98), (⟨"MatchTreesModel", "known", "(I)I"⟩, 98), (⟨"MatchTreesModel", "valuesOf", "(II)I"⟩, 98)]
theorem lw_r4 : ∀ q ∈ lw_privs_4, lw_okq q := List.forall_mem_cons.mpr ⟨lw_p48, List.forall_mem_cons.mpr ⟨lw_p49, List.forall_mem_cons.mpr ⟨lw_p50, List.forall_mem_cons.mpr ⟨lw_p51, List.forall_mem_cons.mpr ⟨lw_p52, List.forall_mem_cons.mpr ⟨lw_p53, List.forall_mem_cons.mpr ⟨lw_p54, List.forall_mem_cons.mpr ⟨lw_p55, List.forall_mem_cons.mpr ⟨lw_p56, List.forall_mem_cons.mpr ⟨lw_p57, List.forall_mem_cons.mpr ⟨lw_p58, List.forall_mem_cons.mpr ⟨lw_p59, List.forall_mem_cons.mpr ⟨lw_p60, List.forall_mem_cons.mpr ⟨lw_p61, List.forall_mem_cons.mpr ⟨lw_p62, List.forall_mem_cons.mpr ⟨lw_p63, fun _ h => absurd h List.not_mem_nil⟩⟩⟩⟩⟩⟩⟩⟩⟩⟩⟩⟩⟩⟩⟩⟩
theorem lw_p64 : lw_okq (⟨"MatchTreesModel", "matchIs", "()V"⟩, 98) := ⟨⟨by decide +kernel, by decide +kernel⟩, List.mem_of_getElem? (i := 1229) (by decide +kernel), List.mem_of_getElem? (i := 1632) (by decide +kernel), List.mem_of_getElem? (i := 1633) (by decide +kernel)⟩
theorem lw_p65 : lw_okq (⟨"MatchTreesModel", "armIs", "()V"⟩, 98) := ⟨⟨by decide +kernel, by decide +kernel⟩, List.mem_of_getElem? (i := 1229) (by decide +kernel), List.mem_of_getElem? (i := 1636) (by decide +kernel), List.mem_of_getElem? (i := 1637) (by decide +kernel)⟩
theorem lw_p66 : lw_okq (⟨"MatchTreesModel", "must", "(I)V"⟩, 98) := ⟨⟨by decide +kernel, by decide +kernel⟩, List.mem_of_getElem? (i := 1229) (by decide +kernel), List.mem_of_getElem? (i := 1640) (by decide +kernel), List.mem_of_getElem? (i := 1641) (by decide +kernel)⟩
theorem lw_p67 : lw_okq (⟨"MatchTreesModel", "isSign", "(I)Z"⟩, 98) := ⟨⟨by decide +kernel, by decide +kernel⟩, List.mem_of_getElem? (i := 1229) (by decide +kernel), List.mem_of_getElem? (i := 1644) (by decide +kernel), List.mem_of_getElem? (i := 1645) (by decide +kernel)⟩
theorem lw_p68 : lw_okq (⟨"MatchTreesModel", "pattern", "(I)V"⟩, 98) := ⟨⟨by decide +kernel, by decide +kernel⟩, List.mem_of_getElem? (i := 1229) (by decide +kernel), List.mem_of_getElem? (i := 1648) (by decide +kernel), List.mem_of_getElem? (i := 1649) (by decide +kernel)⟩
theorem lw_p69 : lw_okq (⟨"MatchTreesModel", "opensPattern", "(I)V"⟩, 98) := ⟨⟨by decide +kernel, by decide +kernel⟩, List.mem_of_getElem? (i := 1229) (by decide +kernel), List.mem_of_getElem? (i := 1652) (by decide +kernel), List.mem_of_getElem? (i := 1653) (by decide +kernel)⟩
theorem lw_p70 : lw_okq (⟨"MatchTreesModel", "alternative", "()Z"⟩, 98) := ⟨⟨by decide +kernel, by decide +kernel⟩, List.mem_of_getElem? (i := 1229) (by decide +kernel), List.mem_of_getElem? (i := 1656) (by decide +kernel), List.mem_of_getElem? (i := 1657) (by decide +kernel)⟩
theorem lw_p71 : lw_okq (⟨"MatchTreesModel", "emits", "(III)V"⟩, 98) := ⟨⟨by decide +kernel, by decide +kernel⟩, List.mem_of_getElem? (i := 1229) (by decide +kernel), List.mem_of_getElem? (i := 1660) (by decide +kernel), List.mem_of_getElem? (i := 1661) (by decide +kernel)⟩
theorem lw_p72 : lw_okq (⟨"MatchTreesModel", "range", "()V"⟩, 98) := ⟨⟨by decide +kernel, by decide +kernel⟩, List.mem_of_getElem? (i := 1229) (by decide +kernel), List.mem_of_getElem? (i := 1664) (by decide +kernel), List.mem_of_getElem? (i := 1665) (by decide +kernel)⟩
theorem lw_p73 : lw_okq (⟨"MatchTreesModel", "number", "(II)I"⟩, 98) := ⟨⟨by decide +kernel, by decide +kernel⟩, List.mem_of_getElem? (i := 1229) (by decide +kernel), List.mem_of_getElem? (i := 1668) (by decide +kernel), List.mem_of_getElem? (i := 1669) (by decide +kernel)⟩
theorem lw_p74 : lw_okq (⟨"MatchTreesModel", "fieldBegins", "(II)V"⟩, 98) := ⟨⟨by decide +kernel, by decide +kernel⟩, List.mem_of_getElem? (i := 1229) (by decide +kernel), List.mem_of_getElem? (i := 1675) (by decide +kernel), List.mem_of_getElem? (i := 1676) (by decide +kernel)⟩
theorem lw_p75 : lw_okq (⟨"MatchTreesModel", "goesOn", "(I)Z"⟩, 98) := ⟨⟨by decide +kernel, by decide +kernel⟩, List.mem_of_getElem? (i := 1229) (by decide +kernel), List.mem_of_getElem? (i := 1679) (by decide +kernel), List.mem_of_getElem? (i := 1680) (by decide +kernel)⟩
theorem lw_p76 : lw_okq (⟨"MatchTreesModel", "ruleIs", "()V"⟩, 98) := ⟨⟨by decide +kernel, by decide +kernel⟩, List.mem_of_getElem? (i := 1229) (by decide +kernel), List.mem_of_getElem? (i := 1683) (by decide +kernel), List.mem_of_getElem? (i := 1684) (by decide +kernel)⟩
theorem lw_p77 : lw_okq (⟨"MatchTreesModel", "budgetIs", "()V"⟩, 98) := ⟨⟨by decide +kernel, by decide +kernel⟩, List.mem_of_getElem? (i := 1229) (by decide +kernel), List.mem_of_getElem? (i := 1687) (by decide +kernel), List.mem_of_getElem? (i := 1688) (by decide +kernel)⟩
theorem lw_p78 : lw_okq (⟨"MatchTreesModel", "finishes", "(I)V"⟩, 98) := ⟨⟨by decide +kernel, by decide +kernel⟩, List.mem_of_getElem? (i := 1229) (by decide +kernel), List.mem_of_getElem? (i := 1691) (by decide +kernel), List.mem_of_getElem? (i := 1692) (by decide +kernel)⟩
theorem lw_p79 : lw_okq (⟨"MatchTreesModel", "lays", "()V"⟩, 98) := ⟨⟨by decide +kernel, by decide +kernel⟩, List.mem_of_getElem? (i := 1229) (by decide +kernel), List.mem_of_getElem? (i := 1695) (by decide +kernel), List.mem_of_getElem? (i := 1696) (by decide +kernel)⟩
def lw_privs_5 : List (MethodName × Nat) := [(⟨"MatchTreesModel", "matchIs", "()V"⟩, 98), (⟨"MatchTreesModel", "armIs", "()V"⟩, 98), (⟨"MatchTreesModel", "must", "(I)V"⟩, 98), (⟨"MatchTreesModel", "isSign", "(I)Z"⟩, 98), (⟨"MatchTreesModel", "pattern", "(I)V"⟩, 98), (⟨"MatchTreesModel", "opensPattern", "(I)V"⟩, 98), (⟨"MatchTreesModel", "alternative", "()Z"⟩, 98), (⟨"MatchTreesModel", "emits", "(III)V"⟩, 98), (⟨"MatchTreesModel", "range", "()V"⟩, 98), (⟨"MatchTreesModel", "number", "(II)I"⟩, 98), (⟨"MatchTreesModel", "fieldBegins", "(II)V"⟩, 98), (⟨"MatchTreesModel", "goesOn", "(I)Z"⟩, 98), (⟨"MatchTreesModel", "ruleIs", "()V"⟩, 98), (⟨"MatchTreesModel", "budgetIs", "()V"⟩, 98), (⟨"MatchTreesModel", "finishes", "(I)V"⟩, 98), (⟨"MatchTreesModel", "lays", "()V"⟩, 98)]
theorem lw_r5 : ∀ q ∈ lw_privs_5, lw_okq q := List.forall_mem_cons.mpr ⟨lw_p64, List.forall_mem_cons.mpr ⟨lw_p65, List.forall_mem_cons.mpr ⟨lw_p66, List.forall_mem_cons.mpr ⟨lw_p67, List.forall_mem_cons.mpr ⟨lw_p68, List.forall_mem_cons.mpr ⟨lw_p69, List.forall_mem_cons.mpr ⟨lw_p70, List.forall_mem_cons.mpr ⟨lw_p71, List.forall_mem_cons.mpr ⟨lw_p72, List.forall_mem_cons.mpr ⟨lw_p73, List.forall_mem_cons.mpr ⟨lw_p74, List.forall_mem_cons.mpr ⟨lw_p75, List.forall_mem_cons.mpr ⟨lw_p76, List.forall_mem_cons.mpr ⟨lw_p77, List.forall_mem_cons.mpr ⟨lw_p78, List.forall_mem_cons.mpr ⟨lw_p79, fun _ h => absurd h List.not_mem_nil⟩⟩⟩⟩⟩⟩⟩⟩⟩⟩⟩⟩⟩⟩⟩⟩
theorem lw_p80 : lw_okq (⟨"MatchTreesModel", "columns", "()I"⟩, 98) := ⟨⟨by decide +kernel, by decide +kernel⟩, List.mem_of_getElem? (i := 1229) (by decide +kernel), List.mem_of_getElem? (i := 1699) (by decide +kernel), List.mem_of_getElem? (i := 1700) (by decide +kernel)⟩
theorem lw_p81 : lw_okq (⟨"MatchTreesModel", "columnValues", "(I)I"⟩, 98) := ⟨⟨by decide +kernel, by decide +kernel⟩, List.mem_of_getElem? (i := 1229) (by decide +kernel), List.mem_of_getElem? (i := 1703) (by decide +kernel), List.mem_of_getElem? (i := 1704) (by decide +kernel)⟩
theorem lw_p82 : lw_okq (⟨"MatchTreesModel", "isFitting", "(III)Z"⟩, 98) := ⟨⟨by decide +kernel, by decide +kernel⟩, List.mem_of_getElem? (i := 1229) (by decide +kernel), List.mem_of_getElem? (i := 1707) (by decide +kernel), List.mem_of_getElem? (i := 1708) (by decide +kernel)⟩
theorem lw_p83 : lw_okq (⟨"MatchTreesModel", "fieldOf", "(III)I"⟩, 98) := ⟨⟨by decide +kernel, by decide +kernel⟩, List.mem_of_getElem? (i := 1229) (by decide +kernel), List.mem_of_getElem? (i := 1711) (by decide +kernel), List.mem_of_getElem? (i := 1712) (by decide +kernel)⟩
theorem lw_p84 : lw_okq (⟨"MatchTreesModel", "slot", "(I)I"⟩, 98) := ⟨⟨by decide +kernel, by decide +kernel⟩, List.mem_of_getElem? (i := 1229) (by decide +kernel), List.mem_of_getElem? (i := 1727) (by decide +kernel), List.mem_of_getElem? (i := 1728) (by decide +kernel)⟩
theorem lw_p85 : lw_okq (⟨"MatchTreesModel", "copies", "(II)V"⟩, 98) := ⟨⟨by decide +kernel, by decide +kernel⟩, List.mem_of_getElem? (i := 1229) (by decide +kernel), List.mem_of_getElem? (i := 1731) (by decide +kernel), List.mem_of_getElem? (i := 1732) (by decide +kernel)⟩
theorem lw_p86 : lw_okq (⟨"MatchTreesModel", "isPlace", "(I)Z"⟩, 98) := ⟨⟨by decide +kernel, by decide +kernel⟩, List.mem_of_getElem? (i := 1229) (by decide +kernel), List.mem_of_getElem? (i := 1755) (by decide +kernel), List.mem_of_getElem? (i := 1756) (by decide +kernel)⟩
theorem lw_p87 : lw_okq (⟨"MatchTreesModel", "arranges", "(I)V"⟩, 98) := ⟨⟨by decide +kernel, by decide +kernel⟩, List.mem_of_getElem? (i := 1229) (by decide +kernel), List.mem_of_getElem? (i := 1759) (by decide +kernel), List.mem_of_getElem? (i := 1760) (by decide +kernel)⟩
theorem lw_p88 : lw_okq (⟨"MatchTreesModel", "placed", "(II)I"⟩, 98) := ⟨⟨by decide +kernel, by decide +kernel⟩, List.mem_of_getElem? (i := 1229) (by decide +kernel), List.mem_of_getElem? (i := 1763) (by decide +kernel), List.mem_of_getElem? (i := 1764) (by decide +kernel)⟩
theorem lw_p89 : lw_okq (⟨"MatchTreesModel", "countsRows", "()V"⟩, 98) := ⟨⟨by decide +kernel, by decide +kernel⟩, List.mem_of_getElem? (i := 1229) (by decide +kernel), List.mem_of_getElem? (i := 1767) (by decide +kernel), List.mem_of_getElem? (i := 1768) (by decide +kernel)⟩
theorem lw_p90 : lw_okq (⟨"MatchTreesModel", "fitting", "(I)I"⟩, 98) := ⟨⟨by decide +kernel, by decide +kernel⟩, List.mem_of_getElem? (i := 1229) (by decide +kernel), List.mem_of_getElem? (i := 1771) (by decide +kernel), List.mem_of_getElem? (i := 1772) (by decide +kernel)⟩
theorem lw_p91 : lw_okq (⟨"MatchTreesModel", "valuesIn", "(I)V"⟩, 98) := ⟨⟨by decide +kernel, by decide +kernel⟩, List.mem_of_getElem? (i := 1229) (by decide +kernel), List.mem_of_getElem? (i := 1775) (by decide +kernel), List.mem_of_getElem? (i := 1776) (by decide +kernel)⟩
theorem lw_p92 : lw_okq (⟨"MatchTreesModel", "setIn", "(II)I"⟩, 98) := ⟨⟨by decide +kernel, by decide +kernel⟩, List.mem_of_getElem? (i := 1229) (by decide +kernel), List.mem_of_getElem? (i := 1779) (by decide +kernel), List.mem_of_getElem? (i := 1780) (by decide +kernel)⟩
theorem lw_p93 : lw_okq (⟨"MatchTreesModel", "isUseful", "(I)I"⟩, 98) := ⟨⟨by decide +kernel, by decide +kernel⟩, List.mem_of_getElem? (i := 1229) (by decide +kernel), List.mem_of_getElem? (i := 1783) (by decide +kernel), List.mem_of_getElem? (i := 1784) (by decide +kernel)⟩
theorem lw_p94 : lw_okq (⟨"MatchTreesModel", "fittingRows", "(I)I"⟩, 98) := ⟨⟨by decide +kernel, by decide +kernel⟩, List.mem_of_getElem? (i := 1229) (by decide +kernel), List.mem_of_getElem? (i := 1787) (by decide +kernel), List.mem_of_getElem? (i := 1788) (by decide +kernel)⟩
theorem lw_p95 : lw_okq (⟨"MatchTreesModel", "takenRows", "(I)I"⟩, 98) := ⟨⟨by decide +kernel, by decide +kernel⟩, List.mem_of_getElem? (i := 1229) (by decide +kernel), List.mem_of_getElem? (i := 1791) (by decide +kernel), List.mem_of_getElem? (i := 1792) (by decide +kernel)⟩
def lw_privs_6 : List (MethodName × Nat) := [(⟨"MatchTreesModel", "columns", "()I"⟩, 98), (⟨"MatchTreesModel", "columnValues", "(I)I"⟩, 98), (⟨"MatchTreesModel", "isFitting", "(III)Z"⟩, 98), (⟨"MatchTreesModel", "fieldOf", "(III)I"⟩, 98), (⟨"MatchTreesModel", "slot", "(I)I"⟩, 98), (⟨"MatchTreesModel", "copies", "(II)V"⟩, 98), (⟨"MatchTreesModel", "isPlace", "(I)Z"⟩, 98), (⟨"MatchTreesModel", "arranges", "(I)V"⟩, 98), (⟨"MatchTreesModel", "placed", "(II)I"⟩, 98), (⟨"MatchTreesModel", "countsRows", "()V"⟩, 98), (⟨"MatchTreesModel", "fitting", "(I)I"⟩, 98), (⟨"MatchTreesModel", "valuesIn", "(I)V"⟩, 98), (⟨"MatchTreesModel", "setIn", "(II)I"⟩, 98), (⟨"MatchTreesModel", "isUseful", "(I)I"⟩, 98), (⟨"MatchTreesModel", "fittingRows", "(I)I"⟩, 98), (⟨"MatchTreesModel", "takenRows", "(I)I"⟩, 98)]
theorem lw_r6 : ∀ q ∈ lw_privs_6, lw_okq q := List.forall_mem_cons.mpr ⟨lw_p80, List.forall_mem_cons.mpr ⟨lw_p81, List.forall_mem_cons.mpr ⟨lw_p82, List.forall_mem_cons.mpr ⟨lw_p83, List.forall_mem_cons.mpr ⟨lw_p84, List.forall_mem_cons.mpr ⟨lw_p85, List.forall_mem_cons.mpr ⟨lw_p86, List.forall_mem_cons.mpr ⟨lw_p87, List.forall_mem_cons.mpr ⟨lw_p88, List.forall_mem_cons.mpr ⟨lw_p89, List.forall_mem_cons.mpr ⟨lw_p90, List.forall_mem_cons.mpr ⟨lw_p91, List.forall_mem_cons.mpr ⟨lw_p92, List.forall_mem_cons.mpr ⟨lw_p93, List.forall_mem_cons.mpr ⟨lw_p94, List.forall_mem_cons.mpr ⟨lw_p95, fun _ h => absurd h List.not_mem_nil⟩⟩⟩⟩⟩⟩⟩⟩⟩⟩⟩⟩⟩⟩⟩⟩
theorem lw_p96 : lw_okq (⟨"MatchTreesModel", "openBy", "(I)I"⟩, 98) := ⟨⟨by decide +kernel, by decide +kernel⟩, List.mem_of_getElem? (i := 1229) (by decide +kernel), List.mem_of_getElem? (i := 1795) (by decide +kernel), List.mem_of_getElem? (i := 1796) (by decide +kernel)⟩
theorem lw_p97 : lw_okq (⟨"MatchTreesModel", "isRow", "(I)Z"⟩, 98) := ⟨⟨by decide +kernel, by decide +kernel⟩, List.mem_of_getElem? (i := 1229) (by decide +kernel), List.mem_of_getElem? (i := 1818) (by decide +kernel), List.mem_of_getElem? (i := 1819) (by decide +kernel)⟩
theorem lw_p98 : lw_okq (⟨"MatchTreesModel", "valueRead", "(I)I"⟩, 98) := ⟨⟨by decide +kernel, by decide +kernel⟩, List.mem_of_getElem? (i := 1229) (by decide +kernel), List.mem_of_getElem? (i := 1826) (by decide +kernel), List.mem_of_getElem? (i := 1827) (by decide +kernel)⟩
theorem lw_p99 : lw_okq (⟨"MatchTreesModel", "isMoreOf", "(I)Z"⟩, 98) := ⟨⟨by decide +kernel, by decide +kernel⟩, List.mem_of_getElem? (i := 1229) (by decide +kernel), List.mem_of_getElem? (i := 1830) (by decide +kernel), List.mem_of_getElem? (i := 1831) (by decide +kernel)⟩
theorem lw_p100 : lw_okq (⟨"MatchTreesModel", "conRead", "(I)I"⟩, 98) := ⟨⟨by decide +kernel, by decide +kernel⟩, List.mem_of_getElem? (i := 1229) (by decide +kernel), List.mem_of_getElem? (i := 1834) (by decide +kernel), List.mem_of_getElem? (i := 1835) (by decide +kernel)⟩
theorem lw_p101 : lw_okq (⟨"MatchTreesModel", "later", "(II)V"⟩, 98) := ⟨⟨by decide +kernel, by decide +kernel⟩, List.mem_of_getElem? (i := 1229) (by decide +kernel), List.mem_of_getElem? (i := 1842) (by decide +kernel), List.mem_of_getElem? (i := 1843) (by decide +kernel)⟩
theorem lw_p102 : lw_okq (⟨"MatchTreesModel", "writes", "(I)V"⟩, 98) := ⟨⟨by decide +kernel, by decide +kernel⟩, List.mem_of_getElem? (i := 1229) (by decide +kernel), List.mem_of_getElem? (i := 1846) (by decide +kernel), List.mem_of_getElem? (i := 1847) (by decide +kernel)⟩
theorem lw_p103 : lw_okq (⟨"MatchTreesModel", "writesValue", "(II)V"⟩, 98) := ⟨⟨by decide +kernel, by decide +kernel⟩, List.mem_of_getElem? (i := 1229) (by decide +kernel), List.mem_of_getElem? (i := 1850) (by decide +kernel), List.mem_of_getElem? (i := 1851) (by decide +kernel)⟩
theorem lw_p104 : lw_okq (⟨"MatchTreesModel", "conOf", "(II)I"⟩, 98) := ⟨⟨by decide +kernel, by decide +kernel⟩, List.mem_of_getElem? (i := 1229) (by decide +kernel), List.mem_of_getElem? (i := 1854) (by decide +kernel), List.mem_of_getElem? (i := 1855) (by decide +kernel)⟩
theorem lw_p105 : lw_okq (⟨"MatchTreesModel", "writesName", "(J)V"⟩, 98) := ⟨⟨by decide +kernel, by decide +kernel⟩, List.mem_of_getElem? (i := 1229) (by decide +kernel), List.mem_of_getElem? (i := 1858) (by decide +kernel), List.mem_of_getElem? (i := 1859) (by decide +kernel)⟩
theorem lw_p106 : lw_okq (⟨"MatchTreesModel", "plants", "(II)V"⟩, 98) := ⟨⟨by decide +kernel, by decide +kernel⟩, List.mem_of_getElem? (i := 1229) (by decide +kernel), List.mem_of_getElem? (i := 1870) (by decide +kernel), List.mem_of_getElem? (i := 1871) (by decide +kernel)⟩
theorem lw_p107 : lw_okq (⟨"MatchTreesModel", "allTests", "(I)I"⟩, 98) := ⟨⟨by decide +kernel, by decide +kernel⟩, List.mem_of_getElem? (i := 1229) (by decide +kernel), List.mem_of_getElem? (i := 1874) (by decide +kernel), List.mem_of_getElem? (i := 1875) (by decide +kernel)⟩
theorem lw_p108 : lw_okq (⟨"MatchTreesModel", "testsFor", "(II)I"⟩, 98) := ⟨⟨by decide +kernel, by decide +kernel⟩, List.mem_of_getElem? (i := 1229) (by decide +kernel), List.mem_of_getElem? (i := 1878) (by decide +kernel), List.mem_of_getElem? (i := 1879) (by decide +kernel)⟩
theorem lw_p109 : lw_okq (⟨"MatchTreesModel", "root", "()I"⟩, 98) := ⟨⟨by decide +kernel, by decide +kernel⟩, List.mem_of_getElem? (i := 1229) (by decide +kernel), List.mem_of_getElem? (i := 1882) (by decide +kernel), List.mem_of_getElem? (i := 1883) (by decide +kernel)⟩
theorem lw_p110 : lw_okq (⟨"MatchTreesModel", "asksFor", "(I)I"⟩, 98) := ⟨⟨by decide +kernel, by decide +kernel⟩, List.mem_of_getElem? (i := 1229) (by decide +kernel), List.mem_of_getElem? (i := 1892) (by decide +kernel), List.mem_of_getElem? (i := 1893) (by decide +kernel)⟩
theorem lw_p111 : lw_okq (⟨"MatchTreesModel", "worthOf", "(II)I"⟩, 98) := ⟨⟨by decide +kernel, by decide +kernel⟩, List.mem_of_getElem? (i := 1229) (by decide +kernel), List.mem_of_getElem? (i := 1899) (by decide +kernel), List.mem_of_getElem? (i := 1900) (by decide +kernel)⟩
def lw_privs_7 : List (MethodName × Nat) := [(⟨"MatchTreesModel", "openBy", "(I)I"⟩, 98), (⟨"MatchTreesModel", "isRow", "(I)Z"⟩, 98), (⟨"MatchTreesModel", "valueRead", "(I)I"⟩, 98), (⟨"MatchTreesModel", "isMoreOf", "(I)Z"⟩, 98), (⟨"MatchTreesModel", "conRead", "(I)I"⟩, 98), (⟨"MatchTreesModel", "later", "(II)V"⟩, 98), (⟨"MatchTreesModel", "writes", "(I)V"⟩, 98), (⟨"MatchTreesModel", "writesValue", "(II)V"⟩, 98), (⟨"MatchTreesModel", "conOf", "(II)I"⟩, 98), (⟨"MatchTreesModel", "writesName", "(J)V"⟩, 98), (⟨"MatchTreesModel", "plants", "(II)V"⟩, 98), (⟨"MatchTreesModel", "allTests", "(I)I"⟩, 98), (⟨"MatchTreesModel", "testsFor", "(II)I"⟩, 98), (⟨"MatchTreesModel", "root", "()I"⟩, 98), (⟨"MatchTreesModel", "asksFor", "(I)I"⟩, 98), (⟨"MatchTreesModel", "worthOf", "(II)I"⟩, 98)]
theorem lw_r7 : ∀ q ∈ lw_privs_7, lw_okq q := List.forall_mem_cons.mpr ⟨lw_p96, List.forall_mem_cons.mpr ⟨lw_p97, List.forall_mem_cons.mpr ⟨lw_p98, List.forall_mem_cons.mpr ⟨lw_p99, List.forall_mem_cons.mpr ⟨lw_p100, List.forall_mem_cons.mpr ⟨lw_p101, List.forall_mem_cons.mpr ⟨lw_p102, List.forall_mem_cons.mpr ⟨lw_p103, List.forall_mem_cons.mpr ⟨lw_p104, List.forall_mem_cons.mpr ⟨lw_p105, List.forall_mem_cons.mpr ⟨lw_p106, List.forall_mem_cons.mpr ⟨lw_p107, List.forall_mem_cons.mpr ⟨lw_p108, List.forall_mem_cons.mpr ⟨lw_p109, List.forall_mem_cons.mpr ⟨lw_p110, List.forall_mem_cons.mpr ⟨lw_p111, fun _ h => absurd h List.not_mem_nil⟩⟩⟩⟩⟩⟩⟩⟩⟩⟩⟩⟩⟩⟩⟩⟩
theorem lw_p112 : lw_okq (⟨"MatchTreesModel", "branchOf", "(III)I"⟩, 98) := ⟨⟨by decide +kernel, by decide +kernel⟩, List.mem_of_getElem? (i := 1229) (by decide +kernel), List.mem_of_getElem? (i := 1909) (by decide +kernel), List.mem_of_getElem? (i := 1910) (by decide +kernel)⟩
theorem lw_p113 : lw_okq (⟨"MatchTreesModel", "grows", "()V"⟩, 98) := ⟨⟨by decide +kernel, by decide +kernel⟩, List.mem_of_getElem? (i := 1229) (by decide +kernel), List.mem_of_getElem? (i := 1913) (by decide +kernel), List.mem_of_getElem? (i := 1914) (by decide +kernel)⟩
theorem lw_p114 : lw_okq (⟨"MatchTreesModel", "reaches", "(I)V"⟩, 98) := ⟨⟨by decide +kernel, by decide +kernel⟩, List.mem_of_getElem? (i := 1229) (by decide +kernel), List.mem_of_getElem? (i := 1917) (by decide +kernel), List.mem_of_getElem? (i := 1918) (by decide +kernel)⟩
theorem lw_p115 : lw_okq (⟨"MatchTreesModel", "isDoor", "(I)Z"⟩, 98) := ⟨⟨by decide +kernel, by decide +kernel⟩, List.mem_of_getElem? (i := 1229) (by decide +kernel), List.mem_of_getElem? (i := 1921) (by decide +kernel), List.mem_of_getElem? (i := 1922) (by decide +kernel)⟩
theorem lw_p116 : lw_okq (⟨"MatchTreesModel", "weighs", "(I)V"⟩, 98) := ⟨⟨by decide +kernel, by decide +kernel⟩, List.mem_of_getElem? (i := 1229) (by decide +kernel), List.mem_of_getElem? (i := 1928) (by decide +kernel), List.mem_of_getElem? (i := 1929) (by decide +kernel)⟩
theorem lw_p117 : lw_okq (⟨"MatchTreesModel", "builds", "()V"⟩, 98) := ⟨⟨by decide +kernel, by decide +kernel⟩, List.mem_of_getElem? (i := 1229) (by decide +kernel), List.mem_of_getElem? (i := 1941) (by decide +kernel), List.mem_of_getElem? (i := 1942) (by decide +kernel)⟩
theorem lw_p118 : lw_okq (⟨"MatchTreesModel", "opensScope", "(II)V"⟩, 98) := ⟨⟨by decide +kernel, by decide +kernel⟩, List.mem_of_getElem? (i := 1229) (by decide +kernel), List.mem_of_getElem? (i := 1945) (by decide +kernel), List.mem_of_getElem? (i := 1946) (by decide +kernel)⟩
theorem lw_p119 : lw_okq (⟨"MatchTreesModel", "nextBranch", "(I)I"⟩, 98) := ⟨⟨by decide +kernel, by decide +kernel⟩, List.mem_of_getElem? (i := 1229) (by decide +kernel), List.mem_of_getElem? (i := 1949) (by decide +kernel), List.mem_of_getElem? (i := 1950) (by decide +kernel)⟩
theorem lw_p120 : lw_okq (⟨"MatchTreesModel", "isNewSet", "(III)Z"⟩, 98) := ⟨⟨by decide +kernel, by decide +kernel⟩, List.mem_of_getElem? (i := 1229) (by decide +kernel), List.mem_of_getElem? (i := 1953) (by decide +kernel), List.mem_of_getElem? (i := 1954) (by decide +kernel)⟩
theorem lw_p121 : lw_okq (⟨"MatchTreesModel", "isSafe", "(II)Z"⟩, 98) := ⟨⟨by decide +kernel, by decide +kernel⟩, List.mem_of_getElem? (i := 1229) (by decide +kernel), List.mem_of_getElem? (i := 1961) (by decide +kernel), List.mem_of_getElem? (i := 1962) (by decide +kernel)⟩
theorem lw_p122 : lw_okq (⟨"MatchTreesModel", "exchanges", "(III)V"⟩, 98) := ⟨⟨by decide +kernel, by decide +kernel⟩, List.mem_of_getElem? (i := 1229) (by decide +kernel), List.mem_of_getElem? (i := 1975) (by decide +kernel), List.mem_of_getElem? (i := 1976) (by decide +kernel)⟩
theorem lw_p123 : lw_okq (⟨"MatchTreesModel", "leaves", "()I"⟩, 98) := ⟨⟨by decide +kernel, by decide +kernel⟩, List.mem_of_getElem? (i := 1229) (by decide +kernel), List.mem_of_getElem? (i := 1987) (by decide +kernel), List.mem_of_getElem? (i := 1988) (by decide +kernel)⟩
theorem lw_p124 : lw_okq (⟨"MatchTreesModel", "mostBy", "(I)I"⟩, 98) := ⟨⟨by decide +kernel, by decide +kernel⟩, List.mem_of_getElem? (i := 1229) (by decide +kernel), List.mem_of_getElem? (i := 1996) (by decide +kernel), List.mem_of_getElem? (i := 1997) (by decide +kernel)⟩
theorem lw_p125 : lw_okq (⟨"MatchTreesModel", "keeps", "()V"⟩, 98) := ⟨⟨by decide +kernel, by decide +kernel⟩, List.mem_of_getElem? (i := 1229) (by decide +kernel), List.mem_of_getElem? (i := 2004) (by decide +kernel), List.mem_of_getElem? (i := 2005) (by decide +kernel)⟩
theorem lw_p126 : lw_okq (⟨"MatchTreesModel", "runs", "(I)I"⟩, 98) := ⟨⟨by decide +kernel, by decide +kernel⟩, List.mem_of_getElem? (i := 1229) (by decide +kernel), List.mem_of_getElem? (i := 2008) (by decide +kernel), List.mem_of_getElem? (i := 2009) (by decide +kernel)⟩
theorem lw_p127 : lw_okq (⟨"MatchTreesModel", "draw", "(I)I"⟩, 98) := ⟨⟨by decide +kernel, by decide +kernel⟩, List.mem_of_getElem? (i := 1229) (by decide +kernel), List.mem_of_getElem? (i := 2016) (by decide +kernel), List.mem_of_getElem? (i := 2017) (by decide +kernel)⟩
def lw_privs_8 : List (MethodName × Nat) := [(⟨"MatchTreesModel", "branchOf", "(III)I"⟩, 98), (⟨"MatchTreesModel", "grows", "()V"⟩, 98), (⟨"MatchTreesModel", "reaches", "(I)V"⟩, 98), (⟨"MatchTreesModel", "isDoor", "(I)Z"⟩, 98), (⟨"MatchTreesModel", "weighs", "(I)V"⟩, 98), (⟨"MatchTreesModel", "builds", "()V"⟩, 98), (⟨"MatchTreesModel", "opensScope", "(II)V"⟩, 98), (⟨"MatchTreesModel", "nextBranch", "(I)I"⟩, 98), (⟨"MatchTreesModel", "isNewSet", "(III)Z"⟩, 98), (⟨"MatchTreesModel", "isSafe", "(II)Z"⟩, 98), (⟨"MatchTreesModel", "exchanges", "(III)V"⟩, 98), (⟨"MatchTreesModel", "leaves", "()I"⟩, 98), (⟨"MatchTreesModel", "mostBy", "(I)I"⟩, 98), (⟨"MatchTreesModel", "keeps", "()V"⟩, 98), (⟨"MatchTreesModel", "runs", "(I)I"⟩, 98), (⟨"MatchTreesModel", "draw", "(I)I"⟩, 98)]
theorem lw_r8 : ∀ q ∈ lw_privs_8, lw_okq q := List.forall_mem_cons.mpr ⟨lw_p112, List.forall_mem_cons.mpr ⟨lw_p113, List.forall_mem_cons.mpr ⟨lw_p114, List.forall_mem_cons.mpr ⟨lw_p115, List.forall_mem_cons.mpr ⟨lw_p116, List.forall_mem_cons.mpr ⟨lw_p117, List.forall_mem_cons.mpr ⟨lw_p118, List.forall_mem_cons.mpr ⟨lw_p119, List.forall_mem_cons.mpr ⟨lw_p120, List.forall_mem_cons.mpr ⟨lw_p121, List.forall_mem_cons.mpr ⟨lw_p122, List.forall_mem_cons.mpr ⟨lw_p123, List.forall_mem_cons.mpr ⟨lw_p124, List.forall_mem_cons.mpr ⟨lw_p125, List.forall_mem_cons.mpr ⟨lw_p126, List.forall_mem_cons.mpr ⟨lw_p127, fun _ h => absurd h List.not_mem_nil⟩⟩⟩⟩⟩⟩⟩⟩⟩⟩⟩⟩⟩⟩⟩⟩
theorem lw_p128 : lw_okq (⟨"MatchTreesModel", "comesOn", "(I)Z"⟩, 98) := ⟨⟨by decide +kernel, by decide +kernel⟩, List.mem_of_getElem? (i := 1229) (by decide +kernel), List.mem_of_getElem? (i := 2056) (by decide +kernel), List.mem_of_getElem? (i := 2057) (by decide +kernel)⟩
def lw_privs_9 : List (MethodName × Nat) := [(⟨"MatchTreesModel", "comesOn", "(I)Z"⟩, 98)]
theorem lw_r9 : ∀ q ∈ lw_privs_9, lw_okq q := List.forall_mem_cons.mpr ⟨lw_p128, fun _ h => absurd h List.not_mem_nil⟩
def lw_privs : List (MethodName × Nat) := lw_privs_1 ++ (lw_privs_2 ++ (lw_privs_3 ++ (lw_privs_4 ++ (lw_privs_5 ++ (lw_privs_6 ++ (lw_privs_7 ++ (lw_privs_8 ++ (lw_privs_9))))))))
def lw_tbl : List Cond := k2_sels lw_privs ++ tables_1
theorem lw_privs_ok : ∀ q ∈ lw_privs, lw_okq q := by
  show ∀ q ∈ lw_privs_1 ++ (lw_privs_2 ++ (lw_privs_3 ++ (lw_privs_4 ++ (lw_privs_5 ++ (lw_privs_6 ++ (lw_privs_7 ++ (lw_privs_8 ++ (lw_privs_9)))))))), lw_okq q
  exact List.forall_mem_append.mpr ⟨lw_r1, List.forall_mem_append.mpr ⟨lw_r2, List.forall_mem_append.mpr ⟨lw_r3, List.forall_mem_append.mpr ⟨lw_r4, List.forall_mem_append.mpr ⟨lw_r5, List.forall_mem_append.mpr ⟨lw_r6, List.forall_mem_append.mpr ⟨lw_r7, List.forall_mem_append.mpr ⟨lw_r8, lw_r9⟩⟩⟩⟩⟩⟩⟩⟩


/-! ===== BEGIN printed: names, fields, word lists, decode rows ===== -/
def RX0 : String := "MatchTrees$Acts"
def TX0 : u_T := fun k => match k with
  | 0 => ("MatchTrees$Acts", "row", "[I", true)
  | 1 => ("MatchTrees$Acts", "arm", "[I", true)
  | 2 => ("MatchTrees$Acts", "asked", "[I", true)
  | 3 => ("MatchTrees$Acts", "orderAhead", "[LMatchTrees$Order;", true)
  | 4 => ("MatchTrees$Acts", "keptAhead", "[I", true)
  | 5 => ("MatchTrees$Acts", "keptRows", "I", false)
  | 6 => ("MatchTrees$Acts", "next", "I", false)
  | _ => ("MatchTrees$Acts", "undoable", "I", false)
def tyX0 : Nat → FieldType := fun k => match k with
  | 0 => .array .int
  | 1 => .array .int
  | 2 => .array .int
  | 3 => .array (.object "MatchTrees$Order")
  | 4 => .array .int
  | 5 => .int
  | 6 => .int
  | _ => .int
theorem nmX0 : ∀ a, a < 8 → ∀ b, b < 8 → a ≠ b → (TX0 a).2.1 ≠ (TX0 b).2.1 := by decide +kernel
theorem tyX0_ok : ∀ k, k < 8 → parseFieldDescriptor (TX0 k).2.2.1 = some (tyX0 k) := by decide +kernel
abbrev cX0_init : ByteArray := prog_2_method_1_code
def yX0_init : MethodName := ⟨RX0, "<init>", "()V"⟩
abbrev cX0_clear : ByteArray := prog_2_method_2_code
def yX0_clear : MethodName := ⟨RX0, "clear", "()V"⟩
abbrev cX0_keptTold : ByteArray := prog_2_method_3_code
def yX0_keptTold : MethodName := ⟨RX0, "keptTold", "()I"⟩
abbrev cX0_keep : ByteArray := prog_2_method_4_code
def yX0_keep : MethodName := ⟨RX0, "keep", "(III)V"⟩
abbrev cX0_tellKept : ByteArray := prog_2_method_5_code
def yX0_tellKept : MethodName := ⟨RX0, "tellKept", "(II)I"⟩
abbrev cX0_remember : ByteArray := prog_2_method_6_code
def yX0_remember : MethodName := ⟨RX0, "remember", "(LMatchTrees$Order;)V"⟩
abbrev cX0_takeBack : ByteArray := prog_2_method_7_code
def yX0_takeBack : MethodName := ⟨RX0, "takeBack", "(LMatchTrees$Order;)V"⟩
def RX1 : String := "MatchTrees$Bytes"
def TX1 : u_T := fun k => match k with
  | 0 => ("MatchTrees$Bytes", "bytes", "[I", true)
  | _ => ("MatchTrees$Bytes", "length", "I", false)
def tyX1 : Nat → FieldType := fun k => match k with
  | 0 => .array .int
  | _ => .int
theorem nmX1 : ∀ a, a < 2 → ∀ b, b < 2 → a ≠ b → (TX1 a).2.1 ≠ (TX1 b).2.1 := by decide +kernel
theorem tyX1_ok : ∀ k, k < 2 → parseFieldDescriptor (TX1 k).2.2.1 = some (tyX1 k) := by decide +kernel
abbrev cX1_init : ByteArray := prog_3_method_1_code
def yX1_init : MethodName := ⟨RX1, "<init>", "(I)V"⟩
abbrev cX1_add : ByteArray := prog_3_method_2_code
def yX1_add : MethodName := ⟨RX1, "add", "(I)V"⟩
abbrev cX1_addFour : ByteArray := prog_3_method_3_code
def yX1_addFour : MethodName := ⟨RX1, "addFour", "(I)V"⟩
abbrev cX1_addNumber : ByteArray := prog_3_method_4_code
def yX1_addNumber : MethodName := ⟨RX1, "addNumber", "(I)V"⟩
abbrev cX1_addName : ByteArray := prog_3_method_5_code
def yX1_addName : MethodName := ⟨RX1, "addName", "(I)V"⟩
abbrev cX1_byteAt : ByteArray := prog_3_method_6_code
def yX1_byteAt : MethodName := ⟨RX1, "byteAt", "(I)I"⟩
abbrev cX1_checkByte : ByteArray := prog_3_method_7_code
def yX1_checkByte : MethodName := ⟨RX1, "checkByte", "(I)I"⟩
def RX2 : String := "MatchTrees$Groups"
def TX2 : u_T := fun k => match k with
  | 0 => ("MatchTrees$Groups", "arms", "[I", true)
  | 1 => ("MatchTrees$Groups", "size", "[I", true)
  | 2 => ("MatchTrees$Groups", "marks", "LMatchTrees$Marks;", true)
  | _ => ("MatchTrees$Groups", "count", "I", false)
def tyX2 : Nat → FieldType := fun k => match k with
  | 0 => .array .int
  | 1 => .array .int
  | 2 => .object "MatchTrees$Marks"
  | _ => .int
theorem nmX2 : ∀ a, a < 4 → ∀ b, b < 4 → a ≠ b → (TX2 a).2.1 ≠ (TX2 b).2.1 := by decide +kernel
theorem tyX2_ok : ∀ k, k < 4 → parseFieldDescriptor (TX2 k).2.2.1 = some (tyX2 k) := by decide +kernel
abbrev cX2_init : ByteArray := prog_4_method_1_code
def yX2_init : MethodName := ⟨RX2, "<init>", "(ILMatchTrees$Marks;)V"⟩
abbrev cX2_begin : ByteArray := prog_4_method_2_code
def yX2_begin : MethodName := ⟨RX2, "begin", "()V"⟩
abbrev cX2_add : ByteArray := prog_4_method_3_code
def yX2_add : MethodName := ⟨RX2, "add", "(II)V"⟩
abbrev cX2_addParts : ByteArray := prog_4_method_4_code
def yX2_addParts : MethodName := ⟨RX2, "addParts", "(LMatchTrees$Groups;I)V"⟩
abbrev cX2_addProducts : ByteArray := prog_4_method_5_code
def yX2_addProducts : MethodName := ⟨RX2, "addProducts", "(LMatchTrees$Groups;LMatchTrees$Groups;)V"⟩
abbrev cX2_copy : ByteArray := prog_4_method_6_code
def yX2_copy : MethodName := ⟨RX2, "copy", "(LMatchTrees$Groups;)V"⟩
def RX3 : String := "MatchTrees$Kinds"
def TX3 : u_T := fun k => match k with
  | 0 => ("MatchTrees$Kinds", "kindName", "[I", true)
  | 1 => ("MatchTrees$Kinds", "firstCon", "[I", true)
  | 2 => ("MatchTrees$Kinds", "conCount", "[I", true)
  | 3 => ("MatchTrees$Kinds", "size", "[I", true)
  | 4 => ("MatchTrees$Kinds", "conName", "[I", true)
  | 5 => ("MatchTrees$Kinds", "base", "[I", true)
  | 6 => ("MatchTrees$Kinds", "fields", "[I", true)
  | 7 => ("MatchTrees$Kinds", "fieldA", "[I", true)
  | 8 => ("MatchTrees$Kinds", "fieldB", "[I", true)
  | 9 => ("MatchTrees$Kinds", "kinds", "I", false)
  | _ => ("MatchTrees$Kinds", "cons", "I", false)
def tyX3 : Nat → FieldType := fun k => match k with
  | 0 => .array .int
  | 1 => .array .int
  | 2 => .array .int
  | 3 => .array .int
  | 4 => .array .int
  | 5 => .array .int
  | 6 => .array .int
  | 7 => .array .int
  | 8 => .array .int
  | 9 => .int
  | _ => .int
theorem nmX3 : ∀ a, a < 11 → ∀ b, b < 11 → a ≠ b → (TX3 a).2.1 ≠ (TX3 b).2.1 := by decide +kernel
theorem tyX3_ok : ∀ k, k < 11 → parseFieldDescriptor (TX3 k).2.2.1 = some (tyX3 k) := by decide +kernel
abbrev cX3_init : ByteArray := prog_5_method_1_code
def yX3_init : MethodName := ⟨RX3, "<init>", "()V"⟩
abbrev cX3_clear : ByteArray := prog_5_method_2_code
def yX3_clear : MethodName := ⟨RX3, "clear", "()V"⟩
abbrev cX3_isKind : ByteArray := prog_5_method_3_code
def yX3_isKind : MethodName := ⟨RX3, "isKind", "(I)Z"⟩
abbrev cX3_isCon : ByteArray := prog_5_method_4_code
def yX3_isCon : MethodName := ⟨RX3, "isCon", "(I)Z"⟩
abbrev cX3_sizeOf : ByteArray := prog_5_method_5_code
def yX3_sizeOf : MethodName := ⟨RX3, "sizeOf", "(I)I"⟩
abbrev cX3_consOf : ByteArray := prog_5_method_6_code
def yX3_consOf : MethodName := ⟨RX3, "consOf", "(I)I"⟩
abbrev cX3_kindNamed : ByteArray := prog_5_method_7_code
def yX3_kindNamed : MethodName := ⟨RX3, "kindNamed", "(I)I"⟩
abbrev cX3_conNamed : ByteArray := prog_5_method_8_code
def yX3_conNamed : MethodName := ⟨RX3, "conNamed", "(I)I"⟩
abbrev cX3_conNamedOf : ByteArray := prog_5_method_9_code
def yX3_conNamedOf : MethodName := ⟨RX3, "conNamedOf", "(II)I"⟩
abbrev cX3_conOf : ByteArray := prog_5_method_10_code
def yX3_conOf : MethodName := ⟨RX3, "conOf", "(II)I"⟩
abbrev cX3_secondSize : ByteArray := prog_5_method_11_code
def yX3_secondSize : MethodName := ⟨RX3, "secondSize", "(I)I"⟩
abbrev cX3_addKind : ByteArray := prog_5_method_12_code
def yX3_addKind : MethodName := ⟨RX3, "addKind", "(I)V"⟩
abbrev cX3_addCon : ByteArray := prog_5_method_13_code
def yX3_addCon : MethodName := ⟨RX3, "addCon", "(IIIII)V"⟩
def RX4 : String := "MatchTrees$Marks"
def TX4 : u_T := fun k => match k with
  | 0 => ("MatchTrees$Marks", "time", "[I", true)
  | 1 => ("MatchTrees$Marks", "spot", "[I", true)
  | _ => ("MatchTrees$Marks", "now", "I", false)
def tyX4 : Nat → FieldType := fun k => match k with
  | 0 => .array .int
  | 1 => .array .int
  | _ => .int
theorem nmX4 : ∀ a, a < 3 → ∀ b, b < 3 → a ≠ b → (TX4 a).2.1 ≠ (TX4 b).2.1 := by decide +kernel
theorem tyX4_ok : ∀ k, k < 3 → parseFieldDescriptor (TX4 k).2.2.1 = some (tyX4 k) := by decide +kernel
abbrev cX4_init : ByteArray := prog_6_method_1_code
def yX4_init : MethodName := ⟨RX4, "<init>", "()V"⟩
abbrev cX4_renew : ByteArray := prog_6_method_2_code
def yX4_renew : MethodName := ⟨RX4, "renew", "()V"⟩
abbrev cX4_isNew : ByteArray := prog_6_method_3_code
def yX4_isNew : MethodName := ⟨RX4, "isNew", "(I)Z"⟩
def RX5 : String := "MatchTrees$Order"
def TX5 : u_T := fun k => match k with
  | 0 => ("MatchTrees$Order", "arm", "[I", true)
  | 1 => ("MatchTrees$Order", "count", "I", false)
  | 2 => ("MatchTrees$Order", "on", "I", false)
  | _ => ("MatchTrees$Order", "rule", "I", false)
def tyX5 : Nat → FieldType := fun k => match k with
  | 0 => .array .int
  | 1 => .int
  | 2 => .int
  | _ => .int
theorem nmX5 : ∀ a, a < 4 → ∀ b, b < 4 → a ≠ b → (TX5 a).2.1 ≠ (TX5 b).2.1 := by decide +kernel
theorem tyX5_ok : ∀ k, k < 4 → parseFieldDescriptor (TX5 k).2.2.1 = some (tyX5 k) := by decide +kernel
abbrev cX5_init : ByteArray := prog_7_method_1_code
def yX5_init : MethodName := ⟨RX5, "<init>", "()V"⟩
abbrev cX5_begin : ByteArray := prog_7_method_2_code
def yX5_begin : MethodName := ⟨RX5, "begin", "(II)V"⟩
abbrev cX5_copy : ByteArray := prog_7_method_3_code
def yX5_copy : MethodName := ⟨RX5, "copy", "(LMatchTrees$Order;)V"⟩
abbrev cX5_isPlace : ByteArray := prog_7_method_4_code
def yX5_isPlace : MethodName := ⟨RX5, "isPlace", "(I)Z"⟩
abbrev cX5_armAt : ByteArray := prog_7_method_5_code
def yX5_armAt : MethodName := ⟨RX5, "armAt", "(I)I"⟩
abbrev cX5_exchange : ByteArray := prog_7_method_6_code
def yX5_exchange : MethodName := ⟨RX5, "exchange", "(II)V"⟩
abbrev cX5_takeOut : ByteArray := prog_7_method_7_code
def yX5_takeOut : MethodName := ⟨RX5, "takeOut", "(I)V"⟩
abbrev cX5_allArms : ByteArray := prog_7_method_8_code
def yX5_allArms : MethodName := ⟨RX5, "allArms", "()I"⟩
abbrev cX5_firstOf : ByteArray := prog_7_method_9_code
def yX5_firstOf : MethodName := ⟨RX5, "firstOf", "(I)I"⟩
abbrev cX5_unguarded : ByteArray := prog_7_method_10_code
def yX5_unguarded : MethodName := ⟨RX5, "unguarded", "(LMatchTrees$Table;I)I"⟩
abbrev cX5_placeTaking : ByteArray := prog_7_method_11_code
def yX5_placeTaking : MethodName := ⟨RX5, "placeTaking", "(LMatchTrees$Table;II)I"⟩
abbrev cX5_takings : ByteArray := prog_7_method_12_code
def yX5_takings : MethodName := ⟨RX5, "takings", "(LMatchTrees$Table;I)J"⟩
def RX6 : String := "MatchTrees$Reader"
def TX6 : u_T := fun k => match k with
  | 0 => ("MatchTrees$Reader", "scan", "LMatchTrees$Scanner;", true)
  | 1 => ("MatchTrees$Reader", "fit", "[[I", true)
  | 2 => ("MatchTrees$Reader", "table", "LMatchTrees$Table;", false)
  | 3 => ("MatchTrees$Reader", "fault", "I", false)
  | _ => ("MatchTrees$Reader", "place", "I", false)
def tyX6 : Nat → FieldType := fun k => match k with
  | 0 => .object "MatchTrees$Scanner"
  | 1 => .array (.array .int)
  | 2 => .object "MatchTrees$Table"
  | 3 => .int
  | _ => .int
theorem nmX6 : ∀ a, a < 5 → ∀ b, b < 5 → a ≠ b → (TX6 a).2.1 ≠ (TX6 b).2.1 := by decide +kernel
theorem tyX6_ok : ∀ k, k < 5 → parseFieldDescriptor (TX6 k).2.2.1 = some (tyX6 k) := by decide +kernel
abbrev cX6_init : ByteArray := prog_8_method_1_code
def yX6_init : MethodName := ⟨RX6, "<init>", "(LMatchTrees$Table;)V"⟩
abbrev cX6_readMatch : ByteArray := prog_8_method_2_code
def yX6_readMatch : MethodName := ⟨RX6, "readMatch", "(LMatchTrees$Bytes;LMatchTrees$Table;)I"⟩
abbrev cX6_begin : ByteArray := prog_8_method_3_code
def yX6_begin : MethodName := ⟨RX6, "begin", "(LMatchTrees$Bytes;)V"⟩
abbrev cX6_fail : ByteArray := prog_8_method_4_code
def yX6_fail : MethodName := ⟨RX6, "fail", "(II)Z"⟩
abbrev cX6_failHere : ByteArray := prog_8_method_5_code
def yX6_failHere : MethodName := ⟨RX6, "failHere", "()Z"⟩
abbrev cX6_readSign : ByteArray := prog_8_method_6_code
def yX6_readSign : MethodName := ⟨RX6, "readSign", "(I)Z"⟩
abbrev cX6_readNumber : ByteArray := prog_8_method_7_code
def yX6_readNumber : MethodName := ⟨RX6, "readNumber", "(II)I"⟩
abbrev cX6_readRule : ByteArray := prog_8_method_8_code
def yX6_readRule : MethodName := ⟨RX6, "readRule", "()Z"⟩
abbrev cX6_readBudget : ByteArray := prog_8_method_9_code
def yX6_readBudget : MethodName := ⟨RX6, "readBudget", "()Z"⟩
abbrev cX6_readKind : ByteArray := prog_8_method_10_code
def yX6_readKind : MethodName := ⟨RX6, "readKind", "()Z"⟩
abbrev cX6_isNewName : ByteArray := prog_8_method_11_code
def yX6_isNewName : MethodName := ⟨RX6, "isNewName", "()Z"⟩
abbrev cX6_readCon : ByteArray := prog_8_method_12_code
def yX6_readCon : MethodName := ⟨RX6, "readCon", "()Z"⟩
abbrev cX6_isKindWord : ByteArray := prog_8_method_13_code
def yX6_isKindWord : MethodName := ⟨RX6, "isKindWord", "()Z"⟩
abbrev cX6_kindHere : ByteArray := prog_8_method_14_code
def yX6_kindHere : MethodName := ⟨RX6, "kindHere", "()I"⟩
abbrev cX6_isKindHere : ByteArray := prog_8_method_15_code
def yX6_isKindHere : MethodName := ⟨RX6, "isKindHere", "(I)Z"⟩
abbrev cX6_readColumns : ByteArray := prog_8_method_16_code
def yX6_readColumns : MethodName := ⟨RX6, "readColumns", "()Z"⟩
abbrev cX6_readArm : ByteArray := prog_8_method_17_code
def yX6_readArm : MethodName := ⟨RX6, "readArm", "()Z"⟩
abbrev cX6_readPattern : ByteArray := prog_8_method_18_code
def yX6_readPattern : MethodName := ⟨RX6, "readPattern", "(LMatchTrees$Reader;III)Z"⟩
abbrev cX6_readRange : ByteArray := prog_8_method_19_code
def yX6_readRange : MethodName := ⟨RX6, "readRange", "(I)Z"⟩
abbrev cX6_readCase : ByteArray := prog_8_method_20_code
def yX6_readCase : MethodName := ⟨RX6, "readCase", "(LMatchTrees$Reader;III)Z"⟩
abbrev cX6_readConName : ByteArray := prog_8_method_21_code
def yX6_readConName : MethodName := ⟨RX6, "readConName", "(I)I"⟩
abbrev cX6_fillCase : ByteArray := prog_8_method_22_code
def yX6_fillCase : MethodName := ⟨RX6, "fillCase", "(III)V"⟩
abbrev cX6_fill : ByteArray := prog_8_method_23_code
def yX6_fill : MethodName := ⟨RX6, "fill", "([IIII)V"⟩
abbrev cX6_readRow : ByteArray := prog_8_method_24_code
def yX6_readRow : MethodName := ⟨RX6, "readRow", "(LMatchTrees$Bytes;LMatchTrees$Table;)I"⟩
abbrev cX6_readValue : ByteArray := prog_8_method_25_code
def yX6_readValue : MethodName := ⟨RX6, "readValue", "(LMatchTrees$Reader;II)I"⟩
def RX7 : String := "MatchTrees$Scanner"
def TX7 : u_T := fun k => match k with
  | 0 => ("MatchTrees$Scanner", "ownWords", "[I", true)
  | 1 => ("MatchTrees$Scanner", "text", "[I", false)
  | 2 => ("MatchTrees$Scanner", "length", "I", false)
  | 3 => ("MatchTrees$Scanner", "next", "I", false)
  | 4 => ("MatchTrees$Scanner", "type", "I", false)
  | 5 => ("MatchTrees$Scanner", "at", "I", false)
  | 6 => ("MatchTrees$Scanner", "stop", "I", false)
  | 7 => ("MatchTrees$Scanner", "value", "I", false)
  | _ => ("MatchTrees$Scanner", "own", "I", false)
def tyX7 : Nat → FieldType := fun k => match k with
  | 0 => .array .int
  | 1 => .array .int
  | 2 => .int
  | 3 => .int
  | 4 => .int
  | 5 => .int
  | 6 => .int
  | 7 => .int
  | _ => .int
theorem nmX7 : ∀ a, a < 9 → ∀ b, b < 9 → a ≠ b → (TX7 a).2.1 ≠ (TX7 b).2.1 := by decide +kernel
theorem tyX7_ok : ∀ k, k < 9 → parseFieldDescriptor (TX7 k).2.2.1 = some (tyX7 k) := by decide +kernel
abbrev cX7_init : ByteArray := prog_9_method_1_code
def yX7_init : MethodName := ⟨RX7, "<init>", "()V"⟩
abbrev cX7_spell : ByteArray := prog_9_method_2_code
def yX7_spell : MethodName := ⟨RX7, "spell", "(Ljava/lang/String;)I"⟩
abbrev cX7_begin : ByteArray := prog_9_method_3_code
def yX7_begin : MethodName := ⟨RX7, "begin", "(LMatchTrees$Bytes;)V"⟩
abbrev cX7_step : ByteArray := prog_9_method_4_code
def yX7_step : MethodName := ⟨RX7, "step", "()V"⟩
abbrev cX7_stepWord : ByteArray := prog_9_method_5_code
def yX7_stepWord : MethodName := ⟨RX7, "stepWord", "()V"⟩
abbrev cX7_stepNumber : ByteArray := prog_9_method_6_code
def yX7_stepNumber : MethodName := ⟨RX7, "stepNumber", "()V"⟩
abbrev cX7_isName : ByteArray := prog_9_method_7_code
def yX7_isName : MethodName := ⟨RX7, "isName", "()Z"⟩
abbrev cX7_isSign : ByteArray := prog_9_method_8_code
def yX7_isSign : MethodName := ⟨RX7, "isSign", "(I)Z"⟩
def RX8 : String := "MatchTrees$Seen"
def TX8 : u_T := fun k => match k with
  | 0 => ("MatchTrees$Seen", "row", "[I", true)
  | 1 => ("MatchTrees$Seen", "arm", "[I", true)
  | 2 => ("MatchTrees$Seen", "count", "I", false)
  | 3 => ("MatchTrees$Seen", "set", "[I", true)
  | 4 => ("MatchTrees$Seen", "sets", "I", false)
  | _ => ("MatchTrees$Seen", "tally", "[I", true)
def tyX8 : Nat → FieldType := fun k => match k with
  | 0 => .array .int
  | 1 => .array .int
  | 2 => .int
  | 3 => .array .int
  | 4 => .int
  | _ => .array .int
theorem nmX8 : ∀ a, a < 6 → ∀ b, b < 6 → a ≠ b → (TX8 a).2.1 ≠ (TX8 b).2.1 := by decide +kernel
theorem tyX8_ok : ∀ k, k < 6 → parseFieldDescriptor (TX8 k).2.2.1 = some (tyX8 k) := by decide +kernel
abbrev cX8_init : ByteArray := prog_10_method_1_code
def yX8_init : MethodName := ⟨RX8, "<init>", "()V"⟩
abbrev cX8_read : ByteArray := prog_10_method_2_code
def yX8_read : MethodName := ⟨RX8, "read", "(LMatchTrees$Bytes;LMatchTrees$Table;LMatchTrees$Order;)Z"⟩
abbrev cX8_rowOn : ByteArray := prog_10_method_3_code
def yX8_rowOn : MethodName := ⟨RX8, "rowOn", "(LMatchTrees$Bytes;I)I"⟩
abbrev cX8_findSets : ByteArray := prog_10_method_4_code
def yX8_findSets : MethodName := ⟨RX8, "findSets", "(LMatchTrees$Table;LMatchTrees$Order;)V"⟩
abbrev cX8_agrees : ByteArray := prog_10_method_5_code
def yX8_agrees : MethodName := ⟨RX8, "agrees", "(LMatchTrees$Table;LMatchTrees$Order;I)Z"⟩
abbrev cX8_mostLeft : ByteArray := prog_10_method_6_code
def yX8_mostLeft : MethodName := ⟨RX8, "mostLeft", "(LMatchTrees$Table;LMatchTrees$Order;I)I"⟩
def RX9 : String := "MatchTrees$Table"
def TX9 : u_T := fun k => match k with
  | 0 => ("MatchTrees$Table", "kinds", "LMatchTrees$Kinds;", true)
  | 1 => ("MatchTrees$Table", "kindOf", "[I", true)
  | 2 => ("MatchTrees$Table", "size", "[I", true)
  | 3 => ("MatchTrees$Table", "full", "[I", true)
  | 4 => ("MatchTrees$Table", "guard", "[I", true)
  | 5 => ("MatchTrees$Table", "fitting", "[[I", true)
  | 6 => ("MatchTrees$Table", "columns", "I", false)
  | 7 => ("MatchTrees$Table", "rows", "I", false)
  | 8 => ("MatchTrees$Table", "arms", "I", false)
  | 9 => ("MatchTrees$Table", "rule", "I", false)
  | _ => ("MatchTrees$Table", "budget", "I", false)
def tyX9 : Nat → FieldType := fun k => match k with
  | 0 => .object "MatchTrees$Kinds"
  | 1 => .array .int
  | 2 => .array .int
  | 3 => .array .int
  | 4 => .array .int
  | 5 => .array (.array .int)
  | 6 => .int
  | 7 => .int
  | 8 => .int
  | 9 => .int
  | _ => .int
theorem nmX9 : ∀ a, a < 11 → ∀ b, b < 11 → a ≠ b → (TX9 a).2.1 ≠ (TX9 b).2.1 := by decide +kernel
theorem tyX9_ok : ∀ k, k < 11 → parseFieldDescriptor (TX9 k).2.2.1 = some (tyX9 k) := by decide +kernel
abbrev cX9_init : ByteArray := prog_11_method_1_code
def yX9_init : MethodName := ⟨RX9, "<init>", "()V"⟩
abbrev cX9_clear : ByteArray := prog_11_method_2_code
def yX9_clear : MethodName := ⟨RX9, "clear", "()V"⟩
abbrev cX9_addColumn : ByteArray := prog_11_method_3_code
def yX9_addColumn : MethodName := ⟨RX9, "addColumn", "(I)V"⟩
abbrev cX9_setPattern : ByteArray := prog_11_method_4_code
def yX9_setPattern : MethodName := ⟨RX9, "setPattern", "(I[I)V"⟩
abbrev cX9_addArm : ByteArray := prog_11_method_5_code
def yX9_addArm : MethodName := ⟨RX9, "addArm", "(I)V"⟩
abbrev cX9_guardOf : ByteArray := prog_11_method_6_code
def yX9_guardOf : MethodName := ⟨RX9, "guardOf", "(I)I"⟩
abbrev cX9_isRow : ByteArray := prog_11_method_7_code
def yX9_isRow : MethodName := ⟨RX9, "isRow", "(I)Z"⟩
abbrev cX9_armsFitting : ByteArray := prog_11_method_8_code
def yX9_armsFitting : MethodName := ⟨RX9, "armsFitting", "(II)I"⟩
abbrev cX9_valueOf : ByteArray := prog_11_method_9_code
def yX9_valueOf : MethodName := ⟨RX9, "valueOf", "(II)I"⟩
abbrev cX9_armsOf : ByteArray := prog_11_method_10_code
def yX9_armsOf : MethodName := ⟨RX9, "armsOf", "(I)I"⟩
def RX10 : String := "MatchTrees$Trees"
def TX10 : u_T := fun k => match k with
  | 0 => ("MatchTrees$Trees", "column", "[LMatchTrees$Groups;", true)
  | 1 => ("MatchTrees$Trees", "branch", "[LMatchTrees$Groups;", true)
  | 2 => ("MatchTrees$Trees", "marks", "LMatchTrees$Marks;", true)
  | 3 => ("MatchTrees$Trees", "counted", "[J", true)
  | 4 => ("MatchTrees$Trees", "now", "I", false)
  | 5 => ("MatchTrees$Trees", "unlike", "I", false)
  | 6 => ("MatchTrees$Trees", "scopesShut", "[I", true)
  | 7 => ("MatchTrees$Trees", "scopesOpened", "I", false)
  | 8 => ("MatchTrees$Trees", "scopesOpen", "I", false)
  | 9 => ("MatchTrees$Trees", "scopesMost", "I", false)
  | 10 => ("MatchTrees$Trees", "shutCount", "I", false)
  | 11 => ("MatchTrees$Trees", "stopped", "Z", false)
  | 12 => ("MatchTrees$Trees", "rule", "I", false)
  | 13 => ("MatchTrees$Trees", "table", "LMatchTrees$Table;", false)
  | _ => ("MatchTrees$Trees", "order", "LMatchTrees$Order;", false)
def tyX10 : Nat → FieldType := fun k => match k with
  | 0 => .array (.object "MatchTrees$Groups")
  | 1 => .array (.object "MatchTrees$Groups")
  | 2 => .object "MatchTrees$Marks"
  | 3 => .array .long
  | 4 => .int
  | 5 => .int
  | 6 => .array .int
  | 7 => .int
  | 8 => .int
  | 9 => .int
  | 10 => .int
  | 11 => .boolean
  | 12 => .int
  | 13 => .object "MatchTrees$Table"
  | _ => .object "MatchTrees$Order"
theorem nmX10 : ∀ a, a < 15 → ∀ b, b < 15 → a ≠ b → (TX10 a).2.1 ≠ (TX10 b).2.1 := by decide +kernel
theorem tyX10_ok : ∀ k, k < 15 → parseFieldDescriptor (TX10 k).2.2.1 = some (tyX10 k) := by decide +kernel
abbrev cX10_init : ByteArray := prog_12_method_1_code
def yX10_init : MethodName := ⟨RX10, "<init>", "(LMatchTrees$Table;LMatchTrees$Order;LMatchTrees$Marks;)V"⟩
abbrev cX10_setTable : ByteArray := prog_12_method_2_code
def yX10_setTable : MethodName := ⟨RX10, "setTable", "(LMatchTrees$Table;)V"⟩
abbrev cX10_allColumns : ByteArray := prog_12_method_3_code
def yX10_allColumns : MethodName := ⟨RX10, "allColumns", "()I"⟩
abbrev cX10_columnAsked : ByteArray := prog_12_method_4_code
def yX10_columnAsked : MethodName := ⟨RX10, "columnAsked", "(II)I"⟩
abbrev cX10_costOf : ByteArray := prog_12_method_5_code
def yX10_costOf : MethodName := ⟨RX10, "costOf", "(II)I"⟩
abbrev cX10_notFullInRow : ByteArray := prog_12_method_6_code
def yX10_notFullInRow : MethodName := ⟨RX10, "notFullInRow", "(II)I"⟩
abbrev cX10_countBranches : ByteArray := prog_12_method_7_code
def yX10_countBranches : MethodName := ⟨RX10, "countBranches", "(II)I"⟩
abbrev cX10_mostArms : ByteArray := prog_12_method_8_code
def yX10_mostArms : MethodName := ⟨RX10, "mostArms", "(II)I"⟩
abbrev cX10_split : ByteArray := prog_12_method_9_code
def yX10_split : MethodName := ⟨RX10, "split", "(III)LMatchTrees$Groups;"⟩
abbrev cX10_rowsOf : ByteArray := prog_12_method_10_code
def yX10_rowsOf : MethodName := ⟨RX10, "rowsOf", "(I)I"⟩
abbrev cX10_measureAll : ByteArray := prog_12_method_11_code
def yX10_measureAll : MethodName := ⟨RX10, "measureAll", "(LMatchTrees$Order;I)J"⟩
abbrev cX10_measure : ByteArray := prog_12_method_12_code
def yX10_measure : MethodName := ⟨RX10, "measure", "(LMatchTrees$Trees;III)J"⟩
abbrev cX10_nodesIn : ByteArray := prog_12_method_13_code
def yX10_nodesIn : MethodName := ⟨RX10, "nodesIn", "(J)I"⟩
abbrev cX10_testsIn : ByteArray := prog_12_method_14_code
def yX10_testsIn : MethodName := ⟨RX10, "testsIn", "(J)I"⟩
abbrev cX10_longestIn : ByteArray := prog_12_method_15_code
def yX10_longestIn : MethodName := ⟨RX10, "longestIn", "(J)I"⟩
abbrev cX10_firstColumn : ByteArray := prog_12_method_16_code
def yX10_firstColumn : MethodName := ⟨RX10, "firstColumn", "(LMatchTrees$Order;I)I"⟩
abbrev cX10_columnsAsked : ByteArray := prog_12_method_17_code
def yX10_columnsAsked : MethodName := ⟨RX10, "columnsAsked", "(LMatchTrees$Order;I)I"⟩
abbrev cX10_buildAll : ByteArray := prog_12_method_18_code
def yX10_buildAll : MethodName := ⟨RX10, "buildAll", "(LMatchTrees$Order;I)V"⟩
abbrev cX10_build : ByteArray := prog_12_method_19_code
def yX10_build : MethodName := ⟨RX10, "build", "(LMatchTrees$Trees;III)V"⟩
abbrev cX10_openScope : ByteArray := prog_12_method_20_code
def yX10_openScope : MethodName := ⟨RX10, "openScope", "()V"⟩
abbrev cX10_shutScope : ByteArray := prog_12_method_21_code
def yX10_shutScope : MethodName := ⟨RX10, "shutScope", "(I)V"⟩
abbrev cX10_scopeShutAs : ByteArray := prog_12_method_22_code
def yX10_scopeShutAs : MethodName := ⟨RX10, "scopeShutAs", "(I)I"⟩
def RX11 : String := "MatchTrees"
def TX11 : u_T := fun k => match k with
  | 0 => ("MatchTrees", "tape", "LMatchTrees$Bytes;", true)
  | 1 => ("MatchTrees", "written", "LMatchTrees$Bytes;", true)
  | 2 => ("MatchTrees", "marks", "LMatchTrees$Marks;", true)
  | 3 => ("MatchTrees", "rowGroups", "LMatchTrees$Groups;", true)
  | 4 => ("MatchTrees", "rowGroupsAhead", "LMatchTrees$Groups;", true)
  | 5 => ("MatchTrees", "order", "LMatchTrees$Order;", true)
  | 6 => ("MatchTrees", "trial", "LMatchTrees$Order;", true)
  | 7 => ("MatchTrees", "acts", "LMatchTrees$Acts;", true)
  | 8 => ("MatchTrees", "seen", "LMatchTrees$Seen;", true)
  | 9 => ("MatchTrees", "refused", "[I", true)
  | 10 => ("MatchTrees", "table", "LMatchTrees$Table;", false)
  | 11 => ("MatchTrees", "spare", "LMatchTrees$Table;", false)
  | 12 => ("MatchTrees", "reader", "LMatchTrees$Reader;", true)
  | 13 => ("MatchTrees", "trees", "LMatchTrees$Trees;", true)
  | _ => ("MatchTrees", "seedNow", "I", false)
def tyX11 : Nat → FieldType := fun k => match k with
  | 0 => .object "MatchTrees$Bytes"
  | 1 => .object "MatchTrees$Bytes"
  | 2 => .object "MatchTrees$Marks"
  | 3 => .object "MatchTrees$Groups"
  | 4 => .object "MatchTrees$Groups"
  | 5 => .object "MatchTrees$Order"
  | 6 => .object "MatchTrees$Order"
  | 7 => .object "MatchTrees$Acts"
  | 8 => .object "MatchTrees$Seen"
  | 9 => .array .int
  | 10 => .object "MatchTrees$Table"
  | 11 => .object "MatchTrees$Table"
  | 12 => .object "MatchTrees$Reader"
  | 13 => .object "MatchTrees$Trees"
  | _ => .int
theorem nmX11 : ∀ a, a < 15 → ∀ b, b < 15 → a ≠ b → (TX11 a).2.1 ≠ (TX11 b).2.1 := by decide +kernel
theorem tyX11_ok : ∀ k, k < 15 → parseFieldDescriptor (TX11 k).2.2.1 = some (tyX11 k) := by decide +kernel
abbrev cX11_init : ByteArray := prog_1_method_1_code
def yX11_init : MethodName := ⟨RX11, "<init>", "()V"⟩
abbrev cX11_feed : ByteArray := prog_1_method_2_code
def yX11_feed : MethodName := ⟨RX11, "feed", "(IIIII)I"⟩
abbrev cX11_end : ByteArray := prog_1_method_3_code
def yX11_end : MethodName := ⟨RX11, "end", "(I)Z"⟩
abbrev cX11_match : ByteArray := prog_1_method_4_code
def yX11_match : MethodName := ⟨RX11, "match", "()I"⟩
abbrev cX11_startMatch : ByteArray := prog_1_method_5_code
def yX11_startMatch : MethodName := ⟨RX11, "startMatch", "()V"⟩
abbrev cX11_fault : ByteArray := prog_1_method_6_code
def yX11_fault : MethodName := ⟨RX11, "fault", "(I)I"⟩
abbrev cX11_has : ByteArray := prog_1_method_7_code
def yX11_has : MethodName := ⟨RX11, "has", "(I)I"⟩
abbrev cX11_letter : ByteArray := prog_1_method_8_code
def yX11_letter : MethodName := ⟨RX11, "letter", "(III)I"⟩
abbrev cX11_values : ByteArray := prog_1_method_9_code
def yX11_values : MethodName := ⟨RX11, "values", "(I)I"⟩
abbrev cX11_arm : ByteArray := prog_1_method_10_code
def yX11_arm : MethodName := ⟨RX11, "arm", "(II)I"⟩
abbrev cX11_isUseful : ByteArray := prog_1_method_11_code
def yX11_isUseful : MethodName := ⟨RX11, "isUseful", "(I)Z"⟩
abbrev cX11_rowsFitting : ByteArray := prog_1_method_12_code
def yX11_rowsFitting : MethodName := ⟨RX11, "rowsFitting", "(I)I"⟩
abbrev cX11_rowsTaken : ByteArray := prog_1_method_13_code
def yX11_rowsTaken : MethodName := ⟨RX11, "rowsTaken", "(I)I"⟩
abbrev cX11_fits : ByteArray := prog_1_method_14_code
def yX11_fits : MethodName := ⟨RX11, "fits", "(III)I"⟩
abbrev cX11_holds : ByteArray := prog_1_method_15_code
def yX11_holds : MethodName := ⟨RX11, "holds", "(II)I"⟩
abbrev cX11_missing : ByteArray := prog_1_method_16_code
def yX11_missing : MethodName := ⟨RX11, "missing", "(I)I"⟩
abbrev cX11_countMissing : ByteArray := prog_1_method_17_code
def yX11_countMissing : MethodName := ⟨RX11, "countMissing", "(I)I"⟩
abbrev cX11_findMissing : ByteArray := prog_1_method_18_code
def yX11_findMissing : MethodName := ⟨RX11, "findMissing", "(II)I"⟩
abbrev cX11_taken : ByteArray := prog_1_method_19_code
def yX11_taken : MethodName := ⟨RX11, "taken", "(I)I"⟩
abbrev cX11_row : ByteArray := prog_1_method_20_code
def yX11_row : MethodName := ⟨RX11, "row", "()I"⟩
abbrev cX11_text : ByteArray := prog_1_method_21_code
def yX11_text : MethodName := ⟨RX11, "text", "(I)I"⟩
abbrev cX11_writeValue : ByteArray := prog_1_method_22_code
def yX11_writeValue : MethodName := ⟨RX11, "writeValue", "(LMatchTrees$Bytes;LMatchTrees$Kinds;III)V"⟩
abbrev cX11_octet : ByteArray := prog_1_method_23_code
def yX11_octet : MethodName := ⟨RX11, "octet", "(I)I"⟩
abbrev cX11_tree : ByteArray := prog_1_method_24_code
def yX11_tree : MethodName := ⟨RX11, "tree", "(II)I"⟩
abbrev cX11_first : ByteArray := prog_1_method_25_code
def yX11_first : MethodName := ⟨RX11, "first", "(I)I"⟩
abbrev cX11_scopes : ByteArray := prog_1_method_26_code
def yX11_scopes : MethodName := ⟨RX11, "scopes", "(III)I"⟩
abbrev cX11_safe : ByteArray := prog_1_method_27_code
def yX11_safe : MethodName := ⟨RX11, "safe", "(II)I"⟩
abbrev cX11_trialTakesAlike : ByteArray := prog_1_method_28_code
def yX11_trialTakesAlike : MethodName := ⟨RX11, "trialTakesAlike", "()Z"⟩
abbrev cX11_best : ByteArray := prog_1_method_29_code
def yX11_best : MethodName := ⟨RX11, "best", "(I)I"⟩
abbrev cX11_allTests : ByteArray := prog_1_method_30_code
def yX11_allTests : MethodName := ⟨RX11, "allTests", "(LMatchTrees$Order;)I"⟩
abbrev cX11_see : ByteArray := prog_1_method_31_code
def yX11_see : MethodName := ⟨RX11, "see", "()I"⟩
abbrev cX11_sets : ByteArray := prog_1_method_32_code
def yX11_sets : MethodName := ⟨RX11, "sets", "(I)I"⟩
abbrev cX11_tells : ByteArray := prog_1_method_33_code
def yX11_tells : MethodName := ⟨RX11, "tells", "(I)I"⟩
abbrev cX11_run : ByteArray := prog_1_method_34_code
def yX11_run : MethodName := ⟨RX11, "run", "(I)I"⟩
abbrev cX11_runRow : ByteArray := prog_1_method_35_code
def yX11_runRow : MethodName := ⟨RX11, "runRow", "(I)I"⟩
abbrev cX11_chance : ByteArray := prog_1_method_36_code
def yX11_chance : MethodName := ⟨RX11, "chance", "(I)I"⟩
abbrev cX11_draw : ByteArray := prog_1_method_37_code
def yX11_draw : MethodName := ⟨RX11, "draw", "(I)I"⟩
abbrev cX11_swap : ByteArray := prog_1_method_38_code
def yX11_swap : MethodName := ⟨RX11, "swap", "(II)Z"⟩
abbrev cX11_drop : ByteArray := prog_1_method_39_code
def yX11_drop : MethodName := ⟨RX11, "drop", "(I)Z"⟩
abbrev cX11_turn : ByteArray := prog_1_method_40_code
def yX11_turn : MethodName := ⟨RX11, "turn", "(I)I"⟩
abbrev cX11_choose : ByteArray := prog_1_method_41_code
def yX11_choose : MethodName := ⟨RX11, "choose", "(I)Z"⟩
abbrev cX11_undo : ByteArray := prog_1_method_42_code
def yX11_undo : MethodName := ⟨RX11, "undo", "()Z"⟩
abbrev cX11_remember : ByteArray := prog_1_method_43_code
def yX11_remember : MethodName := ⟨RX11, "remember", "()V"⟩
abbrev cX11_seed : ByteArray := prog_1_method_44_code
def yX11_seed : MethodName := ⟨RX11, "seed", "(I)Z"⟩
abbrev cX11_kept : ByteArray := prog_1_method_45_code
def yX11_kept : MethodName := ⟨RX11, "kept", "(II)I"⟩
abbrev cX11_image : ByteArray := prog_1_method_46_code
def yX11_image : MethodName := ⟨RX11, "image", "()I"⟩
abbrev cX11_on : ByteArray := prog_1_method_47_code
def yX11_on : MethodName := ⟨RX11, "on", "()Z"⟩
abbrev cX11_isImage : ByteArray := prog_1_method_48_code
def yX11_isImage : MethodName := ⟨RX11, "isImage", "()Z"⟩
abbrev cX11_takeImage : ByteArray := prog_1_method_49_code
def yX11_takeImage : MethodName := ⟨RX11, "takeImage", "()V"⟩
abbrev cX11_status : ByteArray := prog_1_method_50_code
def yX11_status : MethodName := ⟨RX11, "status", "(I)I"⟩
abbrev cX11_refuse : ByteArray := prog_1_method_51_code
def yX11_refuse : MethodName := ⟨RX11, "refuse", "(I)Z"⟩
abbrev cX11_matched : ByteArray := prog_1_method_52_code
def yX11_matched : MethodName := ⟨RX11, "matched", "()Z"⟩
abbrev cX11_isRule : ByteArray := prog_1_method_53_code
def yX11_isRule : MethodName := ⟨RX11, "isRule", "(I)Z"⟩
abbrev cX11_isIn : ByteArray := prog_1_method_54_code
def yX11_isIn : MethodName := ⟨RX11, "isIn", "(II)Z"⟩
abbrev cX11_letterOf : ByteArray := prog_1_method_55_code
def yX11_letterOf : MethodName := ⟨RX11, "letterOf", "(II)I"⟩
def RX12 : String := "MatchTreesModel"
def TX12 : u_T := fun k => match k with
  | 0 => ("MatchTreesModel", "tape", "[I", true)
  | 1 => ("MatchTreesModel", "taped", "I", false)
  | 2 => ("MatchTreesModel", "size", "I", false)
  | 3 => ("MatchTreesModel", "sign", "I", false)
  | 4 => ("MatchTreesModel", "signAt", "I", false)
  | 5 => ("MatchTreesModel", "signEnd", "I", false)
  | 6 => ("MatchTreesModel", "value", "I", false)
  | 7 => ("MatchTreesModel", "word", "J", false)
  | 8 => ("MatchTreesModel", "faultKind", "I", false)
  | 9 => ("MatchTreesModel", "faultPlace", "I", false)
  | 10 => ("MatchTreesModel", "toldKind", "I", false)
  | 11 => ("MatchTreesModel", "toldPlace", "I", false)
  | 12 => ("MatchTreesModel", "lexAt", "I", false)
  | 13 => ("MatchTreesModel", "bank", "I", false)
  | 14 => ("MatchTreesModel", "kindMany", "[I", true)
  | 15 => ("MatchTreesModel", "kindValues", "[I", true)
  | 16 => ("MatchTreesModel", "kindCons", "[I", true)
  | 17 => ("MatchTreesModel", "conMany", "[I", true)
  | 18 => ("MatchTreesModel", "conKind", "[I", true)
  | 19 => ("MatchTreesModel", "conFields", "[I", true)
  | 20 => ("MatchTreesModel", "conField", "[I", true)
  | 21 => ("MatchTreesModel", "conFrom", "[I", true)
  | 22 => ("MatchTreesModel", "conValues", "[I", true)
  | 23 => ("MatchTreesModel", "columnMany", "[I", true)
  | 24 => ("MatchTreesModel", "columnKind", "[I", true)
  | 25 => ("MatchTreesModel", "armMany", "[I", true)
  | 26 => ("MatchTreesModel", "armGuard", "[I", true)
  | 27 => ("MatchTreesModel", "ruleTold", "[I", true)
  | 28 => ("MatchTreesModel", "budgetTold", "[I", true)
  | 29 => ("MatchTreesModel", "patFrom", "[I", true)
  | 30 => ("MatchTreesModel", "patBehind", "[I", true)
  | 31 => ("MatchTreesModel", "codeOp", "[I", true)
  | 32 => ("MatchTreesModel", "codeA", "[I", true)
  | 33 => ("MatchTreesModel", "codeB", "[I", true)
  | 34 => ("MatchTreesModel", "kindName", "[J", true)
  | 35 => ("MatchTreesModel", "conName", "[J", true)
  | 36 => ("MatchTreesModel", "codes", "I", false)
  | 37 => ("MatchTreesModel", "in", "I", false)
  | 38 => ("MatchTreesModel", "isMatched", "Z", false)
  | 39 => ("MatchTreesModel", "openKind", "[I", true)
  | 40 => ("MatchTreesModel", "openAlts", "[I", true)
  | 41 => ("MatchTreesModel", "openCon", "[I", true)
  | 42 => ("MatchTreesModel", "openField", "[I", true)
  | 43 => ("MatchTreesModel", "open", "I", false)
  | 44 => ("MatchTreesModel", "isMatch", "Z", false)
  | 45 => ("MatchTreesModel", "refused", "[I", true)
  | 46 => ("MatchTreesModel", "gone", "[I", true)
  | 47 => ("MatchTreesModel", "truth", "[I", true)
  | 48 => ("MatchTreesModel", "setOf", "[I", true)
  | 49 => ("MatchTreesModel", "toldSet", "[I", true)
  | 50 => ("MatchTreesModel", "setMany", "[I", true)
  | 51 => ("MatchTreesModel", "setNumber", "[I", true)
  | 52 => ("MatchTreesModel", "rowMany", "I", false)
  | 53 => ("MatchTreesModel", "armsOf", "[I", true)
  | 54 => ("MatchTreesModel", "orderOf", "[I", true)
  | 55 => ("MatchTreesModel", "guardsOf", "[I", true)
  | 56 => ("MatchTreesModel", "ruleOf", "[I", true)
  | 57 => ("MatchTreesModel", "keptMany", "[I", true)
  | 58 => ("MatchTreesModel", "keptRow", "[I", true)
  | 59 => ("MatchTreesModel", "undoFirst", "I", false)
  | 60 => ("MatchTreesModel", "undos", "I", false)
  | 61 => ("MatchTreesModel", "seeds", "J", false)
  | 62 => ("MatchTreesModel", "places", "I", false)
  | 63 => ("MatchTreesModel", "placeSet", "[I", true)
  | 64 => ("MatchTreesModel", "fullIn", "[I", true)
  | 65 => ("MatchTreesModel", "guardAt", "[I", true)
  | 66 => ("MatchTreesModel", "unguarded", "I", false)
  | 67 => ("MatchTreesModel", "valueAt", "[I", true)
  | 68 => ("MatchTreesModel", "manyBy", "[I", true)
  | 69 => ("MatchTreesModel", "out", "[I", true)
  | 70 => ("MatchTreesModel", "outs", "I", false)
  | 71 => ("MatchTreesModel", "todoKind", "[I", true)
  | 72 => ("MatchTreesModel", "todo", "[I", true)
  | 73 => ("MatchTreesModel", "todos", "I", false)
  | 74 => ("MatchTreesModel", "stamp", "I", false)
  | 75 => ("MatchTreesModel", "chosen", "[I", true)
  | 76 => ("MatchTreesModel", "ruleNow", "I", false)
  | 77 => ("MatchTreesModel", "metBy", "[I", true)
  | 78 => ("MatchTreesModel", "meeting", "I", false)
  | 79 => ("MatchTreesModel", "reached", "[I", true)
  | 80 => ("MatchTreesModel", "states", "[I", true)
  | 81 => ("MatchTreesModel", "stateMany", "I", false)
  | 82 => ("MatchTreesModel", "below", "[I", true)
  | 83 => ("MatchTreesModel", "openLeft", "[I", true)
  | 84 => ("MatchTreesModel", "openNext", "[I", true)
  | 85 => ("MatchTreesModel", "openScope", "[I", true)
  | 86 => ("MatchTreesModel", "shut", "[I", true)
  | 87 => ("MatchTreesModel", "scopeMany", "I", false)
  | 88 => ("MatchTreesModel", "shutMany", "I", false)
  | 89 => ("MatchTreesModel", "mostOpen", "I", false)
  | 90 => ("MatchTreesModel", "isStopped", "Z", false)
  | 91 => ("MatchTreesModel", "isFair", "[I", true)
  | 92 => ("MatchTreesModel", "seenMany", "I", false)
  | 93 => ("MatchTreesModel", "seenRow", "[I", true)
  | 94 => ("MatchTreesModel", "seenArm", "[I", true)
  | 95 => ("MatchTreesModel", "isLeft", "[I", true)
  | 96 => ("MatchTreesModel", "openOf", "[I", true)
  | _ => ("MatchTreesModel", "manyArm", "[I", true)
def tyX12 : Nat → FieldType := fun k => match k with
  | 0 => .array .int
  | 1 => .int
  | 2 => .int
  | 3 => .int
  | 4 => .int
  | 5 => .int
  | 6 => .int
  | 7 => .long
  | 8 => .int
  | 9 => .int
  | 10 => .int
  | 11 => .int
  | 12 => .int
  | 13 => .int
  | 14 => .array .int
  | 15 => .array .int
  | 16 => .array .int
  | 17 => .array .int
  | 18 => .array .int
  | 19 => .array .int
  | 20 => .array .int
  | 21 => .array .int
  | 22 => .array .int
  | 23 => .array .int
  | 24 => .array .int
  | 25 => .array .int
  | 26 => .array .int
  | 27 => .array .int
  | 28 => .array .int
  | 29 => .array .int
  | 30 => .array .int
  | 31 => .array .int
  | 32 => .array .int
  | 33 => .array .int
  | 34 => .array .long
  | 35 => .array .long
  | 36 => .int
  | 37 => .int
  | 38 => .boolean
  | 39 => .array .int
  | 40 => .array .int
  | 41 => .array .int
  | 42 => .array .int
  | 43 => .int
  | 44 => .boolean
  | 45 => .array .int
  | 46 => .array .int
  | 47 => .array .int
  | 48 => .array .int
  | 49 => .array .int
  | 50 => .array .int
  | 51 => .array .int
  | 52 => .int
  | 53 => .array .int
  | 54 => .array .int
  | 55 => .array .int
  | 56 => .array .int
  | 57 => .array .int
  | 58 => .array .int
  | 59 => .int
  | 60 => .int
  | 61 => .long
  | 62 => .int
  | 63 => .array .int
  | 64 => .array .int
  | 65 => .array .int
  | 66 => .int
  | 67 => .array .int
  | 68 => .array .int
  | 69 => .array .int
  | 70 => .int
  | 71 => .array .int
  | 72 => .array .int
  | 73 => .int
  | 74 => .int
  | 75 => .array .int
  | 76 => .int
  | 77 => .array .int
  | 78 => .int
  | 79 => .array .int
  | 80 => .array .int
  | 81 => .int
  | 82 => .array .int
  | 83 => .array .int
  | 84 => .array .int
  | 85 => .array .int
  | 86 => .array .int
  | 87 => .int
  | 88 => .int
  | 89 => .int
  | 90 => .boolean
  | 91 => .array .int
  | 92 => .int
  | 93 => .array .int
  | 94 => .array .int
  | 95 => .array .int
  | 96 => .array .int
  | _ => .array .int
theorem nmX12 : ∀ a, a < 98 → ∀ b, b < 98 → a ≠ b → (TX12 a).2.1 ≠ (TX12 b).2.1 := by decide +kernel
theorem tyX12_ok : ∀ k, k < 98 → parseFieldDescriptor (TX12 k).2.2.1 = some (tyX12 k) := by decide +kernel
abbrev cX12_init : ByteArray := prog_14_method_1_code
def yX12_init : MethodName := ⟨RX12, "<init>", "()V"⟩
abbrev cX12_is : ByteArray := prog_14_method_2_code
def yX12_is : MethodName := ⟨RX12, "is", "(III)Z"⟩
abbrev cX12_put : ByteArray := prog_14_method_3_code
def yX12_put : MethodName := ⟨RX12, "put", "(I)V"⟩
abbrev cX12_feed : ByteArray := prog_14_method_4_code
def yX12_feed : MethodName := ⟨RX12, "feed", "(IIIII)I"⟩
abbrev cX12_end : ByteArray := prog_14_method_5_code
def yX12_end : MethodName := ⟨RX12, "end", "(I)Z"⟩
abbrev cX12_blame : ByteArray := prog_14_method_6_code
def yX12_blame : MethodName := ⟨RX12, "blame", "(II)V"⟩
abbrev cX12_isLetter : ByteArray := prog_14_method_7_code
def yX12_isLetter : MethodName := ⟨RX12, "isLetter", "(I)Z"⟩
abbrev cX12_isDigit : ByteArray := prog_14_method_8_code
def yX12_isDigit : MethodName := ⟨RX12, "isDigit", "(I)Z"⟩
abbrev cX12_lex : ByteArray := prog_14_method_9_code
def yX12_lex : MethodName := ⟨RX12, "lex", "()V"⟩
abbrev cX12_ahead : ByteArray := prog_14_method_10_code
def yX12_ahead : MethodName := ⟨RX12, "ahead", "()V"⟩
abbrev cX12_isSign : ByteArray := prog_14_method_11_code
def yX12_isSign : MethodName := ⟨RX12, "isSign", "(I)Z"⟩
abbrev cX12_isWord : ByteArray := prog_14_method_12_code
def yX12_isWord : MethodName := ⟨RX12, "isWord", "(J)Z"⟩
abbrev cX12_must : ByteArray := prog_14_method_13_code
def yX12_must : MethodName := ⟨RX12, "must", "(I)V"⟩
abbrev cX12_isOwn : ByteArray := prog_14_method_14_code
def yX12_isOwn : MethodName := ⟨RX12, "isOwn", "(J)Z"⟩
abbrev cX12_number : ByteArray := prog_14_method_15_code
def yX12_number : MethodName := ⟨RX12, "number", "(II)I"⟩
abbrev cX12_isCounted : ByteArray := prog_14_method_16_code
def yX12_isCounted : MethodName := ⟨RX12, "isCounted", "(Z)Z"⟩
abbrev cX12_kindNamed : ByteArray := prog_14_method_17_code
def yX12_kindNamed : MethodName := ⟨RX12, "kindNamed", "(J)I"⟩
abbrev cX12_conNamed : ByteArray := prog_14_method_18_code
def yX12_conNamed : MethodName := ⟨RX12, "conNamed", "(IJ)I"⟩
abbrev cX12_valuesOf : ByteArray := prog_14_method_19_code
def yX12_valuesOf : MethodName := ⟨RX12, "valuesOf", "(II)I"⟩
abbrev cX12_fresh : ByteArray := prog_14_method_20_code
def yX12_fresh : MethodName := ⟨RX12, "fresh", "()J"⟩
abbrev cX12_kindIs : ByteArray := prog_14_method_21_code
def yX12_kindIs : MethodName := ⟨RX12, "kindIs", "()V"⟩
abbrev cX12_known : ByteArray := prog_14_method_22_code
def yX12_known : MethodName := ⟨RX12, "known", "(I)I"⟩
abbrev cX12_isKindHere : ByteArray := prog_14_method_23_code
def yX12_isKindHere : MethodName := ⟨RX12, "isKindHere", "()Z"⟩
abbrev cX12_conIs : ByteArray := prog_14_method_24_code
def yX12_conIs : MethodName := ⟨RX12, "conIs", "()V"⟩
abbrev cX12_matchIs : ByteArray := prog_14_method_25_code
def yX12_matchIs : MethodName := ⟨RX12, "matchIs", "()V"⟩
abbrev cX12_emits : ByteArray := prog_14_method_26_code
def yX12_emits : MethodName := ⟨RX12, "emits", "(III)V"⟩
abbrev cX12_opensPattern : ByteArray := prog_14_method_27_code
def yX12_opensPattern : MethodName := ⟨RX12, "opensPattern", "(I)V"⟩
abbrev cX12_fieldBegins : ByteArray := prog_14_method_28_code
def yX12_fieldBegins : MethodName := ⟨RX12, "fieldBegins", "(II)V"⟩
abbrev cX12_range : ByteArray := prog_14_method_29_code
def yX12_range : MethodName := ⟨RX12, "range", "()V"⟩
abbrev cX12_alternative : ByteArray := prog_14_method_30_code
def yX12_alternative : MethodName := ⟨RX12, "alternative", "()Z"⟩
abbrev cX12_goesOn : ByteArray := prog_14_method_31_code
def yX12_goesOn : MethodName := ⟨RX12, "goesOn", "(I)Z"⟩
abbrev cX12_pattern : ByteArray := prog_14_method_32_code
def yX12_pattern : MethodName := ⟨RX12, "pattern", "(I)V"⟩
abbrev cX12_armIs : ByteArray := prog_14_method_33_code
def yX12_armIs : MethodName := ⟨RX12, "armIs", "()V"⟩
abbrev cX12_ruleIs : ByteArray := prog_14_method_34_code
def yX12_ruleIs : MethodName := ⟨RX12, "ruleIs", "()V"⟩
abbrev cX12_budgetIs : ByteArray := prog_14_method_35_code
def yX12_budgetIs : MethodName := ⟨RX12, "budgetIs", "()V"⟩
abbrev cX12_statement : ByteArray := prog_14_method_36_code
def yX12_statement : MethodName := ⟨RX12, "statement", "()V"⟩
abbrev cX12_finishes : ByteArray := prog_14_method_37_code
def yX12_finishes : MethodName := ⟨RX12, "finishes", "(I)V"⟩
abbrev cX12_match : ByteArray := prog_14_method_38_code
def yX12_match : MethodName := ⟨RX12, "match", "()I"⟩
abbrev cX12_fault : ByteArray := prog_14_method_39_code
def yX12_fault : MethodName := ⟨RX12, "fault", "(I)I"⟩
abbrev cX12_refuses : ByteArray := prog_14_method_40_code
def yX12_refuses : MethodName := ⟨RX12, "refuses", "(I)I"⟩
abbrev cX12_status : ByteArray := prog_14_method_41_code
def yX12_status : MethodName := ⟨RX12, "status", "(I)I"⟩
abbrev cX12_fieldOf : ByteArray := prog_14_method_42_code
def yX12_fieldOf : MethodName := ⟨RX12, "fieldOf", "(III)I"⟩
abbrev cX12_isFitting : ByteArray := prog_14_method_43_code
def yX12_isFitting : MethodName := ⟨RX12, "isFitting", "(III)Z"⟩
abbrev cX12_columns : ByteArray := prog_14_method_44_code
def yX12_columns : MethodName := ⟨RX12, "columns", "()I"⟩
abbrev cX12_columnValues : ByteArray := prog_14_method_45_code
def yX12_columnValues : MethodName := ⟨RX12, "columnValues", "(I)I"⟩
abbrev cX12_lays : ByteArray := prog_14_method_46_code
def yX12_lays : MethodName := ⟨RX12, "lays", "()V"⟩
abbrev cX12_copies : ByteArray := prog_14_method_47_code
def yX12_copies : MethodName := ⟨RX12, "copies", "(II)V"⟩
abbrev cX12_begin : ByteArray := prog_14_method_48_code
def yX12_begin : MethodName := ⟨RX12, "begin", "()V"⟩
abbrev cX12_slot : ByteArray := prog_14_method_49_code
def yX12_slot : MethodName := ⟨RX12, "slot", "(I)I"⟩
abbrev cX12_keeps : ByteArray := prog_14_method_50_code
def yX12_keeps : MethodName := ⟨RX12, "keeps", "()V"⟩
abbrev cX12_undo : ByteArray := prog_14_method_51_code
def yX12_undo : MethodName := ⟨RX12, "undo", "()Z"⟩
abbrev cX12_placed : ByteArray := prog_14_method_52_code
def yX12_placed : MethodName := ⟨RX12, "placed", "(II)I"⟩
abbrev cX12_arranges : ByteArray := prog_14_method_53_code
def yX12_arranges : MethodName := ⟨RX12, "arranges", "(I)V"⟩
abbrev cX12_openBy : ByteArray := prog_14_method_54_code
def yX12_openBy : MethodName := ⟨RX12, "openBy", "(I)I"⟩
abbrev cX12_lowest : ByteArray := prog_14_method_55_code
def yX12_lowest : MethodName := ⟨RX12, "lowest", "(I)I"⟩
abbrev cX12_bitsOf : ByteArray := prog_14_method_56_code
def yX12_bitsOf : MethodName := ⟨RX12, "bitsOf", "(I)I"⟩
abbrev cX12_valuesIn : ByteArray := prog_14_method_57_code
def yX12_valuesIn : MethodName := ⟨RX12, "valuesIn", "(I)V"⟩
abbrev cX12_setIn : ByteArray := prog_14_method_58_code
def yX12_setIn : MethodName := ⟨RX12, "setIn", "(II)I"⟩
abbrev cX12_fitting : ByteArray := prog_14_method_59_code
def yX12_fitting : MethodName := ⟨RX12, "fitting", "(I)I"⟩
abbrev cX12_countsRows : ByteArray := prog_14_method_60_code
def yX12_countsRows : MethodName := ⟨RX12, "countsRows", "()V"⟩
abbrev cX12_has : ByteArray := prog_14_method_61_code
def yX12_has : MethodName := ⟨RX12, "has", "(I)I"⟩
abbrev cX12_lettersOf : ByteArray := prog_14_method_62_code
def yX12_lettersOf : MethodName := ⟨RX12, "lettersOf", "(J)I"⟩
abbrev cX12_letter : ByteArray := prog_14_method_63_code
def yX12_letter : MethodName := ⟨RX12, "letter", "(III)I"⟩
abbrev cX12_values : ByteArray := prog_14_method_64_code
def yX12_values : MethodName := ⟨RX12, "values", "(I)I"⟩
abbrev cX12_isPlace : ByteArray := prog_14_method_65_code
def yX12_isPlace : MethodName := ⟨RX12, "isPlace", "(I)Z"⟩
abbrev cX12_fittingRows : ByteArray := prog_14_method_66_code
def yX12_fittingRows : MethodName := ⟨RX12, "fittingRows", "(I)I"⟩
abbrev cX12_isUseful : ByteArray := prog_14_method_67_code
def yX12_isUseful : MethodName := ⟨RX12, "isUseful", "(I)I"⟩
abbrev cX12_takenRows : ByteArray := prog_14_method_68_code
def yX12_takenRows : MethodName := ⟨RX12, "takenRows", "(I)I"⟩
abbrev cX12_arm : ByteArray := prog_14_method_69_code
def yX12_arm : MethodName := ⟨RX12, "arm", "(II)I"⟩
abbrev cX12_fits : ByteArray := prog_14_method_70_code
def yX12_fits : MethodName := ⟨RX12, "fits", "(III)I"⟩
abbrev cX12_holds : ByteArray := prog_14_method_71_code
def yX12_holds : MethodName := ⟨RX12, "holds", "(II)I"⟩
abbrev cX12_missing : ByteArray := prog_14_method_72_code
def yX12_missing : MethodName := ⟨RX12, "missing", "(I)I"⟩
abbrev cX12_isRow : ByteArray := prog_14_method_73_code
def yX12_isRow : MethodName := ⟨RX12, "isRow", "(I)Z"⟩
abbrev cX12_taken : ByteArray := prog_14_method_74_code
def yX12_taken : MethodName := ⟨RX12, "taken", "(I)I"⟩
abbrev cX12_valueRead : ByteArray := prog_14_method_75_code
def yX12_valueRead : MethodName := ⟨RX12, "valueRead", "(I)I"⟩
abbrev cX12_conRead : ByteArray := prog_14_method_76_code
def yX12_conRead : MethodName := ⟨RX12, "conRead", "(I)I"⟩
abbrev cX12_isMoreOf : ByteArray := prog_14_method_77_code
def yX12_isMoreOf : MethodName := ⟨RX12, "isMoreOf", "(I)Z"⟩
abbrev cX12_row : ByteArray := prog_14_method_78_code
def yX12_row : MethodName := ⟨RX12, "row", "()I"⟩
abbrev cX12_writes : ByteArray := prog_14_method_79_code
def yX12_writes : MethodName := ⟨RX12, "writes", "(I)V"⟩
abbrev cX12_writesName : ByteArray := prog_14_method_80_code
def yX12_writesName : MethodName := ⟨RX12, "writesName", "(J)V"⟩
abbrev cX12_later : ByteArray := prog_14_method_81_code
def yX12_later : MethodName := ⟨RX12, "later", "(II)V"⟩
abbrev cX12_conOf : ByteArray := prog_14_method_82_code
def yX12_conOf : MethodName := ⟨RX12, "conOf", "(II)I"⟩
abbrev cX12_writesValue : ByteArray := prog_14_method_83_code
def yX12_writesValue : MethodName := ⟨RX12, "writesValue", "(II)V"⟩
abbrev cX12_text : ByteArray := prog_14_method_84_code
def yX12_text : MethodName := ⟨RX12, "text", "(I)I"⟩
abbrev cX12_octet : ByteArray := prog_14_method_85_code
def yX12_octet : MethodName := ⟨RX12, "octet", "(I)I"⟩
abbrev cX12_leftOf : ByteArray := prog_14_method_86_code
def yX12_leftOf : MethodName := ⟨RX12, "leftOf", "(II)I"⟩
abbrev cX12_armsIn : ByteArray := prog_14_method_87_code
def yX12_armsIn : MethodName := ⟨RX12, "armsIn", "(I)I"⟩
abbrev cX12_columnsIn : ByteArray := prog_14_method_88_code
def yX12_columnsIn : MethodName := ⟨RX12, "columnsIn", "(I)I"⟩
abbrev cX12_worthOf : ByteArray := prog_14_method_90_code
def yX12_worthOf : MethodName := ⟨RX12, "worthOf", "(II)I"⟩
abbrev cX12_asksFor : ByteArray := prog_14_method_91_code
def yX12_asksFor : MethodName := ⟨RX12, "asksFor", "(I)I"⟩
abbrev cX12_isDoor : ByteArray := prog_14_method_92_code
def yX12_isDoor : MethodName := ⟨RX12, "isDoor", "(I)Z"⟩
abbrev cX12_throughDoor : ByteArray := prog_14_method_93_code
def yX12_throughDoor : MethodName := ⟨RX12, "throughDoor", "(I)I"⟩
abbrev cX12_branchOf : ByteArray := prog_14_method_94_code
def yX12_branchOf : MethodName := ⟨RX12, "branchOf", "(III)I"⟩
abbrev cX12_root : ByteArray := prog_14_method_95_code
def yX12_root : MethodName := ⟨RX12, "root", "()I"⟩
abbrev cX12_plants : ByteArray := prog_14_method_96_code
def yX12_plants : MethodName := ⟨RX12, "plants", "(II)V"⟩
abbrev cX12_testsFor : ByteArray := prog_14_method_97_code
def yX12_testsFor : MethodName := ⟨RX12, "testsFor", "(II)I"⟩
abbrev cX12_allTests : ByteArray := prog_14_method_98_code
def yX12_allTests : MethodName := ⟨RX12, "allTests", "(I)I"⟩
abbrev cX12_reaches : ByteArray := prog_14_method_99_code
def yX12_reaches : MethodName := ⟨RX12, "reaches", "(I)V"⟩
abbrev cX12_grows : ByteArray := prog_14_method_100_code
def yX12_grows : MethodName := ⟨RX12, "grows", "()V"⟩
abbrev cX12_weighs : ByteArray := prog_14_method_101_code
def yX12_weighs : MethodName := ⟨RX12, "weighs", "(I)V"⟩
abbrev cX12_sizeOf : ByteArray := prog_14_method_102_code
def yX12_sizeOf : MethodName := ⟨RX12, "sizeOf", "(I)I"⟩
abbrev cX12_tree : ByteArray := prog_14_method_103_code
def yX12_tree : MethodName := ⟨RX12, "tree", "(II)I"⟩
abbrev cX12_first : ByteArray := prog_14_method_104_code
def yX12_first : MethodName := ⟨RX12, "first", "(I)I"⟩
abbrev cX12_isNewSet : ByteArray := prog_14_method_105_code
def yX12_isNewSet : MethodName := ⟨RX12, "isNewSet", "(III)Z"⟩
abbrev cX12_nextBranch : ByteArray := prog_14_method_106_code
def yX12_nextBranch : MethodName := ⟨RX12, "nextBranch", "(I)I"⟩
abbrev cX12_opensScope : ByteArray := prog_14_method_107_code
def yX12_opensScope : MethodName := ⟨RX12, "opensScope", "(II)V"⟩
abbrev cX12_builds : ByteArray := prog_14_method_108_code
def yX12_builds : MethodName := ⟨RX12, "builds", "()V"⟩
abbrev cX12_scopes : ByteArray := prog_14_method_109_code
def yX12_scopes : MethodName := ⟨RX12, "scopes", "(III)I"⟩
abbrev cX12_swapped : ByteArray := prog_14_method_110_code
def yX12_swapped : MethodName := ⟨RX12, "swapped", "(III)I"⟩
abbrev cX12_moved : ByteArray := prog_14_method_111_code
def yX12_moved : MethodName := ⟨RX12, "moved", "(III)I"⟩
abbrev cX12_isSafe : ByteArray := prog_14_method_112_code
def yX12_isSafe : MethodName := ⟨RX12, "isSafe", "(II)Z"⟩
abbrev cX12_safe : ByteArray := prog_14_method_113_code
def yX12_safe : MethodName := ⟨RX12, "safe", "(II)I"⟩
abbrev cX12_exchanges : ByteArray := prog_14_method_114_code
def yX12_exchanges : MethodName := ⟨RX12, "exchanges", "(III)V"⟩
abbrev cX12_best : ByteArray := prog_14_method_115_code
def yX12_best : MethodName := ⟨RX12, "best", "(I)I"⟩
abbrev cX12_see : ByteArray := prog_14_method_116_code
def yX12_see : MethodName := ⟨RX12, "see", "()I"⟩
abbrev cX12_leaves : ByteArray := prog_14_method_117_code
def yX12_leaves : MethodName := ⟨RX12, "leaves", "()I"⟩
abbrev cX12_sets : ByteArray := prog_14_method_118_code
def yX12_sets : MethodName := ⟨RX12, "sets", "(I)I"⟩
abbrev cX12_mostBy : ByteArray := prog_14_method_119_code
def yX12_mostBy : MethodName := ⟨RX12, "mostBy", "(I)I"⟩
abbrev cX12_tells : ByteArray := prog_14_method_120_code
def yX12_tells : MethodName := ⟨RX12, "tells", "(I)I"⟩
abbrev cX12_runs : ByteArray := prog_14_method_121_code
def yX12_runs : MethodName := ⟨RX12, "runs", "(I)I"⟩
abbrev cX12_run : ByteArray := prog_14_method_122_code
def yX12_run : MethodName := ⟨RX12, "run", "(I)I"⟩
abbrev cX12_draw : ByteArray := prog_14_method_123_code
def yX12_draw : MethodName := ⟨RX12, "draw", "(I)I"⟩
abbrev cX12_chance : ByteArray := prog_14_method_124_code
def yX12_chance : MethodName := ⟨RX12, "chance", "(I)I"⟩
abbrev cX12_swap : ByteArray := prog_14_method_125_code
def yX12_swap : MethodName := ⟨RX12, "swap", "(II)Z"⟩
abbrev cX12_drop : ByteArray := prog_14_method_126_code
def yX12_drop : MethodName := ⟨RX12, "drop", "(I)Z"⟩
abbrev cX12_turn : ByteArray := prog_14_method_127_code
def yX12_turn : MethodName := ⟨RX12, "turn", "(I)I"⟩
abbrev cX12_choose : ByteArray := prog_14_method_128_code
def yX12_choose : MethodName := ⟨RX12, "choose", "(I)Z"⟩
abbrev cX12_seed : ByteArray := prog_14_method_129_code
def yX12_seed : MethodName := ⟨RX12, "seed", "(I)Z"⟩
abbrev cX12_kept : ByteArray := prog_14_method_130_code
def yX12_kept : MethodName := ⟨RX12, "kept", "(II)I"⟩
abbrev cX12_image : ByteArray := prog_14_method_131_code
def yX12_image : MethodName := ⟨RX12, "image", "()I"⟩
abbrev cX12_comesOn : ByteArray := prog_14_method_132_code
def yX12_comesOn : MethodName := ⟨RX12, "comesOn", "(I)Z"⟩
abbrev cX12_on : ByteArray := prog_14_method_133_code
def yX12_on : MethodName := ⟨RX12, "on", "()Z"⟩
def RJ6 : String := "java/lang/Integer"
abbrev cJ6_bitCount_0f7a4 : ByteArray := prog_15_method_49_code
def yJ6_bitCount_0f7a4 : MethodName := ⟨RJ6, "bitCount", "(I)I"⟩
def RJ9 : String := "java/lang/Math"
abbrev cJ9_floorMod_7cf53 : ByteArray := prog_16_method_50_code
def yJ9_floorMod_7cf53 : MethodName := ⟨RJ9, "floorMod", "(II)I"⟩
abbrev cJ9_max_7cf53 : ByteArray := prog_16_method_65_code
def yJ9_max_7cf53 : MethodName := ⟨RJ9, "max", "(II)I"⟩
abbrev cJ9_min_7cf53 : ByteArray := prog_16_method_69_code
def yJ9_min_7cf53 : MethodName := ⟨RJ9, "min", "(II)I"⟩
def RJ0 : String := "java/lang/String"
abbrev cJ0_length_8abf5 : ByteArray := prog_17_method_54_code
def yJ0_length_8abf5 : MethodName := ⟨RJ0, "length", "()I"⟩
abbrev cJ0_charAt_5068e : ByteArray := prog_17_method_56_code
def yJ0_charAt_5068e : MethodName := ⟨RJ0, "charAt", "(I)C"⟩
abbrev cJ0_coder_7d493 : ByteArray := prog_17_method_152_code
def yJ0_coder_7d493 : MethodName := ⟨RJ0, "coder", "()B"⟩
abbrev cJ0_isLatin1_aae02 : ByteArray := prog_17_method_154_code
def yJ0_isLatin1_aae02 : MethodName := ⟨RJ0, "isLatin1", "()Z"⟩
abbrev cJ0_checkIndex_df160 : ByteArray := prog_17_method_155_code
def yJ0_checkIndex_df160 : MethodName := ⟨RJ0, "checkIndex", "(II)V"⟩
def RJ1 : String := "java/lang/StringLatin1"
abbrev cJ1_charAt_3b067 : ByteArray := prog_18_method_2_code
def yJ1_charAt_3b067 : MethodName := ⟨RJ1, "charAt", "([BI)C"⟩
def RJ3 : String := "jdk/internal/util/Preconditions"
abbrev cJ3_checkIndex_8e157 : ByteArray := prog_20_method_11_code
def yJ3_checkIndex_8e157 : MethodName := ⟨RJ3, "checkIndex", "(IILjava/util/function/BiFunction;)I"⟩
def RL : String := "MatchTreesLaw"
abbrev cL_law : ByteArray := code
abbrev vwCl : List vw_C := [(RX0, TX0, 8), (RX1, TX1, 2), (RX2, TX2, 4), (RX3, TX3, 11), (RX4, TX4, 3), (RX5, TX5, 4), (RX6, TX6, 5), (RX7, TX7, 9), (RX8, TX8, 6), (RX9, TX9, 11), (RX10, TX10, 15), (RX11, TX11, 15), (RX12, TX12, 98)]
