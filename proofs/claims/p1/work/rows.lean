section
-- ===== PART A: goes FIRST, ahead of the names: the tables' words, and 'selects' of the private methods out of them =====
/-- a private method of a class that the tables say can be made, by its rows of tables_1 -/
def lw_okq (q : MethodName × Nat) : Prop := (q.1.cls ≠ "java/lang/invoke/MethodHandle" ∧ q.1.cls ≠ "java/lang/invoke/VarHandle") ∧ Cond.instantiable q.1.cls q.2 ∈ tables_1 ∧ Cond.privateMethod q.1 ∈ tables_1 ∧ Cond.instanceMethod q.1 ∈ tables_1
theorem lw_p0 : lw_okq (⟨"MatchTrees", "refuse", "(I)Z"⟩, 15) := ⟨⟨by decide +kernel, by decide +kernel⟩, List.mem_of_getElem? (i := 21) (by decide +kernel), List.mem_of_getElem? (i := 535) (by decide +kernel), List.mem_of_getElem? (i := 536) (by decide +kernel)⟩
theorem lw_p1 : lw_okq (⟨"MatchTrees$Reader", "begin", "(LMatchTrees$Bytes;)V"⟩, 5) := ⟨⟨by decide +kernel, by decide +kernel⟩, List.mem_of_getElem? (i := 296) (by decide +kernel), List.mem_of_getElem? (i := 567) (by decide +kernel), List.mem_of_getElem? (i := 568) (by decide +kernel)⟩
theorem lw_p2 : lw_okq (⟨"MatchTrees$Scanner", "stepWord", "()V"⟩, 9) := ⟨⟨by decide +kernel, by decide +kernel⟩, List.mem_of_getElem? (i := 302) (by decide +kernel), List.mem_of_getElem? (i := 583) (by decide +kernel), List.mem_of_getElem? (i := 584) (by decide +kernel)⟩
theorem lw_p3 : lw_okq (⟨"MatchTrees$Scanner", "stepNumber", "()V"⟩, 9) := ⟨⟨by decide +kernel, by decide +kernel⟩, List.mem_of_getElem? (i := 302) (by decide +kernel), List.mem_of_getElem? (i := 587) (by decide +kernel), List.mem_of_getElem? (i := 588) (by decide +kernel)⟩
theorem lw_p4 : lw_okq (⟨"MatchTrees$Reader", "readKind", "()Z"⟩, 5) := ⟨⟨by decide +kernel, by decide +kernel⟩, List.mem_of_getElem? (i := 296) (by decide +kernel), List.mem_of_getElem? (i := 591) (by decide +kernel), List.mem_of_getElem? (i := 592) (by decide +kernel)⟩
theorem lw_p5 : lw_okq (⟨"MatchTrees$Reader", "failHere", "()Z"⟩, 5) := ⟨⟨by decide +kernel, by decide +kernel⟩, List.mem_of_getElem? (i := 296) (by decide +kernel), List.mem_of_getElem? (i := 595) (by decide +kernel), List.mem_of_getElem? (i := 596) (by decide +kernel)⟩
theorem lw_p6 : lw_okq (⟨"MatchTrees$Reader", "fail", "(II)Z"⟩, 5) := ⟨⟨by decide +kernel, by decide +kernel⟩, List.mem_of_getElem? (i := 296) (by decide +kernel), List.mem_of_getElem? (i := 599) (by decide +kernel), List.mem_of_getElem? (i := 600) (by decide +kernel)⟩
theorem lw_p7 : lw_okq (⟨"MatchTrees$Reader", "isNewName", "()Z"⟩, 5) := ⟨⟨by decide +kernel, by decide +kernel⟩, List.mem_of_getElem? (i := 296) (by decide +kernel), List.mem_of_getElem? (i := 604) (by decide +kernel), List.mem_of_getElem? (i := 605) (by decide +kernel)⟩
theorem lw_p8 : lw_okq (⟨"MatchTrees$Reader", "readCon", "()Z"⟩, 5) := ⟨⟨by decide +kernel, by decide +kernel⟩, List.mem_of_getElem? (i := 296) (by decide +kernel), List.mem_of_getElem? (i := 624) (by decide +kernel), List.mem_of_getElem? (i := 625) (by decide +kernel)⟩
theorem lw_p9 : lw_okq (⟨"MatchTrees$Reader", "isKindWord", "()Z"⟩, 5) := ⟨⟨by decide +kernel, by decide +kernel⟩, List.mem_of_getElem? (i := 296) (by decide +kernel), List.mem_of_getElem? (i := 636) (by decide +kernel), List.mem_of_getElem? (i := 637) (by decide +kernel)⟩
theorem lw_p10 : lw_okq (⟨"MatchTrees$Reader", "isKindHere", "(I)Z"⟩, 5) := ⟨⟨by decide +kernel, by decide +kernel⟩, List.mem_of_getElem? (i := 296) (by decide +kernel), List.mem_of_getElem? (i := 640) (by decide +kernel), List.mem_of_getElem? (i := 641) (by decide +kernel)⟩
theorem lw_p11 : lw_okq (⟨"MatchTrees$Reader", "kindHere", "()I"⟩, 5) := ⟨⟨by decide +kernel, by decide +kernel⟩, List.mem_of_getElem? (i := 296) (by decide +kernel), List.mem_of_getElem? (i := 644) (by decide +kernel), List.mem_of_getElem? (i := 645) (by decide +kernel)⟩
theorem lw_p12 : lw_okq (⟨"MatchTrees$Reader", "readColumns", "()Z"⟩, 5) := ⟨⟨by decide +kernel, by decide +kernel⟩, List.mem_of_getElem? (i := 296) (by decide +kernel), List.mem_of_getElem? (i := 656) (by decide +kernel), List.mem_of_getElem? (i := 657) (by decide +kernel)⟩
theorem lw_p13 : lw_okq (⟨"MatchTrees$Reader", "readArm", "()Z"⟩, 5) := ⟨⟨by decide +kernel, by decide +kernel⟩, List.mem_of_getElem? (i := 296) (by decide +kernel), List.mem_of_getElem? (i := 665) (by decide +kernel), List.mem_of_getElem? (i := 666) (by decide +kernel)⟩
theorem lw_p14 : lw_okq (⟨"MatchTrees$Reader", "readSign", "(I)Z"⟩, 5) := ⟨⟨by decide +kernel, by decide +kernel⟩, List.mem_of_getElem? (i := 296) (by decide +kernel), List.mem_of_getElem? (i := 669) (by decide +kernel), List.mem_of_getElem? (i := 670) (by decide +kernel)⟩
theorem lw_p15 : lw_okq (⟨"MatchTrees$Reader", "readRange", "(I)Z"⟩, 5) := ⟨⟨by decide +kernel, by decide +kernel⟩, List.mem_of_getElem? (i := 296) (by decide +kernel), List.mem_of_getElem? (i := 684) (by decide +kernel), List.mem_of_getElem? (i := 685) (by decide +kernel)⟩
def lw_privs_1 : List (MethodName × Nat) := [(⟨"MatchTrees", "refuse", "(I)Z"⟩, 15), (⟨"MatchTrees$Reader", "begin", "(LMatchTrees$Bytes;)V"⟩, 5), (⟨"MatchTrees$Scanner", "stepWord", "()V"⟩, 9), (⟨"MatchTrees$Scanner", "stepNumber", "()V"⟩, 9), (⟨"MatchTrees$Reader", "readKind", "()Z"⟩, 5), (⟨"MatchTrees$Reader", "failHere", "()Z"⟩, 5), (⟨"MatchTrees$Reader", "fail", "(II)Z"⟩, 5), (⟨"MatchTrees$Reader", "isNewName", "()Z"⟩, 5), (⟨"MatchTrees$Reader", "readCon", "()Z"⟩, 5), (⟨"MatchTrees$Reader", "isKindWord", "()Z"⟩, 5), (⟨"MatchTrees$Reader", "isKindHere", "(I)Z"⟩, 5), (⟨"MatchTrees$Reader", "kindHere", "()I"⟩, 5), (⟨"MatchTrees$Reader", "readColumns", "()Z"⟩, 5), (⟨"MatchTrees$Reader", "readArm", "()Z"⟩, 5), (⟨"MatchTrees$Reader", "readSign", "(I)Z"⟩, 5), (⟨"MatchTrees$Reader", "readRange", "(I)Z"⟩, 5)]
theorem lw_r1 : ∀ q ∈ lw_privs_1, lw_okq q := List.forall_mem_cons.mpr ⟨lw_p0, List.forall_mem_cons.mpr ⟨lw_p1, List.forall_mem_cons.mpr ⟨lw_p2, List.forall_mem_cons.mpr ⟨lw_p3, List.forall_mem_cons.mpr ⟨lw_p4, List.forall_mem_cons.mpr ⟨lw_p5, List.forall_mem_cons.mpr ⟨lw_p6, List.forall_mem_cons.mpr ⟨lw_p7, List.forall_mem_cons.mpr ⟨lw_p8, List.forall_mem_cons.mpr ⟨lw_p9, List.forall_mem_cons.mpr ⟨lw_p10, List.forall_mem_cons.mpr ⟨lw_p11, List.forall_mem_cons.mpr ⟨lw_p12, List.forall_mem_cons.mpr ⟨lw_p13, List.forall_mem_cons.mpr ⟨lw_p14, List.forall_mem_cons.mpr ⟨lw_p15, fun _ h => absurd h List.not_mem_nil⟩⟩⟩⟩⟩⟩⟩⟩⟩⟩⟩⟩⟩⟩⟩⟩
theorem lw_p16 : lw_okq (⟨"MatchTrees$Reader", "readNumber", "(II)I"⟩, 5) := ⟨⟨by decide +kernel, by decide +kernel⟩, List.mem_of_getElem? (i := 296) (by decide +kernel), List.mem_of_getElem? (i := 688) (by decide +kernel), List.mem_of_getElem? (i := 689) (by decide +kernel)⟩
theorem lw_p17 : lw_okq (⟨"MatchTrees$Reader", "readConName", "(I)I"⟩, 5) := ⟨⟨by decide +kernel, by decide +kernel⟩, List.mem_of_getElem? (i := 296) (by decide +kernel), List.mem_of_getElem? (i := 695) (by decide +kernel), List.mem_of_getElem? (i := 696) (by decide +kernel)⟩
theorem lw_p18 : lw_okq (⟨"MatchTrees$Reader", "fillCase", "(III)V"⟩, 5) := ⟨⟨by decide +kernel, by decide +kernel⟩, List.mem_of_getElem? (i := 296) (by decide +kernel), List.mem_of_getElem? (i := 704) (by decide +kernel), List.mem_of_getElem? (i := 705) (by decide +kernel)⟩
theorem lw_p19 : lw_okq (⟨"MatchTrees$Reader", "readRule", "()Z"⟩, 5) := ⟨⟨by decide +kernel, by decide +kernel⟩, List.mem_of_getElem? (i := 296) (by decide +kernel), List.mem_of_getElem? (i := 725) (by decide +kernel), List.mem_of_getElem? (i := 726) (by decide +kernel)⟩
theorem lw_p20 : lw_okq (⟨"MatchTrees$Reader", "readBudget", "()Z"⟩, 5) := ⟨⟨by decide +kernel, by decide +kernel⟩, List.mem_of_getElem? (i := 296) (by decide +kernel), List.mem_of_getElem? (i := 729) (by decide +kernel), List.mem_of_getElem? (i := 730) (by decide +kernel)⟩
theorem lw_p21 : lw_okq (⟨"MatchTrees", "startMatch", "()V"⟩, 15) := ⟨⟨by decide +kernel, by decide +kernel⟩, List.mem_of_getElem? (i := 21) (by decide +kernel), List.mem_of_getElem? (i := 733) (by decide +kernel), List.mem_of_getElem? (i := 734) (by decide +kernel)⟩
theorem lw_p22 : lw_okq (⟨"MatchTrees", "matched", "()Z"⟩, 15) := ⟨⟨by decide +kernel, by decide +kernel⟩, List.mem_of_getElem? (i := 21) (by decide +kernel), List.mem_of_getElem? (i := 809) (by decide +kernel), List.mem_of_getElem? (i := 810) (by decide +kernel)⟩
theorem lw_p23 : lw_okq (⟨"MatchTrees", "isUseful", "(I)Z"⟩, 15) := ⟨⟨by decide +kernel, by decide +kernel⟩, List.mem_of_getElem? (i := 21) (by decide +kernel), List.mem_of_getElem? (i := 830) (by decide +kernel), List.mem_of_getElem? (i := 831) (by decide +kernel)⟩
theorem lw_p24 : lw_okq (⟨"MatchTrees", "rowsFitting", "(I)I"⟩, 15) := ⟨⟨by decide +kernel, by decide +kernel⟩, List.mem_of_getElem? (i := 21) (by decide +kernel), List.mem_of_getElem? (i := 842) (by decide +kernel), List.mem_of_getElem? (i := 843) (by decide +kernel)⟩
theorem lw_p25 : lw_okq (⟨"MatchTrees", "rowsTaken", "(I)I"⟩, 15) := ⟨⟨by decide +kernel, by decide +kernel⟩, List.mem_of_getElem? (i := 21) (by decide +kernel), List.mem_of_getElem? (i := 846) (by decide +kernel), List.mem_of_getElem? (i := 847) (by decide +kernel)⟩
theorem lw_p26 : lw_okq (⟨"MatchTrees", "countMissing", "(I)I"⟩, 15) := ⟨⟨by decide +kernel, by decide +kernel⟩, List.mem_of_getElem? (i := 21) (by decide +kernel), List.mem_of_getElem? (i := 868) (by decide +kernel), List.mem_of_getElem? (i := 869) (by decide +kernel)⟩
theorem lw_p27 : lw_okq (⟨"MatchTrees", "findMissing", "(II)I"⟩, 15) := ⟨⟨by decide +kernel, by decide +kernel⟩, List.mem_of_getElem? (i := 21) (by decide +kernel), List.mem_of_getElem? (i := 872) (by decide +kernel), List.mem_of_getElem? (i := 873) (by decide +kernel)⟩
theorem lw_p28 : lw_okq (⟨"MatchTrees$Trees", "allColumns", "()I"⟩, 15) := ⟨⟨by decide +kernel, by decide +kernel⟩, List.mem_of_getElem? (i := 423) (by decide +kernel), List.mem_of_getElem? (i := 950) (by decide +kernel), List.mem_of_getElem? (i := 951) (by decide +kernel)⟩
theorem lw_p29 : lw_okq (⟨"MatchTrees$Trees", "columnAsked", "(II)I"⟩, 15) := ⟨⟨by decide +kernel, by decide +kernel⟩, List.mem_of_getElem? (i := 423) (by decide +kernel), List.mem_of_getElem? (i := 957) (by decide +kernel), List.mem_of_getElem? (i := 958) (by decide +kernel)⟩
theorem lw_p30 : lw_okq (⟨"MatchTrees$Trees", "costOf", "(II)I"⟩, 15) := ⟨⟨by decide +kernel, by decide +kernel⟩, List.mem_of_getElem? (i := 423) (by decide +kernel), List.mem_of_getElem? (i := 966) (by decide +kernel), List.mem_of_getElem? (i := 967) (by decide +kernel)⟩
theorem lw_p31 : lw_okq (⟨"MatchTrees$Trees", "notFullInRow", "(II)I"⟩, 15) := ⟨⟨by decide +kernel, by decide +kernel⟩, List.mem_of_getElem? (i := 423) (by decide +kernel), List.mem_of_getElem? (i := 970) (by decide +kernel), List.mem_of_getElem? (i := 971) (by decide +kernel)⟩
def lw_privs_2 : List (MethodName × Nat) := [(⟨"MatchTrees$Reader", "readNumber", "(II)I"⟩, 5), (⟨"MatchTrees$Reader", "readConName", "(I)I"⟩, 5), (⟨"MatchTrees$Reader", "fillCase", "(III)V"⟩, 5), (⟨"MatchTrees$Reader", "readRule", "()Z"⟩, 5), (⟨"MatchTrees$Reader", "readBudget", "()Z"⟩, 5), (⟨"MatchTrees", "startMatch", "()V"⟩, 15), (⟨"MatchTrees", "matched", "()Z"⟩, 15), (⟨"MatchTrees", "isUseful", "(I)Z"⟩, 15), (⟨"MatchTrees", "rowsFitting", "(I)I"⟩, 15), (⟨"MatchTrees", "rowsTaken", "(I)I"⟩, 15), (⟨"MatchTrees", "countMissing", "(I)I"⟩, 15), (⟨"MatchTrees", "findMissing", "(II)I"⟩, 15), (⟨"MatchTrees$Trees", "allColumns", "()I"⟩, 15), (⟨"MatchTrees$Trees", "columnAsked", "(II)I"⟩, 15), (⟨"MatchTrees$Trees", "costOf", "(II)I"⟩, 15), (⟨"MatchTrees$Trees", "notFullInRow", "(II)I"⟩, 15)]
theorem lw_r2 : ∀ q ∈ lw_privs_2, lw_okq q := List.forall_mem_cons.mpr ⟨lw_p16, List.forall_mem_cons.mpr ⟨lw_p17, List.forall_mem_cons.mpr ⟨lw_p18, List.forall_mem_cons.mpr ⟨lw_p19, List.forall_mem_cons.mpr ⟨lw_p20, List.forall_mem_cons.mpr ⟨lw_p21, List.forall_mem_cons.mpr ⟨lw_p22, List.forall_mem_cons.mpr ⟨lw_p23, List.forall_mem_cons.mpr ⟨lw_p24, List.forall_mem_cons.mpr ⟨lw_p25, List.forall_mem_cons.mpr ⟨lw_p26, List.forall_mem_cons.mpr ⟨lw_p27, List.forall_mem_cons.mpr ⟨lw_p28, List.forall_mem_cons.mpr ⟨lw_p29, List.forall_mem_cons.mpr ⟨lw_p30, List.forall_mem_cons.mpr ⟨lw_p31, fun _ h => absurd h List.not_mem_nil⟩⟩⟩⟩⟩⟩⟩⟩⟩⟩⟩⟩⟩⟩⟩⟩
theorem lw_p32 : lw_okq (⟨"MatchTrees$Trees", "countBranches", "(II)I"⟩, 15) := ⟨⟨by decide +kernel, by decide +kernel⟩, List.mem_of_getElem? (i := 423) (by decide +kernel), List.mem_of_getElem? (i := 974) (by decide +kernel), List.mem_of_getElem? (i := 975) (by decide +kernel)⟩
theorem lw_p33 : lw_okq (⟨"MatchTrees$Trees", "mostArms", "(II)I"⟩, 15) := ⟨⟨by decide +kernel, by decide +kernel⟩, List.mem_of_getElem? (i := 423) (by decide +kernel), List.mem_of_getElem? (i := 980) (by decide +kernel), List.mem_of_getElem? (i := 981) (by decide +kernel)⟩
theorem lw_p34 : lw_okq (⟨"MatchTrees$Trees", "rowsOf", "(I)I"⟩, 15) := ⟨⟨by decide +kernel, by decide +kernel⟩, List.mem_of_getElem? (i := 423) (by decide +kernel), List.mem_of_getElem? (i := 992) (by decide +kernel), List.mem_of_getElem? (i := 993) (by decide +kernel)⟩
theorem lw_p35 : lw_okq (⟨"MatchTrees$Trees", "split", "(III)LMatchTrees$Groups;"⟩, 15) := ⟨⟨by decide +kernel, by decide +kernel⟩, List.mem_of_getElem? (i := 423) (by decide +kernel), List.mem_of_getElem? (i := 996) (by decide +kernel), List.mem_of_getElem? (i := 997) (by decide +kernel)⟩
theorem lw_p36 : lw_okq (⟨"MatchTrees$Trees", "openScope", "()V"⟩, 15) := ⟨⟨by decide +kernel, by decide +kernel⟩, List.mem_of_getElem? (i := 423) (by decide +kernel), List.mem_of_getElem? (i := 1040) (by decide +kernel), List.mem_of_getElem? (i := 1041) (by decide +kernel)⟩
theorem lw_p37 : lw_okq (⟨"MatchTrees$Trees", "shutScope", "(I)V"⟩, 15) := ⟨⟨by decide +kernel, by decide +kernel⟩, List.mem_of_getElem? (i := 423) (by decide +kernel), List.mem_of_getElem? (i := 1044) (by decide +kernel), List.mem_of_getElem? (i := 1045) (by decide +kernel)⟩
theorem lw_p38 : lw_okq (⟨"MatchTrees", "trialTakesAlike", "()Z"⟩, 15) := ⟨⟨by decide +kernel, by decide +kernel⟩, List.mem_of_getElem? (i := 21) (by decide +kernel), List.mem_of_getElem? (i := 1065) (by decide +kernel), List.mem_of_getElem? (i := 1066) (by decide +kernel)⟩
theorem lw_p39 : lw_okq (⟨"MatchTrees", "allTests", "(LMatchTrees$Order;)I"⟩, 15) := ⟨⟨by decide +kernel, by decide +kernel⟩, List.mem_of_getElem? (i := 21) (by decide +kernel), List.mem_of_getElem? (i := 1078) (by decide +kernel), List.mem_of_getElem? (i := 1079) (by decide +kernel)⟩
theorem lw_p40 : lw_okq (⟨"MatchTrees$Seen", "agrees", "(LMatchTrees$Table;LMatchTrees$Order;I)Z"⟩, 6) := ⟨⟨by decide +kernel, by decide +kernel⟩, List.mem_of_getElem? (i := 155) (by decide +kernel), List.mem_of_getElem? (i := 1105) (by decide +kernel), List.mem_of_getElem? (i := 1106) (by decide +kernel)⟩
theorem lw_p41 : lw_okq (⟨"MatchTrees", "remember", "()V"⟩, 15) := ⟨⟨by decide +kernel, by decide +kernel⟩, List.mem_of_getElem? (i := 21) (by decide +kernel), List.mem_of_getElem? (i := 1126) (by decide +kernel), List.mem_of_getElem? (i := 1127) (by decide +kernel)⟩
theorem lw_p42 : lw_okq (⟨"MatchTrees", "runRow", "(I)I"⟩, 15) := ⟨⟨by decide +kernel, by decide +kernel⟩, List.mem_of_getElem? (i := 21) (by decide +kernel), List.mem_of_getElem? (i := 1138) (by decide +kernel), List.mem_of_getElem? (i := 1139) (by decide +kernel)⟩
theorem lw_p43 : lw_okq (⟨"MatchTrees", "draw", "(I)I"⟩, 15) := ⟨⟨by decide +kernel, by decide +kernel⟩, List.mem_of_getElem? (i := 21) (by decide +kernel), List.mem_of_getElem? (i := 1155) (by decide +kernel), List.mem_of_getElem? (i := 1156) (by decide +kernel)⟩
theorem lw_p44 : lw_okq (⟨"MatchTrees", "isImage", "()Z"⟩, 15) := ⟨⟨by decide +kernel, by decide +kernel⟩, List.mem_of_getElem? (i := 21) (by decide +kernel), List.mem_of_getElem? (i := 1215) (by decide +kernel), List.mem_of_getElem? (i := 1216) (by decide +kernel)⟩
theorem lw_p45 : lw_okq (⟨"MatchTrees", "takeImage", "()V"⟩, 15) := ⟨⟨by decide +kernel, by decide +kernel⟩, List.mem_of_getElem? (i := 21) (by decide +kernel), List.mem_of_getElem? (i := 1219) (by decide +kernel), List.mem_of_getElem? (i := 1220) (by decide +kernel)⟩
theorem lw_p46 : lw_okq (⟨"MatchTreesModel", "begin", "()V"⟩, 98) := ⟨⟨by decide +kernel, by decide +kernel⟩, List.mem_of_getElem? (i := 1229) (by decide +kernel), List.mem_of_getElem? (i := 1236) (by decide +kernel), List.mem_of_getElem? (i := 1237) (by decide +kernel)⟩
theorem lw_p47 : lw_okq (⟨"MatchTreesModel", "refuses", "(I)I"⟩, 98) := ⟨⟨by decide +kernel, by decide +kernel⟩, List.mem_of_getElem? (i := 1229) (by decide +kernel), List.mem_of_getElem? (i := 1539) (by decide +kernel), List.mem_of_getElem? (i := 1540) (by decide +kernel)⟩
def lw_privs_3 : List (MethodName × Nat) := [(⟨"MatchTrees$Trees", "countBranches", "(II)I"⟩, 15), (⟨"MatchTrees$Trees", "mostArms", "(II)I"⟩, 15), (⟨"MatchTrees$Trees", "rowsOf", "(I)I"⟩, 15), (⟨"MatchTrees$Trees", "split", "(III)LMatchTrees$Groups;"⟩, 15), (⟨"MatchTrees$Trees", "openScope", "()V"⟩, 15), (⟨"MatchTrees$Trees", "shutScope", "(I)V"⟩, 15), (⟨"MatchTrees", "trialTakesAlike", "()Z"⟩, 15), (⟨"MatchTrees", "allTests", "(LMatchTrees$Order;)I"⟩, 15), (⟨"MatchTrees$Seen", "agrees", "(LMatchTrees$Table;LMatchTrees$Order;I)Z"⟩, 6), (⟨"MatchTrees", "remember", "()V"⟩, 15), (⟨"MatchTrees", "runRow", "(I)I"⟩, 15), (⟨"MatchTrees", "draw", "(I)I"⟩, 15), (⟨"MatchTrees", "isImage", "()Z"⟩, 15), (⟨"MatchTrees", "takeImage", "()V"⟩, 15), (⟨"MatchTreesModel", "begin", "()V"⟩, 98), (⟨"MatchTreesModel", "refuses", "(I)I"⟩, 98)]
theorem lw_r3 : ∀ q ∈ lw_privs_3, lw_okq q := List.forall_mem_cons.mpr ⟨lw_p32, List.forall_mem_cons.mpr ⟨lw_p33, List.forall_mem_cons.mpr ⟨lw_p34, List.forall_mem_cons.mpr ⟨lw_p35, List.forall_mem_cons.mpr ⟨lw_p36, List.forall_mem_cons.mpr ⟨lw_p37, List.forall_mem_cons.mpr ⟨lw_p38, List.forall_mem_cons.mpr ⟨lw_p39, List.forall_mem_cons.mpr ⟨lw_p40, List.forall_mem_cons.mpr ⟨lw_p41, List.forall_mem_cons.mpr ⟨lw_p42, List.forall_mem_cons.mpr ⟨lw_p43, List.forall_mem_cons.mpr ⟨lw_p44, List.forall_mem_cons.mpr ⟨lw_p45, List.forall_mem_cons.mpr ⟨lw_p46, List.forall_mem_cons.mpr ⟨lw_p47, fun _ h => absurd h List.not_mem_nil⟩⟩⟩⟩⟩⟩⟩⟩⟩⟩⟩⟩⟩⟩⟩⟩
theorem lw_p48 : lw_okq (⟨"MatchTreesModel", "put", "(I)V"⟩, 98) := ⟨⟨by decide +kernel, by decide +kernel⟩, List.mem_of_getElem? (i := 1229) (by decide +kernel), List.mem_of_getElem? (i := 1543) (by decide +kernel), List.mem_of_getElem? (i := 1544) (by decide +kernel)⟩
theorem lw_p49 : lw_okq (⟨"MatchTreesModel", "ahead", "()V"⟩, 98) := ⟨⟨by decide +kernel, by decide +kernel⟩, List.mem_of_getElem? (i := 1229) (by decide +kernel), List.mem_of_getElem? (i := 1555) (by decide +kernel), List.mem_of_getElem? (i := 1556) (by decide +kernel)⟩
theorem lw_p50 : lw_okq (⟨"MatchTreesModel", "statement", "()V"⟩, 98) := ⟨⟨by decide +kernel, by decide +kernel⟩, List.mem_of_getElem? (i := 1229) (by decide +kernel), List.mem_of_getElem? (i := 1565) (by decide +kernel), List.mem_of_getElem? (i := 1566) (by decide +kernel)⟩
theorem lw_p51 : lw_okq (⟨"MatchTreesModel", "lex", "()V"⟩, 98) := ⟨⟨by decide +kernel, by decide +kernel⟩, List.mem_of_getElem? (i := 1229) (by decide +kernel), List.mem_of_getElem? (i := 1569) (by decide +kernel), List.mem_of_getElem? (i := 1570) (by decide +kernel)⟩
theorem lw_p52 : lw_okq (⟨"MatchTreesModel", "blame", "(II)V"⟩, 98) := ⟨⟨by decide +kernel, by decide +kernel⟩, List.mem_of_getElem? (i := 1229) (by decide +kernel), List.mem_of_getElem? (i := 1573) (by decide +kernel), List.mem_of_getElem? (i := 1574) (by decide +kernel)⟩
theorem lw_p53 : lw_okq (⟨"MatchTreesModel", "isWord", "(J)Z"⟩, 98) := ⟨⟨by decide +kernel, by decide +kernel⟩, List.mem_of_getElem? (i := 1229) (by decide +kernel), List.mem_of_getElem? (i := 1578) (by decide +kernel), List.mem_of_getElem? (i := 1579) (by decide +kernel)⟩
theorem lw_p54 : lw_okq (⟨"MatchTreesModel", "kindIs", "()V"⟩, 98) := ⟨⟨by decide +kernel, by decide +kernel⟩, List.mem_of_getElem? (i := 1229) (by decide +kernel), List.mem_of_getElem? (i := 1582) (by decide +kernel), List.mem_of_getElem? (i := 1583) (by decide +kernel)⟩
theorem lw_p55 : lw_okq (⟨"MatchTreesModel", "isCounted", "(Z)Z"⟩, 98) := ⟨⟨by decide +kernel, by decide +kernel⟩, List.mem_of_getElem? (i := 1229) (by decide +kernel), List.mem_of_getElem? (i := 1586) (by decide +kernel), List.mem_of_getElem? (i := 1587) (by decide +kernel)⟩
theorem lw_p56 : lw_okq (⟨"MatchTreesModel", "fresh", "()J"⟩, 98) := ⟨⟨by decide +kernel, by decide +kernel⟩, List.mem_of_getElem? (i := 1229) (by decide +kernel), List.mem_of_getElem? (i := 1590) (by decide +kernel), List.mem_of_getElem? (i := 1591) (by decide +kernel)⟩
theorem lw_p57 : lw_okq (⟨"MatchTreesModel", "isOwn", "(J)Z"⟩, 98) := ⟨⟨by decide +kernel, by decide +kernel⟩, List.mem_of_getElem? (i := 1229) (by decide +kernel), List.mem_of_getElem? (i := 1594) (by decide +kernel), List.mem_of_getElem? (i := 1595) (by decide +kernel)⟩
theorem lw_p58 : lw_okq (⟨"MatchTreesModel", "kindNamed", "(J)I"⟩, 98) := ⟨⟨by decide +kernel, by decide +kernel⟩, List.mem_of_getElem? (i := 1229) (by decide +kernel), List.mem_of_getElem? (i := 1608) (by decide +kernel), List.mem_of_getElem? (i := 1609) (by decide +kernel)⟩
theorem lw_p59 : lw_okq (⟨"MatchTreesModel", "conNamed", "(IJ)I"⟩, 98) := ⟨⟨by decide +kernel, by decide +kernel⟩, List.mem_of_getElem? (i := 1229) (by decide +kernel), List.mem_of_getElem? (i := 1612) (by decide +kernel), List.mem_of_getElem? (i := 1613) (by decide +kernel)⟩
theorem lw_p60 : lw_okq (⟨"MatchTreesModel", "conIs", "()V"⟩, 98) := ⟨⟨by decide +kernel, by decide +kernel⟩, List.mem_of_getElem? (i := 1229) (by decide +kernel), List.mem_of_getElem? (i := 1616) (by decide +kernel), List.mem_of_getElem? (i := 1617) (by decide +kernel)⟩
theorem lw_p61 : lw_okq (⟨"MatchTreesModel", "isKindHere", "()Z"⟩, 98) := ⟨⟨by decide +kernel, by decide +kernel⟩, List.mem_of_getElem? (i := 1229) (by decide +kernel), List.mem_of_getElem? (i := 1620) (by decide +kernel), List.mem_of_getElem? (i := 1621) (by decide +kernel)⟩
theorem lw_p62 : lw_okq (⟨"MatchTreesModel", "known", "(I)I"⟩, 98) := ⟨⟨by decide +kernel, by decide +kernel⟩, List.mem_of_getElem? (i := 1229) (by decide +kernel), List.mem_of_getElem? (i := 1624) (by decide +kernel), List.mem_of_getElem? (i := 1625) (by decide +kernel)⟩
theorem lw_p63 : lw_okq (⟨"MatchTreesModel", "valuesOf", "(II)I"⟩, 98) := ⟨⟨by decide +kernel, by decide +kernel⟩, List.mem_of_getElem? (i := 1229) (by decide +kernel), List.mem_of_getElem? (i := 1628) (by decide +kernel), List.mem_of_getElem? (i := 1629) (by decide +kernel)⟩
def lw_privs_4 : List (MethodName × Nat) := [(⟨"MatchTreesModel", "put", "(I)V"⟩, 98), (⟨"MatchTreesModel", "ahead", "()V"⟩, 98), (⟨"MatchTreesModel", "statement", "()V"⟩, 98), (⟨"MatchTreesModel", "lex", "()V"⟩, 98), (⟨"MatchTreesModel", "blame", "(II)V"⟩, 98), (⟨"MatchTreesModel", "isWord", "(J)Z"⟩, 98), (⟨"MatchTreesModel", "kindIs", "()V"⟩, 98), (⟨"MatchTreesModel", "isCounted", "(Z)Z"⟩, 98), (⟨"MatchTreesModel", "fresh", "()J"⟩, 98), (⟨"MatchTreesModel", "isOwn", "(J)Z"⟩, 98), (⟨"MatchTreesModel", "kindNamed", "(J)I"⟩, 98), (⟨"MatchTreesModel", "conNamed", "(IJ)I"⟩, 98), (⟨"MatchTreesModel", "conIs", "()V"⟩, 98), (⟨"MatchTreesModel", "isKindHere", "()Z"⟩, 98), (⟨"MatchTreesModel", "known", "(I)I"⟩, 98), (⟨"MatchTreesModel", "valuesOf", "(II)I"⟩, 98)]
theorem lw_r4 : ∀ q ∈ lw_privs_4, lw_okq q := List.forall_mem_cons.mpr ⟨lw_p48, List.forall_mem_cons.mpr ⟨lw_p49, List.forall_mem_cons.mpr ⟨lw_p50, List.forall_mem_cons.mpr ⟨lw_p51, List.forall_mem_cons.mpr ⟨lw_p52, List.forall_mem_cons.mpr ⟨lw_p53, List.forall_mem_cons.mpr ⟨lw_p54, List.forall_mem_cons.mpr ⟨lw_p55, List.forall_mem_cons.mpr ⟨lw_p56, List.forall_mem_cons.mpr ⟨lw_p57, List.forall_mem_cons.mpr ⟨lw_p58, List.forall_mem_cons.mpr ⟨lw_p59, List.forall_mem_cons.mpr ⟨lw_p60, List.forall_mem_cons.mpr ⟨lw_p61, List.forall_mem_cons.mpr ⟨lw_p62, List.forall_mem_cons.mpr ⟨lw_p63, fun _ h => absurd h List.not_mem_nil⟩⟩⟩⟩⟩⟩⟩⟩⟩⟩⟩⟩⟩⟩⟩⟩
theorem lw_p64 : lw_okq (⟨"MatchTreesModel", "matchIs", "()V"⟩, 98) := ⟨⟨by decide +kernel, by decide +kernel⟩, List.mem_of_getElem? (i := 1229) (by decide +kernel), List.mem_of_getElem? (i := 1632) (by decide +kernel), List.mem_of_getElem? (i := 1633) (by decide +kernel)⟩
theorem lw_p65 : lw_okq (⟨"MatchTreesModel", "armIs", "()V"⟩, 98) := ⟨⟨by decide +kernel, by decide +kernel⟩, List.mem_of_getElem? (i := 1229) (by decide +kernel), List.mem_of_getElem? (i := 1636) (by decide +kernel), List.mem_of_getElem? (i := 1637) (by decide +kernel)⟩
theorem lw_p66 : lw_okq (⟨"MatchTreesModel", "must", "(I)V"⟩, 98) := ⟨⟨by decide +kernel, by decide +kernel⟩, List.mem_of_getElem? (i := 1229) (by decide +kernel), List.mem_of_getElem? (i := 1640) (by decide +kernel), List.mem_of_getElem? (i := 1641) (by decide +kernel)⟩
theorem lw_p67 : lw_okq (⟨"MatchTreesModel", "isSign", "(I)Z"⟩, 98) := ⟨⟨by decide +kernel, by decide +kernel⟩, List.mem_of_getElem? (i := 1229) (by decide +kernel), List.mem_of_getElem? (i := 1644) (by decide +kernel), List.mem_of_getElem? (i := 1645) (by decide +kernel)⟩
theorem lw_p68 : lw_okq (⟨"MatchTreesModel", "pattern", "(I)V"⟩, 98) := ⟨⟨by decide +kernel, by decide +kernel⟩, List.mem_of_getElem? (i := 1229) (by decide +kernel), List.mem_of_getElem? (i := 1648) (by decide +kernel), List.mem_of_getElem? (i := 1649) (by decide +kernel)⟩
theorem lw_p69 : lw_okq (⟨"MatchTreesModel", "opensPattern", "(I)V"⟩, 98) := ⟨⟨by decide +kernel, by decide +kernel⟩, List.mem_of_getElem? (i := 1229) (by decide +kernel), List.mem_of_getElem? (i := 1652) (by decide +kernel), List.mem_of_getElem? (i := 1653) (by decide +kernel)⟩
theorem lw_p70 : lw_okq (⟨"MatchTreesModel", "alternative", "()Z"⟩, 98) := ⟨⟨by decide +kernel, by decide +kernel⟩, List.mem_of_getElem? (i := 1229) (by decide +kernel), List.mem_of_getElem? (i := 1656) (by decide +kernel), List.mem_of_getElem? (i := 1657) (by decide +kernel)⟩
theorem lw_p71 : lw_okq (⟨"MatchTreesModel", "emits", "(III)V"⟩, 98) := ⟨⟨by decide +kernel, by decide +kernel⟩, List.mem_of_getElem? (i := 1229) (by decide +kernel), List.mem_of_getElem? (i := 1660) (by decide +kernel), List.mem_of_getElem? (i := 1661) (by decide +kernel)⟩
theorem lw_p72 : lw_okq (⟨"MatchTreesModel", "range", "()V"⟩, 98) := ⟨⟨by decide +kernel, by decide +kernel⟩, List.mem_of_getElem? (i := 1229) (by decide +kernel), List.mem_of_getElem? (i := 1664) (by decide +kernel), List.mem_of_getElem? (i := 1665) (by decide +kernel)⟩
theorem lw_p73 : lw_okq (⟨"MatchTreesModel", "number", "(II)I"⟩, 98) := ⟨⟨by decide +kernel, by decide +kernel⟩, List.mem_of_getElem? (i := 1229) (by decide +kernel), List.mem_of_getElem? (i := 1668) (by decide +kernel), List.mem_of_getElem? (i := 1669) (by decide +kernel)⟩
theorem lw_p74 : lw_okq (⟨"MatchTreesModel", "fieldBegins", "(II)V"⟩, 98) := ⟨⟨by decide +kernel, by decide +kernel⟩, List.mem_of_getElem? (i := 1229) (by decide +kernel), List.mem_of_getElem? (i := 1675) (by decide +kernel), List.mem_of_getElem? (i := 1676) (by decide +kernel)⟩
theorem lw_p75 : lw_okq (⟨"MatchTreesModel", "goesOn", "(I)Z"⟩, 98) := ⟨⟨by decide +kernel, by decide +kernel⟩, List.mem_of_getElem? (i := 1229) (by decide +kernel), List.mem_of_getElem? (i := 1679) (by decide +kernel), List.mem_of_getElem? (i := 1680) (by decide +kernel)⟩
theorem lw_p76 : lw_okq (⟨"MatchTreesModel", "ruleIs", "()V"⟩, 98) := ⟨⟨by decide +kernel, by decide +kernel⟩, List.mem_of_getElem? (i := 1229) (by decide +kernel), List.mem_of_getElem? (i := 1683) (by decide +kernel), List.mem_of_getElem? (i := 1684) (by decide +kernel)⟩
theorem lw_p77 : lw_okq (⟨"MatchTreesModel", "budgetIs", "()V"⟩, 98) := ⟨⟨by decide +kernel, by decide +kernel⟩, List.mem_of_getElem? (i := 1229) (by decide +kernel), List.mem_of_getElem? (i := 1687) (by decide +kernel), List.mem_of_getElem? (i := 1688) (by decide +kernel)⟩
theorem lw_p78 : lw_okq (⟨"MatchTreesModel", "finishes", "(I)V"⟩, 98) := ⟨⟨by decide +kernel, by decide +kernel⟩, List.mem_of_getElem? (i := 1229) (by decide +kernel), List.mem_of_getElem? (i := 1691) (by decide +kernel), List.mem_of_getElem? (i := 1692) (by decide +kernel)⟩
theorem lw_p79 : lw_okq (⟨"MatchTreesModel", "lays", "()V"⟩, 98) := ⟨⟨by decide +kernel, by decide +kernel⟩, List.mem_of_getElem? (i := 1229) (by decide +kernel), List.mem_of_getElem? (i := 1695) (by decide +kernel), List.mem_of_getElem? (i := 1696) (by decide +kernel)⟩
def lw_privs_5 : List (MethodName × Nat) := [(⟨"MatchTreesModel", "matchIs", "()V"⟩, 98), (⟨"MatchTreesModel", "armIs", "()V"⟩, 98), (⟨"MatchTreesModel", "must", "(I)V"⟩, 98), (⟨"MatchTreesModel", "isSign", "(I)Z"⟩, 98), (⟨"MatchTreesModel", "pattern", "(I)V"⟩, 98), (⟨"MatchTreesModel", "opensPattern", "(I)V"⟩, 98), (⟨"MatchTreesModel", "alternative", "()Z"⟩, 98), (⟨"MatchTreesModel", "emits", "(III)V"⟩, 98), (⟨"MatchTreesModel", "range", "()V"⟩, 98), (⟨"MatchTreesModel", "number", "(II)I"⟩, 98), (⟨"MatchTreesModel", "fieldBegins", "(II)V"⟩, 98), (⟨"MatchTreesModel", "goesOn", "(I)Z"⟩, 98), (⟨"MatchTreesModel", "ruleIs", "()V"⟩, 98), (⟨"MatchTreesModel", "budgetIs", "()V"⟩, 98), (⟨"MatchTreesModel", "finishes", "(I)V"⟩, 98), (⟨"MatchTreesModel", "lays", "()V"⟩, 98)]
theorem lw_r5 : ∀ q ∈ lw_privs_5, lw_okq q := List.forall_mem_cons.mpr ⟨lw_p64, List.forall_mem_cons.mpr ⟨lw_p65, List.forall_mem_cons.mpr ⟨lw_p66, List.forall_mem_cons.mpr ⟨lw_p67, List.forall_mem_cons.mpr ⟨lw_p68, List.forall_mem_cons.mpr ⟨lw_p69, List.forall_mem_cons.mpr ⟨lw_p70, List.forall_mem_cons.mpr ⟨lw_p71, List.forall_mem_cons.mpr ⟨lw_p72, List.forall_mem_cons.mpr ⟨lw_p73, List.forall_mem_cons.mpr ⟨lw_p74, List.forall_mem_cons.mpr ⟨lw_p75, List.forall_mem_cons.mpr ⟨lw_p76, List.forall_mem_cons.mpr ⟨lw_p77, List.forall_mem_cons.mpr ⟨lw_p78, List.forall_mem_cons.mpr ⟨lw_p79, fun _ h => absurd h List.not_mem_nil⟩⟩⟩⟩⟩⟩⟩⟩⟩⟩⟩⟩⟩⟩⟩⟩
theorem lw_p80 : lw_okq (⟨"MatchTreesModel", "columns", "()I"⟩, 98) := ⟨⟨by decide +kernel, by decide +kernel⟩, List.mem_of_getElem? (i := 1229) (by decide +kernel), List.mem_of_getElem? (i := 1699) (by decide +kernel), List.mem_of_getElem? (i := 1700) (by decide +kernel)⟩
theorem lw_p81 : lw_okq (⟨"MatchTreesModel", "columnValues", "(I)I"⟩, 98) := ⟨⟨by decide +kernel, by decide +kernel⟩, List.mem_of_getElem? (i := 1229) (by decide +kernel), List.mem_of_getElem? (i := 1703) (by decide +kernel), List.mem_of_getElem? (i := 1704) (by decide +kernel)⟩
theorem lw_p82 : lw_okq (⟨"MatchTreesModel", "isFitting", "(III)Z"⟩, 98) := ⟨⟨by decide +kernel, by decide +kernel⟩, List.mem_of_getElem? (i := 1229) (by decide +kernel), List.mem_of_getElem? (i := 1707) (by decide +kernel), List.mem_of_getElem? (i := 1708) (by decide +kernel)⟩
theorem lw_p83 : lw_okq (⟨"MatchTreesModel", "fieldOf", "(III)I"⟩, 98) := ⟨⟨by decide +kernel, by decide +kernel⟩, List.mem_of_getElem? (i := 1229) (by decide +kernel), List.mem_of_getElem? (i := 1711) (by decide +kernel), List.mem_of_getElem? (i := 1712) (by decide +kernel)⟩
theorem lw_p84 : lw_okq (⟨"MatchTreesModel", "slot", "(I)I"⟩, 98) := ⟨⟨by decide +kernel, by decide +kernel⟩, List.mem_of_getElem? (i := 1229) (by decide +kernel), List.mem_of_getElem? (i := 1727) (by decide +kernel), List.mem_of_getElem? (i := 1728) (by decide +kernel)⟩
theorem lw_p85 : lw_okq (⟨"MatchTreesModel", "copies", "(II)V"⟩, 98) := ⟨⟨by decide +kernel, by decide +kernel⟩, List.mem_of_getElem? (i := 1229) (by decide +kernel), List.mem_of_getElem? (i := 1731) (by decide +kernel), List.mem_of_getElem? (i := 1732) (by decide +kernel)⟩
theorem lw_p86 : lw_okq (⟨"MatchTreesModel", "isPlace", "(I)Z"⟩, 98) := ⟨⟨by decide +kernel, by decide +kernel⟩, List.mem_of_getElem? (i := 1229) (by decide +kernel), List.mem_of_getElem? (i := 1755) (by decide +kernel), List.mem_of_getElem? (i := 1756) (by decide +kernel)⟩
theorem lw_p87 : lw_okq (⟨"MatchTreesModel", "arranges", "(I)V"⟩, 98) := ⟨⟨by decide +kernel, by decide +kernel⟩, List.mem_of_getElem? (i := 1229) (by decide +kernel), List.mem_of_getElem? (i := 1759) (by decide +kernel), List.mem_of_getElem? (i := 1760) (by decide +kernel)⟩
theorem lw_p88 : lw_okq (⟨"MatchTreesModel", "placed", "(II)I"⟩, 98) := ⟨⟨by decide +kernel, by decide +kernel⟩, List.mem_of_getElem? (i := 1229) (by decide +kernel), List.mem_of_getElem? (i := 1763) (by decide +kernel), List.mem_of_getElem? (i := 1764) (by decide +kernel)⟩
theorem lw_p89 : lw_okq (⟨"MatchTreesModel", "countsRows", "()V"⟩, 98) := ⟨⟨by decide +kernel, by decide +kernel⟩, List.mem_of_getElem? (i := 1229) (by decide +kernel), List.mem_of_getElem? (i := 1767) (by decide +kernel), List.mem_of_getElem? (i := 1768) (by decide +kernel)⟩
theorem lw_p90 : lw_okq (⟨"MatchTreesModel", "fitting", "(I)I"⟩, 98) := ⟨⟨by decide +kernel, by decide +kernel⟩, List.mem_of_getElem? (i := 1229) (by decide +kernel), List.mem_of_getElem? (i := 1771) (by decide +kernel), List.mem_of_getElem? (i := 1772) (by decide +kernel)⟩
theorem lw_p91 : lw_okq (⟨"MatchTreesModel", "valuesIn", "(I)V"⟩, 98) := ⟨⟨by decide +kernel, by decide +kernel⟩, List.mem_of_getElem? (i := 1229) (by decide +kernel), List.mem_of_getElem? (i := 1775) (by decide +kernel), List.mem_of_getElem? (i := 1776) (by decide +kernel)⟩
theorem lw_p92 : lw_okq (⟨"MatchTreesModel", "setIn", "(II)I"⟩, 98) := ⟨⟨by decide +kernel, by decide +kernel⟩, List.mem_of_getElem? (i := 1229) (by decide +kernel), List.mem_of_getElem? (i := 1779) (by decide +kernel), List.mem_of_getElem? (i := 1780) (by decide +kernel)⟩
theorem lw_p93 : lw_okq (⟨"MatchTreesModel", "isUseful", "(I)I"⟩, 98) := ⟨⟨by decide +kernel, by decide +kernel⟩, List.mem_of_getElem? (i := 1229) (by decide +kernel), List.mem_of_getElem? (i := 1783) (by decide +kernel), List.mem_of_getElem? (i := 1784) (by decide +kernel)⟩
theorem lw_p94 : lw_okq (⟨"MatchTreesModel", "fittingRows", "(I)I"⟩, 98) := ⟨⟨by decide +kernel, by decide +kernel⟩, List.mem_of_getElem? (i := 1229) (by decide +kernel), List.mem_of_getElem? (i := 1787) (by decide +kernel), List.mem_of_getElem? (i := 1788) (by decide +kernel)⟩
theorem lw_p95 : lw_okq (⟨"MatchTreesModel", "takenRows", "(I)I"⟩, 98) := ⟨⟨by decide +kernel, by decide +kernel⟩, List.mem_of_getElem? (i := 1229) (by decide +kernel), List.mem_of_getElem? (i := 1791) (by decide +kernel), List.mem_of_getElem? (i := 1792) (by decide +kernel)⟩
def lw_privs_6 : List (MethodName × Nat) := [(⟨"MatchTreesModel", "columns", "()I"⟩, 98), (⟨"MatchTreesModel", "columnValues", "(I)I"⟩, 98), (⟨"MatchTreesModel", "isFitting", "(III)Z"⟩, 98), (⟨"MatchTreesModel", "fieldOf", "(III)I"⟩, 98), (⟨"MatchTreesModel", "slot", "(I)I"⟩, 98), (⟨"MatchTreesModel", "copies", "(II)V"⟩, 98), (⟨"MatchTreesModel", "isPlace", "(I)Z"⟩, 98), (⟨"MatchTreesModel", "arranges", "(I)V"⟩, 98), (⟨"MatchTreesModel", "placed", "(II)I"⟩, 98), (⟨"MatchTreesModel", "countsRows", "()V"⟩, 98), (⟨"MatchTreesModel", "fitting", "(I)I"⟩, 98), (⟨"MatchTreesModel", "valuesIn", "(I)V"⟩, 98), (⟨"MatchTreesModel", "setIn", "(II)I"⟩, 98), (⟨"MatchTreesModel", "isUseful", "(I)I"⟩, 98), (⟨"MatchTreesModel", "fittingRows", "(I)I"⟩, 98), (⟨"MatchTreesModel", "takenRows", "(I)I"⟩, 98)]
theorem lw_r6 : ∀ q ∈ lw_privs_6, lw_okq q := List.forall_mem_cons.mpr ⟨lw_p80, List.forall_mem_cons.mpr ⟨lw_p81, List.forall_mem_cons.mpr ⟨lw_p82, List.forall_mem_cons.mpr ⟨lw_p83, List.forall_mem_cons.mpr ⟨lw_p84, List.forall_mem_cons.mpr ⟨lw_p85, List.forall_mem_cons.mpr ⟨lw_p86, List.forall_mem_cons.mpr ⟨lw_p87, List.forall_mem_cons.mpr ⟨lw_p88, List.forall_mem_cons.mpr ⟨lw_p89, List.forall_mem_cons.mpr ⟨lw_p90, List.forall_mem_cons.mpr ⟨lw_p91, List.forall_mem_cons.mpr ⟨lw_p92, List.forall_mem_cons.mpr ⟨lw_p93, List.forall_mem_cons.mpr ⟨lw_p94, List.forall_mem_cons.mpr ⟨lw_p95, fun _ h => absurd h List.not_mem_nil⟩⟩⟩⟩⟩⟩⟩⟩⟩⟩⟩⟩⟩⟩⟩⟩
theorem lw_p96 : lw_okq (⟨"MatchTreesModel", "openBy", "(I)I"⟩, 98) := ⟨⟨by decide +kernel, by decide +kernel⟩, List.mem_of_getElem? (i := 1229) (by decide +kernel), List.mem_of_getElem? (i := 1795) (by decide +kernel), List.mem_of_getElem? (i := 1796) (by decide +kernel)⟩
theorem lw_p97 : lw_okq (⟨"MatchTreesModel", "isRow", "(I)Z"⟩, 98) := ⟨⟨by decide +kernel, by decide +kernel⟩, List.mem_of_getElem? (i := 1229) (by decide +kernel), List.mem_of_getElem? (i := 1818) (by decide +kernel), List.mem_of_getElem? (i := 1819) (by decide +kernel)⟩
theorem lw_p98 : lw_okq (⟨"MatchTreesModel", "valueRead", "(I)I"⟩, 98) := ⟨⟨by decide +kernel, by decide +kernel⟩, List.mem_of_getElem? (i := 1229) (by decide +kernel), List.mem_of_getElem? (i := 1826) (by decide +kernel), List.mem_of_getElem? (i := 1827) (by decide +kernel)⟩
theorem lw_p99 : lw_okq (⟨"MatchTreesModel", "isMoreOf", "(I)Z"⟩, 98) := ⟨⟨by decide +kernel, by decide +kernel⟩, List.mem_of_getElem? (i := 1229) (by decide +kernel), List.mem_of_getElem? (i := 1830) (by decide +kernel), List.mem_of_getElem? (i := 1831) (by decide +kernel)⟩
theorem lw_p100 : lw_okq (⟨"MatchTreesModel", "conRead", "(I)I"⟩, 98) := ⟨⟨by decide +kernel, by decide +kernel⟩, List.mem_of_getElem? (i := 1229) (by decide +kernel), List.mem_of_getElem? (i := 1834) (by decide +kernel), List.mem_of_getElem? (i := 1835) (by decide +kernel)⟩
theorem lw_p101 : lw_okq (⟨"MatchTreesModel", "later", "(II)V"⟩, 98) := ⟨⟨by decide +kernel, by decide +kernel⟩, List.mem_of_getElem? (i := 1229) (by decide +kernel), List.mem_of_getElem? (i := 1842) (by decide +kernel), List.mem_of_getElem? (i := 1843) (by decide +kernel)⟩
theorem lw_p102 : lw_okq (⟨"MatchTreesModel", "writes", "(I)V"⟩, 98) := ⟨⟨by decide +kernel, by decide +kernel⟩, List.mem_of_getElem? (i := 1229) (by decide +kernel), List.mem_of_getElem? (i := 1846) (by decide +kernel), List.mem_of_getElem? (i := 1847) (by decide +kernel)⟩
theorem lw_p103 : lw_okq (⟨"MatchTreesModel", "writesValue", "(II)V"⟩, 98) := ⟨⟨by decide +kernel, by decide +kernel⟩, List.mem_of_getElem? (i := 1229) (by decide +kernel), List.mem_of_getElem? (i := 1850) (by decide +kernel), List.mem_of_getElem? (i := 1851) (by decide +kernel)⟩
theorem lw_p104 : lw_okq (⟨"MatchTreesModel", "conOf", "(II)I"⟩, 98) := ⟨⟨by decide +kernel, by decide +kernel⟩, List.mem_of_getElem? (i := 1229) (by decide +kernel), List.mem_of_getElem? (i := 1854) (by decide +kernel), List.mem_of_getElem? (i := 1855) (by decide +kernel)⟩
theorem lw_p105 : lw_okq (⟨"MatchTreesModel", "writesName", "(J)V"⟩, 98) := ⟨⟨by decide +kernel, by decide +kernel⟩, List.mem_of_getElem? (i := 1229) (by decide +kernel), List.mem_of_getElem? (i := 1858) (by decide +kernel), List.mem_of_getElem? (i := 1859) (by decide +kernel)⟩
theorem lw_p106 : lw_okq (⟨"MatchTreesModel", "plants", "(II)V"⟩, 98) := ⟨⟨by decide +kernel, by decide +kernel⟩, List.mem_of_getElem? (i := 1229) (by decide +kernel), List.mem_of_getElem? (i := 1870) (by decide +kernel), List.mem_of_getElem? (i := 1871) (by decide +kernel)⟩
theorem lw_p107 : lw_okq (⟨"MatchTreesModel", "allTests", "(I)I"⟩, 98) := ⟨⟨by decide +kernel, by decide +kernel⟩, List.mem_of_getElem? (i := 1229) (by decide +kernel), List.mem_of_getElem? (i := 1874) (by decide +kernel), List.mem_of_getElem? (i := 1875) (by decide +kernel)⟩
theorem lw_p108 : lw_okq (⟨"MatchTreesModel", "testsFor", "(II)I"⟩, 98) := ⟨⟨by decide +kernel, by decide +kernel⟩, List.mem_of_getElem? (i := 1229) (by decide +kernel), List.mem_of_getElem? (i := 1878) (by decide +kernel), List.mem_of_getElem? (i := 1879) (by decide +kernel)⟩
theorem lw_p109 : lw_okq (⟨"MatchTreesModel", "root", "()I"⟩, 98) := ⟨⟨by decide +kernel, by decide +kernel⟩, List.mem_of_getElem? (i := 1229) (by decide +kernel), List.mem_of_getElem? (i := 1882) (by decide +kernel), List.mem_of_getElem? (i := 1883) (by decide +kernel)⟩
theorem lw_p110 : lw_okq (⟨"MatchTreesModel", "asksFor", "(I)I"⟩, 98) := ⟨⟨by decide +kernel, by decide +kernel⟩, List.mem_of_getElem? (i := 1229) (by decide +kernel), List.mem_of_getElem? (i := 1892) (by decide +kernel), List.mem_of_getElem? (i := 1893) (by decide +kernel)⟩
theorem lw_p111 : lw_okq (⟨"MatchTreesModel", "worthOf", "(II)I"⟩, 98) := ⟨⟨by decide +kernel, by decide +kernel⟩, List.mem_of_getElem? (i := 1229) (by decide +kernel), List.mem_of_getElem? (i := 1899) (by decide +kernel), List.mem_of_getElem? (i := 1900) (by decide +kernel)⟩
def lw_privs_7 : List (MethodName × Nat) := [(⟨"MatchTreesModel", "openBy", "(I)I"⟩, 98), (⟨"MatchTreesModel", "isRow", "(I)Z"⟩, 98), (⟨"MatchTreesModel", "valueRead", "(I)I"⟩, 98), (⟨"MatchTreesModel", "isMoreOf", "(I)Z"⟩, 98), (⟨"MatchTreesModel", "conRead", "(I)I"⟩, 98), (⟨"MatchTreesModel", "later", "(II)V"⟩, 98), (⟨"MatchTreesModel", "writes", "(I)V"⟩, 98), (⟨"MatchTreesModel", "writesValue", "(II)V"⟩, 98), (⟨"MatchTreesModel", "conOf", "(II)I"⟩, 98), (⟨"MatchTreesModel", "writesName", "(J)V"⟩, 98), (⟨"MatchTreesModel", "plants", "(II)V"⟩, 98), (⟨"MatchTreesModel", "allTests", "(I)I"⟩, 98), (⟨"MatchTreesModel", "testsFor", "(II)I"⟩, 98), (⟨"MatchTreesModel", "root", "()I"⟩, 98), (⟨"MatchTreesModel", "asksFor", "(I)I"⟩, 98), (⟨"MatchTreesModel", "worthOf", "(II)I"⟩, 98)]
theorem lw_r7 : ∀ q ∈ lw_privs_7, lw_okq q := List.forall_mem_cons.mpr ⟨lw_p96, List.forall_mem_cons.mpr ⟨lw_p97, List.forall_mem_cons.mpr ⟨lw_p98, List.forall_mem_cons.mpr ⟨lw_p99, List.forall_mem_cons.mpr ⟨lw_p100, List.forall_mem_cons.mpr ⟨lw_p101, List.forall_mem_cons.mpr ⟨lw_p102, List.forall_mem_cons.mpr ⟨lw_p103, List.forall_mem_cons.mpr ⟨lw_p104, List.forall_mem_cons.mpr ⟨lw_p105, List.forall_mem_cons.mpr ⟨lw_p106, List.forall_mem_cons.mpr ⟨lw_p107, List.forall_mem_cons.mpr ⟨lw_p108, List.forall_mem_cons.mpr ⟨lw_p109, List.forall_mem_cons.mpr ⟨lw_p110, List.forall_mem_cons.mpr ⟨lw_p111, fun _ h => absurd h List.not_mem_nil⟩⟩⟩⟩⟩⟩⟩⟩⟩⟩⟩⟩⟩⟩⟩⟩
theorem lw_p112 : lw_okq (⟨"MatchTreesModel", "branchOf", "(III)I"⟩, 98) := ⟨⟨by decide +kernel, by decide +kernel⟩, List.mem_of_getElem? (i := 1229) (by decide +kernel), List.mem_of_getElem? (i := 1909) (by decide +kernel), List.mem_of_getElem? (i := 1910) (by decide +kernel)⟩
theorem lw_p113 : lw_okq (⟨"MatchTreesModel", "grows", "()V"⟩, 98) := ⟨⟨by decide +kernel, by decide +kernel⟩, List.mem_of_getElem? (i := 1229) (by decide +kernel), List.mem_of_getElem? (i := 1913) (by decide +kernel), List.mem_of_getElem? (i := 1914) (by decide +kernel)⟩
theorem lw_p114 : lw_okq (⟨"MatchTreesModel", "reaches", "(I)V"⟩, 98) := ⟨⟨by decide +kernel, by decide +kernel⟩, List.mem_of_getElem? (i := 1229) (by decide +kernel), List.mem_of_getElem? (i := 1917) (by decide +kernel), List.mem_of_getElem? (i := 1918) (by decide +kernel)⟩
theorem lw_p115 : lw_okq (⟨"MatchTreesModel", "isDoor", "(I)Z"⟩, 98) := ⟨⟨by decide +kernel, by decide +kernel⟩, List.mem_of_getElem? (i := 1229) (by decide +kernel), List.mem_of_getElem? (i := 1921) (by decide +kernel), List.mem_of_getElem? (i := 1922) (by decide +kernel)⟩
theorem lw_p116 : lw_okq (⟨"MatchTreesModel", "weighs", "(I)V"⟩, 98) := ⟨⟨by decide +kernel, by decide +kernel⟩, List.mem_of_getElem? (i := 1229) (by decide +kernel), List.mem_of_getElem? (i := 1928) (by decide +kernel), List.mem_of_getElem? (i := 1929) (by decide +kernel)⟩
theorem lw_p117 : lw_okq (⟨"MatchTreesModel", "builds", "()V"⟩, 98) := ⟨⟨by decide +kernel, by decide +kernel⟩, List.mem_of_getElem? (i := 1229) (by decide +kernel), List.mem_of_getElem? (i := 1941) (by decide +kernel), List.mem_of_getElem? (i := 1942) (by decide +kernel)⟩
theorem lw_p118 : lw_okq (⟨"MatchTreesModel", "opensScope", "(II)V"⟩, 98) := ⟨⟨by decide +kernel, by decide +kernel⟩, List.mem_of_getElem? (i := 1229) (by decide +kernel), List.mem_of_getElem? (i := 1945) (by decide +kernel), List.mem_of_getElem? (i := 1946) (by decide +kernel)⟩
theorem lw_p119 : lw_okq (⟨"MatchTreesModel", "nextBranch", "(I)I"⟩, 98) := ⟨⟨by decide +kernel, by decide +kernel⟩, List.mem_of_getElem? (i := 1229) (by decide +kernel), List.mem_of_getElem? (i := 1949) (by decide +kernel), List.mem_of_getElem? (i := 1950) (by decide +kernel)⟩
theorem lw_p120 : lw_okq (⟨"MatchTreesModel", "isNewSet", "(III)Z"⟩, 98) := ⟨⟨by decide +kernel, by decide +kernel⟩, List.mem_of_getElem? (i := 1229) (by decide +kernel), List.mem_of_getElem? (i := 1953) (by decide +kernel), List.mem_of_getElem? (i := 1954) (by decide +kernel)⟩
theorem lw_p121 : lw_okq (⟨"MatchTreesModel", "isSafe", "(II)Z"⟩, 98) := ⟨⟨by decide +kernel, by decide +kernel⟩, List.mem_of_getElem? (i := 1229) (by decide +kernel), List.mem_of_getElem? (i := 1961) (by decide +kernel), List.mem_of_getElem? (i := 1962) (by decide +kernel)⟩
theorem lw_p122 : lw_okq (⟨"MatchTreesModel", "exchanges", "(III)V"⟩, 98) := ⟨⟨by decide +kernel, by decide +kernel⟩, List.mem_of_getElem? (i := 1229) (by decide +kernel), List.mem_of_getElem? (i := 1975) (by decide +kernel), List.mem_of_getElem? (i := 1976) (by decide +kernel)⟩
theorem lw_p123 : lw_okq (⟨"MatchTreesModel", "leaves", "()I"⟩, 98) := ⟨⟨by decide +kernel, by decide +kernel⟩, List.mem_of_getElem? (i := 1229) (by decide +kernel), List.mem_of_getElem? (i := 1987) (by decide +kernel), List.mem_of_getElem? (i := 1988) (by decide +kernel)⟩
theorem lw_p124 : lw_okq (⟨"MatchTreesModel", "mostBy", "(I)I"⟩, 98) := ⟨⟨by decide +kernel, by decide +kernel⟩, List.mem_of_getElem? (i := 1229) (by decide +kernel), List.mem_of_getElem? (i := 1996) (by decide +kernel), List.mem_of_getElem? (i := 1997) (by decide +kernel)⟩
theorem lw_p125 : lw_okq (⟨"MatchTreesModel", "keeps", "()V"⟩, 98) := ⟨⟨by decide +kernel, by decide +kernel⟩, List.mem_of_getElem? (i := 1229) (by decide +kernel), List.mem_of_getElem? (i := 2004) (by decide +kernel), List.mem_of_getElem? (i := 2005) (by decide +kernel)⟩
theorem lw_p126 : lw_okq (⟨"MatchTreesModel", "runs", "(I)I"⟩, 98) := ⟨⟨by decide +kernel, by decide +kernel⟩, List.mem_of_getElem? (i := 1229) (by decide +kernel), List.mem_of_getElem? (i := 2008) (by decide +kernel), List.mem_of_getElem? (i := 2009) (by decide +kernel)⟩
theorem lw_p127 : lw_okq (⟨"MatchTreesModel", "draw", "(I)I"⟩, 98) := ⟨⟨by decide +kernel, by decide +kernel⟩, List.mem_of_getElem? (i := 1229) (by decide +kernel), List.mem_of_getElem? (i := 2016) (by decide +kernel), List.mem_of_getElem? (i := 2017) (by decide +kernel)⟩
def lw_privs_8 : List (MethodName × Nat) := [(⟨"MatchTreesModel", "branchOf", "(III)I"⟩, 98), (⟨"MatchTreesModel", "grows", "()V"⟩, 98), (⟨"MatchTreesModel", "reaches", "(I)V"⟩, 98), (⟨"MatchTreesModel", "isDoor", "(I)Z"⟩, 98), (⟨"MatchTreesModel", "weighs", "(I)V"⟩, 98), (⟨"MatchTreesModel", "builds", "()V"⟩, 98), (⟨"MatchTreesModel", "opensScope", "(II)V"⟩, 98), (⟨"MatchTreesModel", "nextBranch", "(I)I"⟩, 98), (⟨"MatchTreesModel", "isNewSet", "(III)Z"⟩, 98), (⟨"MatchTreesModel", "isSafe", "(II)Z"⟩, 98), (⟨"MatchTreesModel", "exchanges", "(III)V"⟩, 98), (⟨"MatchTreesModel", "leaves", "()I"⟩, 98), (⟨"MatchTreesModel", "mostBy", "(I)I"⟩, 98), (⟨"MatchTreesModel", "keeps", "()V"⟩, 98), (⟨"MatchTreesModel", "runs", "(I)I"⟩, 98), (⟨"MatchTreesModel", "draw", "(I)I"⟩, 98)]
theorem lw_r8 : ∀ q ∈ lw_privs_8, lw_okq q := List.forall_mem_cons.mpr ⟨lw_p112, List.forall_mem_cons.mpr ⟨lw_p113, List.forall_mem_cons.mpr ⟨lw_p114, List.forall_mem_cons.mpr ⟨lw_p115, List.forall_mem_cons.mpr ⟨lw_p116, List.forall_mem_cons.mpr ⟨lw_p117, List.forall_mem_cons.mpr ⟨lw_p118, List.forall_mem_cons.mpr ⟨lw_p119, List.forall_mem_cons.mpr ⟨lw_p120, List.forall_mem_cons.mpr ⟨lw_p121, List.forall_mem_cons.mpr ⟨lw_p122, List.forall_mem_cons.mpr ⟨lw_p123, List.forall_mem_cons.mpr ⟨lw_p124, List.forall_mem_cons.mpr ⟨lw_p125, List.forall_mem_cons.mpr ⟨lw_p126, List.forall_mem_cons.mpr ⟨lw_p127, fun _ h => absurd h List.not_mem_nil⟩⟩⟩⟩⟩⟩⟩⟩⟩⟩⟩⟩⟩⟩⟩⟩
theorem lw_p128 : lw_okq (⟨"MatchTreesModel", "comesOn", "(I)Z"⟩, 98) := ⟨⟨by decide +kernel, by decide +kernel⟩, List.mem_of_getElem? (i := 1229) (by decide +kernel), List.mem_of_getElem? (i := 2056) (by decide +kernel), List.mem_of_getElem? (i := 2057) (by decide +kernel)⟩
def lw_privs_9 : List (MethodName × Nat) := [(⟨"MatchTreesModel", "comesOn", "(I)Z"⟩, 98)]
theorem lw_r9 : ∀ q ∈ lw_privs_9, lw_okq q := List.forall_mem_cons.mpr ⟨lw_p128, fun _ h => absurd h List.not_mem_nil⟩
def lw_privs : List (MethodName × Nat) := lw_privs_1 ++ (lw_privs_2 ++ (lw_privs_3 ++ (lw_privs_4 ++ (lw_privs_5 ++ (lw_privs_6 ++ (lw_privs_7 ++ (lw_privs_8 ++ (lw_privs_9))))))))
def lw_tbl : List Cond := k2_sels lw_privs ++ tables_1
theorem lw_privs_ok : ∀ q ∈ lw_privs, lw_okq q := by
  show ∀ q ∈ lw_privs_1 ++ (lw_privs_2 ++ (lw_privs_3 ++ (lw_privs_4 ++ (lw_privs_5 ++ (lw_privs_6 ++ (lw_privs_7 ++ (lw_privs_8 ++ (lw_privs_9)))))))), lw_okq q
  exact List.forall_mem_append.mpr ⟨lw_r1, List.forall_mem_append.mpr ⟨lw_r2, List.forall_mem_append.mpr ⟨lw_r3, List.forall_mem_append.mpr ⟨lw_r4, List.forall_mem_append.mpr ⟨lw_r5, List.forall_mem_append.mpr ⟨lw_r6, List.forall_mem_append.mpr ⟨lw_r7, List.forall_mem_append.mpr ⟨lw_r8, lw_r9⟩⟩⟩⟩⟩⟩⟩⟩
/-! ===== BEGIN words of one list among another's, by their places ===== -/
theorem goodIn_r {big : List Cond} (ws : List Cond) (ps : List Nat) (hp : ws = ps.filterMap (fun i => big[i]?)) (h : ws.all goodWord = true) : GoodIn big ws := by
  intro w hw
  have h1 := List.all_eq_true.mp h w hw
  rw [hp] at hw
  obtain ⟨i, -, hi⟩ := List.mem_filterMap.mp hw
  have hm : w ∈ big := by first | exact List.mem_of_getElem? hi | exact List.getElem?_mem hi
  exact ⟨hm, good_of_word h1⟩
theorem goodIn_app {big a b : List Cond} (ha : GoodIn big a) (hb : GoodIn big b) : GoodIn big (a ++ b) := fun w h => (List.mem_append.mp h).elim (ha w) (hb w)
theorem goodIn_ca {big a b : List Cond} {c : Cond} (ha : GoodIn big (c :: a)) (hb : GoodIn big b) : GoodIn big (c :: (a ++ b)) := fun w h => (List.mem_cons.mp h).elim (fun e => ha w (List.mem_cons.mpr (Or.inl e))) (fun h => (List.mem_append.mp h).elim (fun h => ha w (List.mem_cons.mpr (Or.inr h))) (hb w))
theorem goodIn_sub {big ws : List Cond} (hm : ∀ w ∈ ws, w ∈ big) (h : ws.all goodWord = true) : GoodIn big ws := fun w hw => ⟨hm w hw, good_of_word (List.all_eq_true.mp h w hw)⟩
/-! ===== END ===== -/


/-! ===== BEGIN printed: names, fields, word lists, decode rows ===== -/
def RX0 : String := "MatchTrees$Acts"
def TX0 : u_T := fun k => match k with
  | 0 => ("MatchTrees$Acts", "row", "[I", true)
  | 1 => ("MatchTrees$Acts", "arm", "[I", true)
  | 2 => ("MatchTrees$Acts", "asked", "[I", true)
  | 3 => ("MatchTrees$Acts", "orderAhead", "[LMatchTrees$Order;", true)
  | 4 => ("MatchTrees$Acts", "keptAhead", "[I", true)
  | 5 => ("MatchTrees$Acts", "keptRows", "I", false)
  | 6 => ("MatchTrees$Acts", "next", "I", false)
  | _ => ("MatchTrees$Acts", "undoable", "I", false)
def tyX0 : Nat → FieldType := fun k => match k with
  | 0 => .array .int
  | 1 => .array .int
  | 2 => .array .int
  | 3 => .array (.object "MatchTrees$Order")
  | 4 => .array .int
  | 5 => .int
  | 6 => .int
  | _ => .int
abbrev wsX00 : List Cond := u_ws RX0 TX0 8
theorem nmX0 : ∀ a, a < 8 → ∀ b, b < 8 → a ≠ b → (TX0 a).2.1 ≠ (TX0 b).2.1 := by decide +kernel
theorem tyX0_ok : ∀ k, k < 8 → parseFieldDescriptor (TX0 k).2.2.1 = some (tyX0 k) := by decide +kernel
abbrev cX0_init : ByteArray := prog_2_method_1_code
def yX0_init : MethodName := ⟨RX0, "<init>", "()V"⟩
abbrev cX0_clear : ByteArray := prog_2_method_2_code
def yX0_clear : MethodName := ⟨RX0, "clear", "()V"⟩
abbrev cX0_keptTold : ByteArray := prog_2_method_3_code
def yX0_keptTold : MethodName := ⟨RX0, "keptTold", "()I"⟩
abbrev cX0_keep : ByteArray := prog_2_method_4_code
def yX0_keep : MethodName := ⟨RX0, "keep", "(III)V"⟩
abbrev cX0_tellKept : ByteArray := prog_2_method_5_code
def yX0_tellKept : MethodName := ⟨RX0, "tellKept", "(II)I"⟩
abbrev cX0_remember : ByteArray := prog_2_method_6_code
def yX0_remember : MethodName := ⟨RX0, "remember", "(LMatchTrees$Order;)V"⟩
abbrev cX0_takeBack : ByteArray := prog_2_method_7_code
def yX0_takeBack : MethodName := ⟨RX0, "takeBack", "(LMatchTrees$Order;)V"⟩
def RX1 : String := "MatchTrees$Bytes"
def TX1 : u_T := fun k => match k with
  | 0 => ("MatchTrees$Bytes", "bytes", "[I", true)
  | _ => ("MatchTrees$Bytes", "length", "I", false)
def tyX1 : Nat → FieldType := fun k => match k with
  | 0 => .array .int
  | _ => .int
abbrev wsX10 : List Cond := u_ws RX1 TX1 2
theorem nmX1 : ∀ a, a < 2 → ∀ b, b < 2 → a ≠ b → (TX1 a).2.1 ≠ (TX1 b).2.1 := by decide +kernel
theorem tyX1_ok : ∀ k, k < 2 → parseFieldDescriptor (TX1 k).2.2.1 = some (tyX1 k) := by decide +kernel
abbrev cX1_init : ByteArray := prog_3_method_1_code
def yX1_init : MethodName := ⟨RX1, "<init>", "(I)V"⟩
abbrev cX1_add : ByteArray := prog_3_method_2_code
def yX1_add : MethodName := ⟨RX1, "add", "(I)V"⟩
abbrev cX1_addFour : ByteArray := prog_3_method_3_code
def yX1_addFour : MethodName := ⟨RX1, "addFour", "(I)V"⟩
abbrev cX1_addNumber : ByteArray := prog_3_method_4_code
def yX1_addNumber : MethodName := ⟨RX1, "addNumber", "(I)V"⟩
abbrev cX1_addName : ByteArray := prog_3_method_5_code
def yX1_addName : MethodName := ⟨RX1, "addName", "(I)V"⟩
abbrev cX1_byteAt : ByteArray := prog_3_method_6_code
def yX1_byteAt : MethodName := ⟨RX1, "byteAt", "(I)I"⟩
abbrev cX1_checkByte : ByteArray := prog_3_method_7_code
def yX1_checkByte : MethodName := ⟨RX1, "checkByte", "(I)I"⟩
def RX2 : String := "MatchTrees$Groups"
def TX2 : u_T := fun k => match k with
  | 0 => ("MatchTrees$Groups", "arms", "[I", true)
  | 1 => ("MatchTrees$Groups", "size", "[I", true)
  | 2 => ("MatchTrees$Groups", "marks", "LMatchTrees$Marks;", true)
  | _ => ("MatchTrees$Groups", "count", "I", false)
def tyX2 : Nat → FieldType := fun k => match k with
  | 0 => .array .int
  | 1 => .array .int
  | 2 => .object "MatchTrees$Marks"
  | _ => .int
abbrev wsX20 : List Cond := u_ws RX2 TX2 4
theorem nmX2 : ∀ a, a < 4 → ∀ b, b < 4 → a ≠ b → (TX2 a).2.1 ≠ (TX2 b).2.1 := by decide +kernel
theorem tyX2_ok : ∀ k, k < 4 → parseFieldDescriptor (TX2 k).2.2.1 = some (tyX2 k) := by decide +kernel
abbrev cX2_init : ByteArray := prog_4_method_1_code
def yX2_init : MethodName := ⟨RX2, "<init>", "(ILMatchTrees$Marks;)V"⟩
abbrev cX2_begin : ByteArray := prog_4_method_2_code
def yX2_begin : MethodName := ⟨RX2, "begin", "()V"⟩
abbrev cX2_add : ByteArray := prog_4_method_3_code
def yX2_add : MethodName := ⟨RX2, "add", "(II)V"⟩
abbrev cX2_addParts : ByteArray := prog_4_method_4_code
def yX2_addParts : MethodName := ⟨RX2, "addParts", "(LMatchTrees$Groups;I)V"⟩
abbrev cX2_addProducts : ByteArray := prog_4_method_5_code
def yX2_addProducts : MethodName := ⟨RX2, "addProducts", "(LMatchTrees$Groups;LMatchTrees$Groups;)V"⟩
abbrev cX2_copy : ByteArray := prog_4_method_6_code
def yX2_copy : MethodName := ⟨RX2, "copy", "(LMatchTrees$Groups;)V"⟩
def RX3 : String := "MatchTrees$Kinds"
def TX3 : u_T := fun k => match k with
  | 0 => ("MatchTrees$Kinds", "kindName", "[I", true)
  | 1 => ("MatchTrees$Kinds", "firstCon", "[I", true)
  | 2 => ("MatchTrees$Kinds", "conCount", "[I", true)
  | 3 => ("MatchTrees$Kinds", "size", "[I", true)
  | 4 => ("MatchTrees$Kinds", "conName", "[I", true)
  | 5 => ("MatchTrees$Kinds", "base", "[I", true)
  | 6 => ("MatchTrees$Kinds", "fields", "[I", true)
  | 7 => ("MatchTrees$Kinds", "fieldA", "[I", true)
  | 8 => ("MatchTrees$Kinds", "fieldB", "[I", true)
  | 9 => ("MatchTrees$Kinds", "kinds", "I", false)
  | _ => ("MatchTrees$Kinds", "cons", "I", false)
def tyX3 : Nat → FieldType := fun k => match k with
  | 0 => .array .int
  | 1 => .array .int
  | 2 => .array .int
  | 3 => .array .int
  | 4 => .array .int
  | 5 => .array .int
  | 6 => .array .int
  | 7 => .array .int
  | 8 => .array .int
  | 9 => .int
  | _ => .int
abbrev wsX30 : List Cond := u_ws RX3 TX3 11
theorem nmX3 : ∀ a, a < 11 → ∀ b, b < 11 → a ≠ b → (TX3 a).2.1 ≠ (TX3 b).2.1 := by decide +kernel
theorem tyX3_ok : ∀ k, k < 11 → parseFieldDescriptor (TX3 k).2.2.1 = some (tyX3 k) := by decide +kernel
abbrev cX3_init : ByteArray := prog_5_method_1_code
def yX3_init : MethodName := ⟨RX3, "<init>", "()V"⟩
abbrev cX3_clear : ByteArray := prog_5_method_2_code
def yX3_clear : MethodName := ⟨RX3, "clear", "()V"⟩
abbrev cX3_isKind : ByteArray := prog_5_method_3_code
def yX3_isKind : MethodName := ⟨RX3, "isKind", "(I)Z"⟩
abbrev cX3_isCon : ByteArray := prog_5_method_4_code
def yX3_isCon : MethodName := ⟨RX3, "isCon", "(I)Z"⟩
abbrev cX3_sizeOf : ByteArray := prog_5_method_5_code
def yX3_sizeOf : MethodName := ⟨RX3, "sizeOf", "(I)I"⟩
abbrev cX3_consOf : ByteArray := prog_5_method_6_code
def yX3_consOf : MethodName := ⟨RX3, "consOf", "(I)I"⟩
abbrev cX3_kindNamed : ByteArray := prog_5_method_7_code
def yX3_kindNamed : MethodName := ⟨RX3, "kindNamed", "(I)I"⟩
abbrev cX3_conNamed : ByteArray := prog_5_method_8_code
def yX3_conNamed : MethodName := ⟨RX3, "conNamed", "(I)I"⟩
abbrev cX3_conNamedOf : ByteArray := prog_5_method_9_code
def yX3_conNamedOf : MethodName := ⟨RX3, "conNamedOf", "(II)I"⟩
abbrev cX3_conOf : ByteArray := prog_5_method_10_code
def yX3_conOf : MethodName := ⟨RX3, "conOf", "(II)I"⟩
abbrev cX3_secondSize : ByteArray := prog_5_method_11_code
def yX3_secondSize : MethodName := ⟨RX3, "secondSize", "(I)I"⟩
abbrev cX3_addKind : ByteArray := prog_5_method_12_code
def yX3_addKind : MethodName := ⟨RX3, "addKind", "(I)V"⟩
abbrev cX3_addCon : ByteArray := prog_5_method_13_code
def yX3_addCon : MethodName := ⟨RX3, "addCon", "(IIIII)V"⟩
def RX4 : String := "MatchTrees$Marks"
def TX4 : u_T := fun k => match k with
  | 0 => ("MatchTrees$Marks", "time", "[I", true)
  | 1 => ("MatchTrees$Marks", "spot", "[I", true)
  | _ => ("MatchTrees$Marks", "now", "I", false)
def tyX4 : Nat → FieldType := fun k => match k with
  | 0 => .array .int
  | 1 => .array .int
  | _ => .int
abbrev wsX40 : List Cond := u_ws RX4 TX4 3
theorem nmX4 : ∀ a, a < 3 → ∀ b, b < 3 → a ≠ b → (TX4 a).2.1 ≠ (TX4 b).2.1 := by decide +kernel
theorem tyX4_ok : ∀ k, k < 3 → parseFieldDescriptor (TX4 k).2.2.1 = some (tyX4 k) := by decide +kernel
abbrev cX4_init : ByteArray := prog_6_method_1_code
def yX4_init : MethodName := ⟨RX4, "<init>", "()V"⟩
abbrev cX4_renew : ByteArray := prog_6_method_2_code
def yX4_renew : MethodName := ⟨RX4, "renew", "()V"⟩
abbrev cX4_isNew : ByteArray := prog_6_method_3_code
def yX4_isNew : MethodName := ⟨RX4, "isNew", "(I)Z"⟩
def RX5 : String := "MatchTrees$Order"
def TX5 : u_T := fun k => match k with
  | 0 => ("MatchTrees$Order", "arm", "[I", true)
  | 1 => ("MatchTrees$Order", "count", "I", false)
  | 2 => ("MatchTrees$Order", "on", "I", false)
  | _ => ("MatchTrees$Order", "rule", "I", false)
def tyX5 : Nat → FieldType := fun k => match k with
  | 0 => .array .int
  | 1 => .int
  | 2 => .int
  | _ => .int
abbrev wsX50 : List Cond := u_ws RX5 TX5 4
theorem nmX5 : ∀ a, a < 4 → ∀ b, b < 4 → a ≠ b → (TX5 a).2.1 ≠ (TX5 b).2.1 := by decide +kernel
theorem tyX5_ok : ∀ k, k < 4 → parseFieldDescriptor (TX5 k).2.2.1 = some (tyX5 k) := by decide +kernel
abbrev cX5_init : ByteArray := prog_7_method_1_code
def yX5_init : MethodName := ⟨RX5, "<init>", "()V"⟩
abbrev cX5_begin : ByteArray := prog_7_method_2_code
def yX5_begin : MethodName := ⟨RX5, "begin", "(II)V"⟩
abbrev cX5_copy : ByteArray := prog_7_method_3_code
def yX5_copy : MethodName := ⟨RX5, "copy", "(LMatchTrees$Order;)V"⟩
abbrev cX5_isPlace : ByteArray := prog_7_method_4_code
def yX5_isPlace : MethodName := ⟨RX5, "isPlace", "(I)Z"⟩
abbrev cX5_armAt : ByteArray := prog_7_method_5_code
def yX5_armAt : MethodName := ⟨RX5, "armAt", "(I)I"⟩
abbrev cX5_exchange : ByteArray := prog_7_method_6_code
def yX5_exchange : MethodName := ⟨RX5, "exchange", "(II)V"⟩
abbrev cX5_takeOut : ByteArray := prog_7_method_7_code
def yX5_takeOut : MethodName := ⟨RX5, "takeOut", "(I)V"⟩
abbrev cX5_allArms : ByteArray := prog_7_method_8_code
def yX5_allArms : MethodName := ⟨RX5, "allArms", "()I"⟩
abbrev cX5_firstOf : ByteArray := prog_7_method_9_code
def yX5_firstOf : MethodName := ⟨RX5, "firstOf", "(I)I"⟩
abbrev cX5_unguarded : ByteArray := prog_7_method_10_code
def yX5_unguarded : MethodName := ⟨RX5, "unguarded", "(LMatchTrees$Table;I)I"⟩
abbrev cX5_placeTaking : ByteArray := prog_7_method_11_code
def yX5_placeTaking : MethodName := ⟨RX5, "placeTaking", "(LMatchTrees$Table;II)I"⟩
abbrev cX5_takings : ByteArray := prog_7_method_12_code
def yX5_takings : MethodName := ⟨RX5, "takings", "(LMatchTrees$Table;I)J"⟩
def RX6 : String := "MatchTrees$Reader"
def TX6 : u_T := fun k => match k with
  | 0 => ("MatchTrees$Reader", "scan", "LMatchTrees$Scanner;", true)
  | 1 => ("MatchTrees$Reader", "fit", "[[I", true)
  | 2 => ("MatchTrees$Reader", "table", "LMatchTrees$Table;", false)
  | 3 => ("MatchTrees$Reader", "fault", "I", false)
  | _ => ("MatchTrees$Reader", "place", "I", false)
def tyX6 : Nat → FieldType := fun k => match k with
  | 0 => .object "MatchTrees$Scanner"
  | 1 => .array (.array .int)
  | 2 => .object "MatchTrees$Table"
  | 3 => .int
  | _ => .int
abbrev wsX60 : List Cond := u_ws RX6 TX6 5
theorem nmX6 : ∀ a, a < 5 → ∀ b, b < 5 → a ≠ b → (TX6 a).2.1 ≠ (TX6 b).2.1 := by decide +kernel
theorem tyX6_ok : ∀ k, k < 5 → parseFieldDescriptor (TX6 k).2.2.1 = some (tyX6 k) := by decide +kernel
abbrev cX6_init : ByteArray := prog_8_method_1_code
def yX6_init : MethodName := ⟨RX6, "<init>", "(LMatchTrees$Table;)V"⟩
abbrev cX6_readMatch : ByteArray := prog_8_method_2_code
def yX6_readMatch : MethodName := ⟨RX6, "readMatch", "(LMatchTrees$Bytes;LMatchTrees$Table;)I"⟩
abbrev cX6_begin : ByteArray := prog_8_method_3_code
def yX6_begin : MethodName := ⟨RX6, "begin", "(LMatchTrees$Bytes;)V"⟩
abbrev cX6_fail : ByteArray := prog_8_method_4_code
def yX6_fail : MethodName := ⟨RX6, "fail", "(II)Z"⟩
abbrev cX6_failHere : ByteArray := prog_8_method_5_code
def yX6_failHere : MethodName := ⟨RX6, "failHere", "()Z"⟩
abbrev cX6_readSign : ByteArray := prog_8_method_6_code
def yX6_readSign : MethodName := ⟨RX6, "readSign", "(I)Z"⟩
abbrev cX6_readNumber : ByteArray := prog_8_method_7_code
def yX6_readNumber : MethodName := ⟨RX6, "readNumber", "(II)I"⟩
abbrev cX6_readRule : ByteArray := prog_8_method_8_code
def yX6_readRule : MethodName := ⟨RX6, "readRule", "()Z"⟩
abbrev cX6_readBudget : ByteArray := prog_8_method_9_code
def yX6_readBudget : MethodName := ⟨RX6, "readBudget", "()Z"⟩
abbrev cX6_readKind : ByteArray := prog_8_method_10_code
def yX6_readKind : MethodName := ⟨RX6, "readKind", "()Z"⟩
abbrev cX6_isNewName : ByteArray := prog_8_method_11_code
def yX6_isNewName : MethodName := ⟨RX6, "isNewName", "()Z"⟩
abbrev cX6_readCon : ByteArray := prog_8_method_12_code
def yX6_readCon : MethodName := ⟨RX6, "readCon", "()Z"⟩
abbrev cX6_isKindWord : ByteArray := prog_8_method_13_code
def yX6_isKindWord : MethodName := ⟨RX6, "isKindWord", "()Z"⟩
abbrev cX6_kindHere : ByteArray := prog_8_method_14_code
def yX6_kindHere : MethodName := ⟨RX6, "kindHere", "()I"⟩
abbrev cX6_isKindHere : ByteArray := prog_8_method_15_code
def yX6_isKindHere : MethodName := ⟨RX6, "isKindHere", "(I)Z"⟩
abbrev cX6_readColumns : ByteArray := prog_8_method_16_code
def yX6_readColumns : MethodName := ⟨RX6, "readColumns", "()Z"⟩
abbrev cX6_readArm : ByteArray := prog_8_method_17_code
def yX6_readArm : MethodName := ⟨RX6, "readArm", "()Z"⟩
abbrev cX6_readPattern : ByteArray := prog_8_method_18_code
def yX6_readPattern : MethodName := ⟨RX6, "readPattern", "(LMatchTrees$Reader;III)Z"⟩
abbrev cX6_readRange : ByteArray := prog_8_method_19_code
def yX6_readRange : MethodName := ⟨RX6, "readRange", "(I)Z"⟩
abbrev cX6_readCase : ByteArray := prog_8_method_20_code
def yX6_readCase : MethodName := ⟨RX6, "readCase", "(LMatchTrees$Reader;III)Z"⟩
abbrev cX6_readConName : ByteArray := prog_8_method_21_code
def yX6_readConName : MethodName := ⟨RX6, "readConName", "(I)I"⟩
abbrev cX6_fillCase : ByteArray := prog_8_method_22_code
def yX6_fillCase : MethodName := ⟨RX6, "fillCase", "(III)V"⟩
abbrev cX6_fill : ByteArray := prog_8_method_23_code
def yX6_fill : MethodName := ⟨RX6, "fill", "([IIII)V"⟩
abbrev cX6_readRow : ByteArray := prog_8_method_24_code
def yX6_readRow : MethodName := ⟨RX6, "readRow", "(LMatchTrees$Bytes;LMatchTrees$Table;)I"⟩
abbrev cX6_readValue : ByteArray := prog_8_method_25_code
def yX6_readValue : MethodName := ⟨RX6, "readValue", "(LMatchTrees$Reader;II)I"⟩
def RX7 : String := "MatchTrees$Scanner"
def TX7 : u_T := fun k => match k with
  | 0 => ("MatchTrees$Scanner", "ownWords", "[I", true)
  | 1 => ("MatchTrees$Scanner", "text", "[I", false)
  | 2 => ("MatchTrees$Scanner", "length", "I", false)
  | 3 => ("MatchTrees$Scanner", "next", "I", false)
  | 4 => ("MatchTrees$Scanner", "type", "I", false)
  | 5 => ("MatchTrees$Scanner", "at", "I", false)
  | 6 => ("MatchTrees$Scanner", "stop", "I", false)
  | 7 => ("MatchTrees$Scanner", "value", "I", false)
  | _ => ("MatchTrees$Scanner", "own", "I", false)
def tyX7 : Nat → FieldType := fun k => match k with
  | 0 => .array .int
  | 1 => .array .int
  | 2 => .int
  | 3 => .int
  | 4 => .int
  | 5 => .int
  | 6 => .int
  | 7 => .int
  | _ => .int
abbrev wsX70 : List Cond := u_ws RX7 TX7 9
theorem nmX7 : ∀ a, a < 9 → ∀ b, b < 9 → a ≠ b → (TX7 a).2.1 ≠ (TX7 b).2.1 := by decide +kernel
theorem tyX7_ok : ∀ k, k < 9 → parseFieldDescriptor (TX7 k).2.2.1 = some (tyX7 k) := by decide +kernel
abbrev cX7_init : ByteArray := prog_9_method_1_code
def yX7_init : MethodName := ⟨RX7, "<init>", "()V"⟩
abbrev cX7_spell : ByteArray := prog_9_method_2_code
def yX7_spell : MethodName := ⟨RX7, "spell", "(Ljava/lang/String;)I"⟩
abbrev cX7_begin : ByteArray := prog_9_method_3_code
def yX7_begin : MethodName := ⟨RX7, "begin", "(LMatchTrees$Bytes;)V"⟩
abbrev cX7_step : ByteArray := prog_9_method_4_code
def yX7_step : MethodName := ⟨RX7, "step", "()V"⟩
abbrev cX7_stepWord : ByteArray := prog_9_method_5_code
def yX7_stepWord : MethodName := ⟨RX7, "stepWord", "()V"⟩
abbrev cX7_stepNumber : ByteArray := prog_9_method_6_code
def yX7_stepNumber : MethodName := ⟨RX7, "stepNumber", "()V"⟩
abbrev cX7_isName : ByteArray := prog_9_method_7_code
def yX7_isName : MethodName := ⟨RX7, "isName", "()Z"⟩
abbrev cX7_isSign : ByteArray := prog_9_method_8_code
def yX7_isSign : MethodName := ⟨RX7, "isSign", "(I)Z"⟩
def RX8 : String := "MatchTrees$Seen"
def TX8 : u_T := fun k => match k with
  | 0 => ("MatchTrees$Seen", "row", "[I", true)
  | 1 => ("MatchTrees$Seen", "arm", "[I", true)
  | 2 => ("MatchTrees$Seen", "count", "I", false)
  | 3 => ("MatchTrees$Seen", "set", "[I", true)
  | 4 => ("MatchTrees$Seen", "sets", "I", false)
  | _ => ("MatchTrees$Seen", "tally", "[I", true)
def tyX8 : Nat → FieldType := fun k => match k with
  | 0 => .array .int
  | 1 => .array .int
  | 2 => .int
  | 3 => .array .int
  | 4 => .int
  | _ => .array .int
abbrev wsX80 : List Cond := u_ws RX8 TX8 6
theorem nmX8 : ∀ a, a < 6 → ∀ b, b < 6 → a ≠ b → (TX8 a).2.1 ≠ (TX8 b).2.1 := by decide +kernel
theorem tyX8_ok : ∀ k, k < 6 → parseFieldDescriptor (TX8 k).2.2.1 = some (tyX8 k) := by decide +kernel
abbrev cX8_init : ByteArray := prog_10_method_1_code
def yX8_init : MethodName := ⟨RX8, "<init>", "()V"⟩
abbrev cX8_read : ByteArray := prog_10_method_2_code
def yX8_read : MethodName := ⟨RX8, "read", "(LMatchTrees$Bytes;LMatchTrees$Table;LMatchTrees$Order;)Z"⟩
abbrev cX8_rowOn : ByteArray := prog_10_method_3_code
def yX8_rowOn : MethodName := ⟨RX8, "rowOn", "(LMatchTrees$Bytes;I)I"⟩
abbrev cX8_findSets : ByteArray := prog_10_method_4_code
def yX8_findSets : MethodName := ⟨RX8, "findSets", "(LMatchTrees$Table;LMatchTrees$Order;)V"⟩
abbrev cX8_agrees : ByteArray := prog_10_method_5_code
def yX8_agrees : MethodName := ⟨RX8, "agrees", "(LMatchTrees$Table;LMatchTrees$Order;I)Z"⟩
abbrev cX8_mostLeft : ByteArray := prog_10_method_6_code
def yX8_mostLeft : MethodName := ⟨RX8, "mostLeft", "(LMatchTrees$Table;LMatchTrees$Order;I)I"⟩
def RX9 : String := "MatchTrees$Table"
def TX9 : u_T := fun k => match k with
  | 0 => ("MatchTrees$Table", "kinds", "LMatchTrees$Kinds;", true)
  | 1 => ("MatchTrees$Table", "kindOf", "[I", true)
  | 2 => ("MatchTrees$Table", "size", "[I", true)
  | 3 => ("MatchTrees$Table", "full", "[I", true)
  | 4 => ("MatchTrees$Table", "guard", "[I", true)
  | 5 => ("MatchTrees$Table", "fitting", "[[I", true)
  | 6 => ("MatchTrees$Table", "columns", "I", false)
  | 7 => ("MatchTrees$Table", "rows", "I", false)
  | 8 => ("MatchTrees$Table", "arms", "I", false)
  | 9 => ("MatchTrees$Table", "rule", "I", false)
  | _ => ("MatchTrees$Table", "budget", "I", false)
def tyX9 : Nat → FieldType := fun k => match k with
  | 0 => .object "MatchTrees$Kinds"
  | 1 => .array .int
  | 2 => .array .int
  | 3 => .array .int
  | 4 => .array .int
  | 5 => .array (.array .int)
  | 6 => .int
  | 7 => .int
  | 8 => .int
  | 9 => .int
  | _ => .int
abbrev wsX90 : List Cond := u_ws RX9 TX9 11
theorem nmX9 : ∀ a, a < 11 → ∀ b, b < 11 → a ≠ b → (TX9 a).2.1 ≠ (TX9 b).2.1 := by decide +kernel
theorem tyX9_ok : ∀ k, k < 11 → parseFieldDescriptor (TX9 k).2.2.1 = some (tyX9 k) := by decide +kernel
abbrev cX9_init : ByteArray := prog_11_method_1_code
def yX9_init : MethodName := ⟨RX9, "<init>", "()V"⟩
abbrev cX9_clear : ByteArray := prog_11_method_2_code
def yX9_clear : MethodName := ⟨RX9, "clear", "()V"⟩
abbrev cX9_addColumn : ByteArray := prog_11_method_3_code
def yX9_addColumn : MethodName := ⟨RX9, "addColumn", "(I)V"⟩
abbrev cX9_setPattern : ByteArray := prog_11_method_4_code
def yX9_setPattern : MethodName := ⟨RX9, "setPattern", "(I[I)V"⟩
abbrev cX9_addArm : ByteArray := prog_11_method_5_code
def yX9_addArm : MethodName := ⟨RX9, "addArm", "(I)V"⟩
abbrev cX9_guardOf : ByteArray := prog_11_method_6_code
def yX9_guardOf : MethodName := ⟨RX9, "guardOf", "(I)I"⟩
abbrev cX9_isRow : ByteArray := prog_11_method_7_code
def yX9_isRow : MethodName := ⟨RX9, "isRow", "(I)Z"⟩
abbrev cX9_armsFitting : ByteArray := prog_11_method_8_code
def yX9_armsFitting : MethodName := ⟨RX9, "armsFitting", "(II)I"⟩
abbrev cX9_valueOf : ByteArray := prog_11_method_9_code
def yX9_valueOf : MethodName := ⟨RX9, "valueOf", "(II)I"⟩
abbrev cX9_armsOf : ByteArray := prog_11_method_10_code
def yX9_armsOf : MethodName := ⟨RX9, "armsOf", "(I)I"⟩
def RX10 : String := "MatchTrees$Trees"
def TX10 : u_T := fun k => match k with
  | 0 => ("MatchTrees$Trees", "column", "[LMatchTrees$Groups;", true)
  | 1 => ("MatchTrees$Trees", "branch", "[LMatchTrees$Groups;", true)
  | 2 => ("MatchTrees$Trees", "marks", "LMatchTrees$Marks;", true)
  | 3 => ("MatchTrees$Trees", "counted", "[J", true)
  | 4 => ("MatchTrees$Trees", "now", "I", false)
  | 5 => ("MatchTrees$Trees", "unlike", "I", false)
  | 6 => ("MatchTrees$Trees", "scopesShut", "[I", true)
  | 7 => ("MatchTrees$Trees", "scopesOpened", "I", false)
  | 8 => ("MatchTrees$Trees", "scopesOpen", "I", false)
  | 9 => ("MatchTrees$Trees", "scopesMost", "I", false)
  | 10 => ("MatchTrees$Trees", "shutCount", "I", false)
  | 11 => ("MatchTrees$Trees", "stopped", "Z", false)
  | 12 => ("MatchTrees$Trees", "rule", "I", false)
  | 13 => ("MatchTrees$Trees", "table", "LMatchTrees$Table;", false)
  | _ => ("MatchTrees$Trees", "order", "LMatchTrees$Order;", false)
def tyX10 : Nat → FieldType := fun k => match k with
  | 0 => .array (.object "MatchTrees$Groups")
  | 1 => .array (.object "MatchTrees$Groups")
  | 2 => .object "MatchTrees$Marks"
  | 3 => .array .long
  | 4 => .int
  | 5 => .int
  | 6 => .array .int
  | 7 => .int
  | 8 => .int
  | 9 => .int
  | 10 => .int
  | 11 => .boolean
  | 12 => .int
  | 13 => .object "MatchTrees$Table"
  | _ => .object "MatchTrees$Order"
abbrev wsX100 : List Cond := u_ws RX10 TX10 15
theorem nmX10 : ∀ a, a < 15 → ∀ b, b < 15 → a ≠ b → (TX10 a).2.1 ≠ (TX10 b).2.1 := by decide +kernel
theorem tyX10_ok : ∀ k, k < 15 → parseFieldDescriptor (TX10 k).2.2.1 = some (tyX10 k) := by decide +kernel
abbrev cX10_init : ByteArray := prog_12_method_1_code
def yX10_init : MethodName := ⟨RX10, "<init>", "(LMatchTrees$Table;LMatchTrees$Order;LMatchTrees$Marks;)V"⟩
abbrev cX10_setTable : ByteArray := prog_12_method_2_code
def yX10_setTable : MethodName := ⟨RX10, "setTable", "(LMatchTrees$Table;)V"⟩
abbrev cX10_allColumns : ByteArray := prog_12_method_3_code
def yX10_allColumns : MethodName := ⟨RX10, "allColumns", "()I"⟩
abbrev cX10_columnAsked : ByteArray := prog_12_method_4_code
def yX10_columnAsked : MethodName := ⟨RX10, "columnAsked", "(II)I"⟩
abbrev cX10_costOf : ByteArray := prog_12_method_5_code
def yX10_costOf : MethodName := ⟨RX10, "costOf", "(II)I"⟩
abbrev cX10_notFullInRow : ByteArray := prog_12_method_6_code
def yX10_notFullInRow : MethodName := ⟨RX10, "notFullInRow", "(II)I"⟩
abbrev cX10_countBranches : ByteArray := prog_12_method_7_code
def yX10_countBranches : MethodName := ⟨RX10, "countBranches", "(II)I"⟩
abbrev cX10_mostArms : ByteArray := prog_12_method_8_code
def yX10_mostArms : MethodName := ⟨RX10, "mostArms", "(II)I"⟩
abbrev cX10_split : ByteArray := prog_12_method_9_code
def yX10_split : MethodName := ⟨RX10, "split", "(III)LMatchTrees$Groups;"⟩
abbrev cX10_rowsOf : ByteArray := prog_12_method_10_code
def yX10_rowsOf : MethodName := ⟨RX10, "rowsOf", "(I)I"⟩
abbrev cX10_measureAll : ByteArray := prog_12_method_11_code
def yX10_measureAll : MethodName := ⟨RX10, "measureAll", "(LMatchTrees$Order;I)J"⟩
abbrev cX10_measure : ByteArray := prog_12_method_12_code
def yX10_measure : MethodName := ⟨RX10, "measure", "(LMatchTrees$Trees;III)J"⟩
abbrev cX10_nodesIn : ByteArray := prog_12_method_13_code
def yX10_nodesIn : MethodName := ⟨RX10, "nodesIn", "(J)I"⟩
abbrev cX10_testsIn : ByteArray := prog_12_method_14_code
def yX10_testsIn : MethodName := ⟨RX10, "testsIn", "(J)I"⟩
abbrev cX10_longestIn : ByteArray := prog_12_method_15_code
def yX10_longestIn : MethodName := ⟨RX10, "longestIn", "(J)I"⟩
abbrev cX10_firstColumn : ByteArray := prog_12_method_16_code
def yX10_firstColumn : MethodName := ⟨RX10, "firstColumn", "(LMatchTrees$Order;I)I"⟩
abbrev cX10_columnsAsked : ByteArray := prog_12_method_17_code
def yX10_columnsAsked : MethodName := ⟨RX10, "columnsAsked", "(LMatchTrees$Order;I)I"⟩
abbrev cX10_buildAll : ByteArray := prog_12_method_18_code
def yX10_buildAll : MethodName := ⟨RX10, "buildAll", "(LMatchTrees$Order;I)V"⟩
abbrev cX10_build : ByteArray := prog_12_method_19_code
def yX10_build : MethodName := ⟨RX10, "build", "(LMatchTrees$Trees;III)V"⟩
abbrev cX10_openScope : ByteArray := prog_12_method_20_code
def yX10_openScope : MethodName := ⟨RX10, "openScope", "()V"⟩
abbrev cX10_shutScope : ByteArray := prog_12_method_21_code
def yX10_shutScope : MethodName := ⟨RX10, "shutScope", "(I)V"⟩
abbrev cX10_scopeShutAs : ByteArray := prog_12_method_22_code
def yX10_scopeShutAs : MethodName := ⟨RX10, "scopeShutAs", "(I)I"⟩
def RX11 : String := "MatchTrees"
def TX11 : u_T := fun k => match k with
  | 0 => ("MatchTrees", "tape", "LMatchTrees$Bytes;", true)
  | 1 => ("MatchTrees", "written", "LMatchTrees$Bytes;", true)
  | 2 => ("MatchTrees", "marks", "LMatchTrees$Marks;", true)
  | 3 => ("MatchTrees", "rowGroups", "LMatchTrees$Groups;", true)
  | 4 => ("MatchTrees", "rowGroupsAhead", "LMatchTrees$Groups;", true)
  | 5 => ("MatchTrees", "order", "LMatchTrees$Order;", true)
  | 6 => ("MatchTrees", "trial", "LMatchTrees$Order;", true)
  | 7 => ("MatchTrees", "acts", "LMatchTrees$Acts;", true)
  | 8 => ("MatchTrees", "seen", "LMatchTrees$Seen;", true)
  | 9 => ("MatchTrees", "refused", "[I", true)
  | 10 => ("MatchTrees", "table", "LMatchTrees$Table;", false)
  | 11 => ("MatchTrees", "spare", "LMatchTrees$Table;", false)
  | 12 => ("MatchTrees", "reader", "LMatchTrees$Reader;", true)
  | 13 => ("MatchTrees", "trees", "LMatchTrees$Trees;", true)
  | _ => ("MatchTrees", "seedNow", "I", false)
def tyX11 : Nat → FieldType := fun k => match k with
  | 0 => .object "MatchTrees$Bytes"
  | 1 => .object "MatchTrees$Bytes"
  | 2 => .object "MatchTrees$Marks"
  | 3 => .object "MatchTrees$Groups"
  | 4 => .object "MatchTrees$Groups"
  | 5 => .object "MatchTrees$Order"
  | 6 => .object "MatchTrees$Order"
  | 7 => .object "MatchTrees$Acts"
  | 8 => .object "MatchTrees$Seen"
  | 9 => .array .int
  | 10 => .object "MatchTrees$Table"
  | 11 => .object "MatchTrees$Table"
  | 12 => .object "MatchTrees$Reader"
  | 13 => .object "MatchTrees$Trees"
  | _ => .int
abbrev wsX110 : List Cond := u_ws RX11 TX11 15
theorem nmX11 : ∀ a, a < 15 → ∀ b, b < 15 → a ≠ b → (TX11 a).2.1 ≠ (TX11 b).2.1 := by decide +kernel
theorem tyX11_ok : ∀ k, k < 15 → parseFieldDescriptor (TX11 k).2.2.1 = some (tyX11 k) := by decide +kernel
abbrev cX11_init : ByteArray := prog_1_method_1_code
def yX11_init : MethodName := ⟨RX11, "<init>", "()V"⟩
abbrev cX11_feed : ByteArray := prog_1_method_2_code
def yX11_feed : MethodName := ⟨RX11, "feed", "(IIIII)I"⟩
abbrev cX11_end : ByteArray := prog_1_method_3_code
def yX11_end : MethodName := ⟨RX11, "end", "(I)Z"⟩
abbrev cX11_match : ByteArray := prog_1_method_4_code
def yX11_match : MethodName := ⟨RX11, "match", "()I"⟩
abbrev cX11_startMatch : ByteArray := prog_1_method_5_code
def yX11_startMatch : MethodName := ⟨RX11, "startMatch", "()V"⟩
abbrev cX11_fault : ByteArray := prog_1_method_6_code
def yX11_fault : MethodName := ⟨RX11, "fault", "(I)I"⟩
abbrev cX11_has : ByteArray := prog_1_method_7_code
def yX11_has : MethodName := ⟨RX11, "has", "(I)I"⟩
abbrev cX11_letter : ByteArray := prog_1_method_8_code
def yX11_letter : MethodName := ⟨RX11, "letter", "(III)I"⟩
abbrev cX11_values : ByteArray := prog_1_method_9_code
def yX11_values : MethodName := ⟨RX11, "values", "(I)I"⟩
abbrev cX11_arm : ByteArray := prog_1_method_10_code
def yX11_arm : MethodName := ⟨RX11, "arm", "(II)I"⟩
abbrev cX11_isUseful : ByteArray := prog_1_method_11_code
def yX11_isUseful : MethodName := ⟨RX11, "isUseful", "(I)Z"⟩
abbrev cX11_rowsFitting : ByteArray := prog_1_method_12_code
def yX11_rowsFitting : MethodName := ⟨RX11, "rowsFitting", "(I)I"⟩
abbrev cX11_rowsTaken : ByteArray := prog_1_method_13_code
def yX11_rowsTaken : MethodName := ⟨RX11, "rowsTaken", "(I)I"⟩
abbrev cX11_fits : ByteArray := prog_1_method_14_code
def yX11_fits : MethodName := ⟨RX11, "fits", "(III)I"⟩
abbrev cX11_holds : ByteArray := prog_1_method_15_code
def yX11_holds : MethodName := ⟨RX11, "holds", "(II)I"⟩
abbrev cX11_missing : ByteArray := prog_1_method_16_code
def yX11_missing : MethodName := ⟨RX11, "missing", "(I)I"⟩
abbrev cX11_countMissing : ByteArray := prog_1_method_17_code
def yX11_countMissing : MethodName := ⟨RX11, "countMissing", "(I)I"⟩
abbrev cX11_findMissing : ByteArray := prog_1_method_18_code
def yX11_findMissing : MethodName := ⟨RX11, "findMissing", "(II)I"⟩
abbrev cX11_taken : ByteArray := prog_1_method_19_code
def yX11_taken : MethodName := ⟨RX11, "taken", "(I)I"⟩
abbrev cX11_row : ByteArray := prog_1_method_20_code
def yX11_row : MethodName := ⟨RX11, "row", "()I"⟩
abbrev cX11_text : ByteArray := prog_1_method_21_code
def yX11_text : MethodName := ⟨RX11, "text", "(I)I"⟩
abbrev cX11_writeValue : ByteArray := prog_1_method_22_code
def yX11_writeValue : MethodName := ⟨RX11, "writeValue", "(LMatchTrees$Bytes;LMatchTrees$Kinds;III)V"⟩
abbrev cX11_octet : ByteArray := prog_1_method_23_code
def yX11_octet : MethodName := ⟨RX11, "octet", "(I)I"⟩
abbrev cX11_tree : ByteArray := prog_1_method_24_code
def yX11_tree : MethodName := ⟨RX11, "tree", "(II)I"⟩
abbrev cX11_first : ByteArray := prog_1_method_25_code
def yX11_first : MethodName := ⟨RX11, "first", "(I)I"⟩
abbrev cX11_scopes : ByteArray := prog_1_method_26_code
def yX11_scopes : MethodName := ⟨RX11, "scopes", "(III)I"⟩
abbrev cX11_safe : ByteArray := prog_1_method_27_code
def yX11_safe : MethodName := ⟨RX11, "safe", "(II)I"⟩
abbrev cX11_trialTakesAlike : ByteArray := prog_1_method_28_code
def yX11_trialTakesAlike : MethodName := ⟨RX11, "trialTakesAlike", "()Z"⟩
abbrev cX11_best : ByteArray := prog_1_method_29_code
def yX11_best : MethodName := ⟨RX11, "best", "(I)I"⟩
abbrev cX11_allTests : ByteArray := prog_1_method_30_code
def yX11_allTests : MethodName := ⟨RX11, "allTests", "(LMatchTrees$Order;)I"⟩
abbrev cX11_see : ByteArray := prog_1_method_31_code
def yX11_see : MethodName := ⟨RX11, "see", "()I"⟩
abbrev cX11_sets : ByteArray := prog_1_method_32_code
def yX11_sets : MethodName := ⟨RX11, "sets", "(I)I"⟩
abbrev cX11_tells : ByteArray := prog_1_method_33_code
def yX11_tells : MethodName := ⟨RX11, "tells", "(I)I"⟩
abbrev cX11_run : ByteArray := prog_1_method_34_code
def yX11_run : MethodName := ⟨RX11, "run", "(I)I"⟩
abbrev cX11_runRow : ByteArray := prog_1_method_35_code
def yX11_runRow : MethodName := ⟨RX11, "runRow", "(I)I"⟩
abbrev cX11_chance : ByteArray := prog_1_method_36_code
def yX11_chance : MethodName := ⟨RX11, "chance", "(I)I"⟩
abbrev cX11_draw : ByteArray := prog_1_method_37_code
def yX11_draw : MethodName := ⟨RX11, "draw", "(I)I"⟩
abbrev cX11_swap : ByteArray := prog_1_method_38_code
def yX11_swap : MethodName := ⟨RX11, "swap", "(II)Z"⟩
abbrev cX11_drop : ByteArray := prog_1_method_39_code
def yX11_drop : MethodName := ⟨RX11, "drop", "(I)Z"⟩
abbrev cX11_turn : ByteArray := prog_1_method_40_code
def yX11_turn : MethodName := ⟨RX11, "turn", "(I)I"⟩
abbrev cX11_choose : ByteArray := prog_1_method_41_code
def yX11_choose : MethodName := ⟨RX11, "choose", "(I)Z"⟩
abbrev cX11_undo : ByteArray := prog_1_method_42_code
def yX11_undo : MethodName := ⟨RX11, "undo", "()Z"⟩
abbrev cX11_remember : ByteArray := prog_1_method_43_code
def yX11_remember : MethodName := ⟨RX11, "remember", "()V"⟩
abbrev cX11_seed : ByteArray := prog_1_method_44_code
def yX11_seed : MethodName := ⟨RX11, "seed", "(I)Z"⟩
abbrev cX11_kept : ByteArray := prog_1_method_45_code
def yX11_kept : MethodName := ⟨RX11, "kept", "(II)I"⟩
abbrev cX11_image : ByteArray := prog_1_method_46_code
def yX11_image : MethodName := ⟨RX11, "image", "()I"⟩
abbrev cX11_on : ByteArray := prog_1_method_47_code
def yX11_on : MethodName := ⟨RX11, "on", "()Z"⟩
abbrev cX11_isImage : ByteArray := prog_1_method_48_code
def yX11_isImage : MethodName := ⟨RX11, "isImage", "()Z"⟩
abbrev cX11_takeImage : ByteArray := prog_1_method_49_code
def yX11_takeImage : MethodName := ⟨RX11, "takeImage", "()V"⟩
abbrev cX11_status : ByteArray := prog_1_method_50_code
def yX11_status : MethodName := ⟨RX11, "status", "(I)I"⟩
abbrev cX11_refuse : ByteArray := prog_1_method_51_code
def yX11_refuse : MethodName := ⟨RX11, "refuse", "(I)Z"⟩
abbrev cX11_matched : ByteArray := prog_1_method_52_code
def yX11_matched : MethodName := ⟨RX11, "matched", "()Z"⟩
abbrev cX11_isRule : ByteArray := prog_1_method_53_code
def yX11_isRule : MethodName := ⟨RX11, "isRule", "(I)Z"⟩
abbrev cX11_isIn : ByteArray := prog_1_method_54_code
def yX11_isIn : MethodName := ⟨RX11, "isIn", "(II)Z"⟩
abbrev cX11_letterOf : ByteArray := prog_1_method_55_code
def yX11_letterOf : MethodName := ⟨RX11, "letterOf", "(II)I"⟩
def RX12 : String := "MatchTreesModel"
def TX12 : u_T := fun k => match k with
  | 0 => ("MatchTreesModel", "tape", "[I", true)
  | 1 => ("MatchTreesModel", "taped", "I", false)
  | 2 => ("MatchTreesModel", "size", "I", false)
  | 3 => ("MatchTreesModel", "sign", "I", false)
  | 4 => ("MatchTreesModel", "signAt", "I", false)
  | 5 => ("MatchTreesModel", "signEnd", "I", false)
  | 6 => ("MatchTreesModel", "value", "I", false)
  | 7 => ("MatchTreesModel", "word", "J", false)
  | 8 => ("MatchTreesModel", "faultKind", "I", false)
  | 9 => ("MatchTreesModel", "faultPlace", "I", false)
  | 10 => ("MatchTreesModel", "toldKind", "I", false)
  | 11 => ("MatchTreesModel", "toldPlace", "I", false)
  | 12 => ("MatchTreesModel", "lexAt", "I", false)
  | 13 => ("MatchTreesModel", "bank", "I", false)
  | 14 => ("MatchTreesModel", "kindMany", "[I", true)
  | 15 => ("MatchTreesModel", "kindValues", "[I", true)
  | 16 => ("MatchTreesModel", "kindCons", "[I", true)
  | 17 => ("MatchTreesModel", "conMany", "[I", true)
  | 18 => ("MatchTreesModel", "conKind", "[I", true)
  | 19 => ("MatchTreesModel", "conFields", "[I", true)
  | 20 => ("MatchTreesModel", "conField", "[I", true)
  | 21 => ("MatchTreesModel", "conFrom", "[I", true)
  | 22 => ("MatchTreesModel", "conValues", "[I", true)
  | 23 => ("MatchTreesModel", "columnMany", "[I", true)
  | 24 => ("MatchTreesModel", "columnKind", "[I", true)
  | 25 => ("MatchTreesModel", "armMany", "[I", true)
  | 26 => ("MatchTreesModel", "armGuard", "[I", true)
  | 27 => ("MatchTreesModel", "ruleTold", "[I", true)
  | 28 => ("MatchTreesModel", "budgetTold", "[I", true)
  | 29 => ("MatchTreesModel", "patFrom", "[I", true)
  | 30 => ("MatchTreesModel", "patBehind", "[I", true)
  | 31 => ("MatchTreesModel", "codeOp", "[I", true)
  | 32 => ("MatchTreesModel", "codeA", "[I", true)
  | 33 => ("MatchTreesModel", "codeB", "[I", true)
  | 34 => ("MatchTreesModel", "kindName", "[J", true)
  | 35 => ("MatchTreesModel", "conName", "[J", true)
  | 36 => ("MatchTreesModel", "codes", "I", false)
  | 37 => ("MatchTreesModel", "in", "I", false)
  | 38 => ("MatchTreesModel", "isMatched", "Z", false)
  | 39 => ("MatchTreesModel", "openKind", "[I", true)
  | 40 => ("MatchTreesModel", "openAlts", "[I", true)
  | 41 => ("MatchTreesModel", "openCon", "[I", true)
  | 42 => ("MatchTreesModel", "openField", "[I", true)
  | 43 => ("MatchTreesModel", "open", "I", false)
  | 44 => ("MatchTreesModel", "isMatch", "Z", false)
  | 45 => ("MatchTreesModel", "refused", "[I", true)
  | 46 => ("MatchTreesModel", "gone", "[I", true)
  | 47 => ("MatchTreesModel", "truth", "[I", true)
  | 48 => ("MatchTreesModel", "setOf", "[I", true)
  | 49 => ("MatchTreesModel", "toldSet", "[I", true)
  | 50 => ("MatchTreesModel", "setMany", "[I", true)
  | 51 => ("MatchTreesModel", "setNumber", "[I", true)
  | 52 => ("MatchTreesModel", "rowMany", "I", false)
  | 53 => ("MatchTreesModel", "armsOf", "[I", true)
  | 54 => ("MatchTreesModel", "orderOf", "[I", true)
  | 55 => ("MatchTreesModel", "guardsOf", "[I", true)
  | 56 => ("MatchTreesModel", "ruleOf", "[I", true)
  | 57 => ("MatchTreesModel", "keptMany", "[I", true)
  | 58 => ("MatchTreesModel", "keptRow", "[I", true)
  | 59 => ("MatchTreesModel", "undoFirst", "I", false)
  | 60 => ("MatchTreesModel", "undos", "I", false)
  | 61 => ("MatchTreesModel", "seeds", "J", false)
  | 62 => ("MatchTreesModel", "places", "I", false)
  | 63 => ("MatchTreesModel", "placeSet", "[I", true)
  | 64 => ("MatchTreesModel", "fullIn", "[I", true)
  | 65 => ("MatchTreesModel", "guardAt", "[I", true)
  | 66 => ("MatchTreesModel", "unguarded", "I", false)
  | 67 => ("MatchTreesModel", "valueAt", "[I", true)
  | 68 => ("MatchTreesModel", "manyBy", "[I", true)
  | 69 => ("MatchTreesModel", "out", "[I", true)
  | 70 => ("MatchTreesModel", "outs", "I", false)
  | 71 => ("MatchTreesModel", "todoKind", "[I", true)
  | 72 => ("MatchTreesModel", "todo", "[I", true)
  | 73 => ("MatchTreesModel", "todos", "I", false)
  | 74 => ("MatchTreesModel", "stamp", "I", false)
  | 75 => ("MatchTreesModel", "chosen", "[I", true)
  | 76 => ("MatchTreesModel", "ruleNow", "I", false)
  | 77 => ("MatchTreesModel", "metBy", "[I", true)
  | 78 => ("MatchTreesModel", "meeting", "I", false)
  | 79 => ("MatchTreesModel", "reached", "[I", true)
  | 80 => ("MatchTreesModel", "states", "[I", true)
  | 81 => ("MatchTreesModel", "stateMany", "I", false)
  | 82 => ("MatchTreesModel", "below", "[I", true)
  | 83 => ("MatchTreesModel", "openLeft", "[I", true)
  | 84 => ("MatchTreesModel", "openNext", "[I", true)
  | 85 => ("MatchTreesModel", "openScope", "[I", true)
  | 86 => ("MatchTreesModel", "shut", "[I", true)
  | 87 => ("MatchTreesModel", "scopeMany", "I", false)
  | 88 => ("MatchTreesModel", "shutMany", "I", false)
  | 89 => ("MatchTreesModel", "mostOpen", "I", false)
  | 90 => ("MatchTreesModel", "isStopped", "Z", false)
  | 91 => ("MatchTreesModel", "isFair", "[I", true)
  | 92 => ("MatchTreesModel", "seenMany", "I", false)
  | 93 => ("MatchTreesModel", "seenRow", "[I", true)
  | 94 => ("MatchTreesModel", "seenArm", "[I", true)
  | 95 => ("MatchTreesModel", "isLeft", "[I", true)
  | 96 => ("MatchTreesModel", "openOf", "[I", true)
  | _ => ("MatchTreesModel", "manyArm", "[I", true)
def tyX12 : Nat → FieldType := fun k => match k with
  | 0 => .array .int
  | 1 => .int
  | 2 => .int
  | 3 => .int
  | 4 => .int
  | 5 => .int
  | 6 => .int
  | 7 => .long
  | 8 => .int
  | 9 => .int
  | 10 => .int
  | 11 => .int
  | 12 => .int
  | 13 => .int
  | 14 => .array .int
  | 15 => .array .int
  | 16 => .array .int
  | 17 => .array .int
  | 18 => .array .int
  | 19 => .array .int
  | 20 => .array .int
  | 21 => .array .int
  | 22 => .array .int
  | 23 => .array .int
  | 24 => .array .int
  | 25 => .array .int
  | 26 => .array .int
  | 27 => .array .int
  | 28 => .array .int
  | 29 => .array .int
  | 30 => .array .int
  | 31 => .array .int
  | 32 => .array .int
  | 33 => .array .int
  | 34 => .array .long
  | 35 => .array .long
  | 36 => .int
  | 37 => .int
  | 38 => .boolean
  | 39 => .array .int
  | 40 => .array .int
  | 41 => .array .int
  | 42 => .array .int
  | 43 => .int
  | 44 => .boolean
  | 45 => .array .int
  | 46 => .array .int
  | 47 => .array .int
  | 48 => .array .int
  | 49 => .array .int
  | 50 => .array .int
  | 51 => .array .int
  | 52 => .int
  | 53 => .array .int
  | 54 => .array .int
  | 55 => .array .int
  | 56 => .array .int
  | 57 => .array .int
  | 58 => .array .int
  | 59 => .int
  | 60 => .int
  | 61 => .long
  | 62 => .int
  | 63 => .array .int
  | 64 => .array .int
  | 65 => .array .int
  | 66 => .int
  | 67 => .array .int
  | 68 => .array .int
  | 69 => .array .int
  | 70 => .int
  | 71 => .array .int
  | 72 => .array .int
  | 73 => .int
  | 74 => .int
  | 75 => .array .int
  | 76 => .int
  | 77 => .array .int
  | 78 => .int
  | 79 => .array .int
  | 80 => .array .int
  | 81 => .int
  | 82 => .array .int
  | 83 => .array .int
  | 84 => .array .int
  | 85 => .array .int
  | 86 => .array .int
  | 87 => .int
  | 88 => .int
  | 89 => .int
  | 90 => .boolean
  | 91 => .array .int
  | 92 => .int
  | 93 => .array .int
  | 94 => .array .int
  | 95 => .array .int
  | 96 => .array .int
  | _ => .array .int
abbrev wsX120 : List Cond := u_ws RX12 TX12 98
theorem nmX12 : ∀ a, a < 98 → ∀ b, b < 98 → a ≠ b → (TX12 a).2.1 ≠ (TX12 b).2.1 := by decide +kernel
theorem tyX12_ok : ∀ k, k < 98 → parseFieldDescriptor (TX12 k).2.2.1 = some (tyX12 k) := by decide +kernel
abbrev cX12_init : ByteArray := prog_14_method_1_code
def yX12_init : MethodName := ⟨RX12, "<init>", "()V"⟩
abbrev cX12_is : ByteArray := prog_14_method_2_code
def yX12_is : MethodName := ⟨RX12, "is", "(III)Z"⟩
abbrev cX12_put : ByteArray := prog_14_method_3_code
def yX12_put : MethodName := ⟨RX12, "put", "(I)V"⟩
abbrev cX12_feed : ByteArray := prog_14_method_4_code
def yX12_feed : MethodName := ⟨RX12, "feed", "(IIIII)I"⟩
abbrev cX12_end : ByteArray := prog_14_method_5_code
def yX12_end : MethodName := ⟨RX12, "end", "(I)Z"⟩
abbrev cX12_blame : ByteArray := prog_14_method_6_code
def yX12_blame : MethodName := ⟨RX12, "blame", "(II)V"⟩
abbrev cX12_isLetter : ByteArray := prog_14_method_7_code
def yX12_isLetter : MethodName := ⟨RX12, "isLetter", "(I)Z"⟩
abbrev cX12_isDigit : ByteArray := prog_14_method_8_code
def yX12_isDigit : MethodName := ⟨RX12, "isDigit", "(I)Z"⟩
abbrev cX12_lex : ByteArray := prog_14_method_9_code
def yX12_lex : MethodName := ⟨RX12, "lex", "()V"⟩
abbrev cX12_ahead : ByteArray := prog_14_method_10_code
def yX12_ahead : MethodName := ⟨RX12, "ahead", "()V"⟩
abbrev cX12_isSign : ByteArray := prog_14_method_11_code
def yX12_isSign : MethodName := ⟨RX12, "isSign", "(I)Z"⟩
abbrev cX12_isWord : ByteArray := prog_14_method_12_code
def yX12_isWord : MethodName := ⟨RX12, "isWord", "(J)Z"⟩
abbrev cX12_must : ByteArray := prog_14_method_13_code
def yX12_must : MethodName := ⟨RX12, "must", "(I)V"⟩
abbrev cX12_isOwn : ByteArray := prog_14_method_14_code
def yX12_isOwn : MethodName := ⟨RX12, "isOwn", "(J)Z"⟩
abbrev cX12_number : ByteArray := prog_14_method_15_code
def yX12_number : MethodName := ⟨RX12, "number", "(II)I"⟩
abbrev cX12_isCounted : ByteArray := prog_14_method_16_code
def yX12_isCounted : MethodName := ⟨RX12, "isCounted", "(Z)Z"⟩
abbrev cX12_kindNamed : ByteArray := prog_14_method_17_code
def yX12_kindNamed : MethodName := ⟨RX12, "kindNamed", "(J)I"⟩
abbrev cX12_conNamed : ByteArray := prog_14_method_18_code
def yX12_conNamed : MethodName := ⟨RX12, "conNamed", "(IJ)I"⟩
abbrev cX12_valuesOf : ByteArray := prog_14_method_19_code
def yX12_valuesOf : MethodName := ⟨RX12, "valuesOf", "(II)I"⟩
abbrev cX12_fresh : ByteArray := prog_14_method_20_code
def yX12_fresh : MethodName := ⟨RX12, "fresh", "()J"⟩
abbrev cX12_kindIs : ByteArray := prog_14_method_21_code
def yX12_kindIs : MethodName := ⟨RX12, "kindIs", "()V"⟩
abbrev cX12_known : ByteArray := prog_14_method_22_code
def yX12_known : MethodName := ⟨RX12, "known", "(I)I"⟩
abbrev cX12_isKindHere : ByteArray := prog_14_method_23_code
def yX12_isKindHere : MethodName := ⟨RX12, "isKindHere", "()Z"⟩
abbrev cX12_conIs : ByteArray := prog_14_method_24_code
def yX12_conIs : MethodName := ⟨RX12, "conIs", "()V"⟩
abbrev cX12_matchIs : ByteArray := prog_14_method_25_code
def yX12_matchIs : MethodName := ⟨RX12, "matchIs", "()V"⟩
abbrev cX12_emits : ByteArray := prog_14_method_26_code
def yX12_emits : MethodName := ⟨RX12, "emits", "(III)V"⟩
abbrev cX12_opensPattern : ByteArray := prog_14_method_27_code
def yX12_opensPattern : MethodName := ⟨RX12, "opensPattern", "(I)V"⟩
abbrev cX12_fieldBegins : ByteArray := prog_14_method_28_code
def yX12_fieldBegins : MethodName := ⟨RX12, "fieldBegins", "(II)V"⟩
abbrev cX12_range : ByteArray := prog_14_method_29_code
def yX12_range : MethodName := ⟨RX12, "range", "()V"⟩
abbrev cX12_alternative : ByteArray := prog_14_method_30_code
def yX12_alternative : MethodName := ⟨RX12, "alternative", "()Z"⟩
abbrev cX12_goesOn : ByteArray := prog_14_method_31_code
def yX12_goesOn : MethodName := ⟨RX12, "goesOn", "(I)Z"⟩
abbrev cX12_pattern : ByteArray := prog_14_method_32_code
def yX12_pattern : MethodName := ⟨RX12, "pattern", "(I)V"⟩
abbrev cX12_armIs : ByteArray := prog_14_method_33_code
def yX12_armIs : MethodName := ⟨RX12, "armIs", "()V"⟩
abbrev cX12_ruleIs : ByteArray := prog_14_method_34_code
def yX12_ruleIs : MethodName := ⟨RX12, "ruleIs", "()V"⟩
abbrev cX12_budgetIs : ByteArray := prog_14_method_35_code
def yX12_budgetIs : MethodName := ⟨RX12, "budgetIs", "()V"⟩
abbrev cX12_statement : ByteArray := prog_14_method_36_code
def yX12_statement : MethodName := ⟨RX12, "statement", "()V"⟩
abbrev cX12_finishes : ByteArray := prog_14_method_37_code
def yX12_finishes : MethodName := ⟨RX12, "finishes", "(I)V"⟩
abbrev cX12_match : ByteArray := prog_14_method_38_code
def yX12_match : MethodName := ⟨RX12, "match", "()I"⟩
abbrev cX12_fault : ByteArray := prog_14_method_39_code
def yX12_fault : MethodName := ⟨RX12, "fault", "(I)I"⟩
abbrev cX12_refuses : ByteArray := prog_14_method_40_code
def yX12_refuses : MethodName := ⟨RX12, "refuses", "(I)I"⟩
abbrev cX12_status : ByteArray := prog_14_method_41_code
def yX12_status : MethodName := ⟨RX12, "status", "(I)I"⟩
abbrev cX12_fieldOf : ByteArray := prog_14_method_42_code
def yX12_fieldOf : MethodName := ⟨RX12, "fieldOf", "(III)I"⟩
abbrev cX12_isFitting : ByteArray := prog_14_method_43_code
def yX12_isFitting : MethodName := ⟨RX12, "isFitting", "(III)Z"⟩
abbrev cX12_columns : ByteArray := prog_14_method_44_code
def yX12_columns : MethodName := ⟨RX12, "columns", "()I"⟩
abbrev cX12_columnValues : ByteArray := prog_14_method_45_code
def yX12_columnValues : MethodName := ⟨RX12, "columnValues", "(I)I"⟩
abbrev cX12_lays : ByteArray := prog_14_method_46_code
def yX12_lays : MethodName := ⟨RX12, "lays", "()V"⟩
abbrev cX12_copies : ByteArray := prog_14_method_47_code
def yX12_copies : MethodName := ⟨RX12, "copies", "(II)V"⟩
abbrev cX12_begin : ByteArray := prog_14_method_48_code
def yX12_begin : MethodName := ⟨RX12, "begin", "()V"⟩
abbrev cX12_slot : ByteArray := prog_14_method_49_code
def yX12_slot : MethodName := ⟨RX12, "slot", "(I)I"⟩
abbrev cX12_keeps : ByteArray := prog_14_method_50_code
def yX12_keeps : MethodName := ⟨RX12, "keeps", "()V"⟩
abbrev cX12_undo : ByteArray := prog_14_method_51_code
def yX12_undo : MethodName := ⟨RX12, "undo", "()Z"⟩
abbrev cX12_placed : ByteArray := prog_14_method_52_code
def yX12_placed : MethodName := ⟨RX12, "placed", "(II)I"⟩
abbrev cX12_arranges : ByteArray := prog_14_method_53_code
def yX12_arranges : MethodName := ⟨RX12, "arranges", "(I)V"⟩
abbrev cX12_openBy : ByteArray := prog_14_method_54_code
def yX12_openBy : MethodName := ⟨RX12, "openBy", "(I)I"⟩
abbrev cX12_lowest : ByteArray := prog_14_method_55_code
def yX12_lowest : MethodName := ⟨RX12, "lowest", "(I)I"⟩
abbrev cX12_bitsOf : ByteArray := prog_14_method_56_code
def yX12_bitsOf : MethodName := ⟨RX12, "bitsOf", "(I)I"⟩
abbrev cX12_valuesIn : ByteArray := prog_14_method_57_code
def yX12_valuesIn : MethodName := ⟨RX12, "valuesIn", "(I)V"⟩
abbrev cX12_setIn : ByteArray := prog_14_method_58_code
def yX12_setIn : MethodName := ⟨RX12, "setIn", "(II)I"⟩
abbrev cX12_fitting : ByteArray := prog_14_method_59_code
def yX12_fitting : MethodName := ⟨RX12, "fitting", "(I)I"⟩
abbrev cX12_countsRows : ByteArray := prog_14_method_60_code
def yX12_countsRows : MethodName := ⟨RX12, "countsRows", "()V"⟩
abbrev cX12_has : ByteArray := prog_14_method_61_code
def yX12_has : MethodName := ⟨RX12, "has", "(I)I"⟩
abbrev cX12_lettersOf : ByteArray := prog_14_method_62_code
def yX12_lettersOf : MethodName := ⟨RX12, "lettersOf", "(J)I"⟩
abbrev cX12_letter : ByteArray := prog_14_method_63_code
def yX12_letter : MethodName := ⟨RX12, "letter", "(III)I"⟩
abbrev cX12_values : ByteArray := prog_14_method_64_code
def yX12_values : MethodName := ⟨RX12, "values", "(I)I"⟩
abbrev cX12_isPlace : ByteArray := prog_14_method_65_code
def yX12_isPlace : MethodName := ⟨RX12, "isPlace", "(I)Z"⟩
abbrev cX12_fittingRows : ByteArray := prog_14_method_66_code
def yX12_fittingRows : MethodName := ⟨RX12, "fittingRows", "(I)I"⟩
abbrev cX12_isUseful : ByteArray := prog_14_method_67_code
def yX12_isUseful : MethodName := ⟨RX12, "isUseful", "(I)I"⟩
abbrev cX12_takenRows : ByteArray := prog_14_method_68_code
def yX12_takenRows : MethodName := ⟨RX12, "takenRows", "(I)I"⟩
abbrev cX12_arm : ByteArray := prog_14_method_69_code
def yX12_arm : MethodName := ⟨RX12, "arm", "(II)I"⟩
abbrev cX12_fits : ByteArray := prog_14_method_70_code
def yX12_fits : MethodName := ⟨RX12, "fits", "(III)I"⟩
abbrev cX12_holds : ByteArray := prog_14_method_71_code
def yX12_holds : MethodName := ⟨RX12, "holds", "(II)I"⟩
abbrev cX12_missing : ByteArray := prog_14_method_72_code
def yX12_missing : MethodName := ⟨RX12, "missing", "(I)I"⟩
abbrev cX12_isRow : ByteArray := prog_14_method_73_code
def yX12_isRow : MethodName := ⟨RX12, "isRow", "(I)Z"⟩
abbrev cX12_taken : ByteArray := prog_14_method_74_code
def yX12_taken : MethodName := ⟨RX12, "taken", "(I)I"⟩
abbrev cX12_valueRead : ByteArray := prog_14_method_75_code
def yX12_valueRead : MethodName := ⟨RX12, "valueRead", "(I)I"⟩
abbrev cX12_conRead : ByteArray := prog_14_method_76_code
def yX12_conRead : MethodName := ⟨RX12, "conRead", "(I)I"⟩
abbrev cX12_isMoreOf : ByteArray := prog_14_method_77_code
def yX12_isMoreOf : MethodName := ⟨RX12, "isMoreOf", "(I)Z"⟩
abbrev cX12_row : ByteArray := prog_14_method_78_code
def yX12_row : MethodName := ⟨RX12, "row", "()I"⟩
abbrev cX12_writes : ByteArray := prog_14_method_79_code
def yX12_writes : MethodName := ⟨RX12, "writes", "(I)V"⟩
abbrev cX12_writesName : ByteArray := prog_14_method_80_code
def yX12_writesName : MethodName := ⟨RX12, "writesName", "(J)V"⟩
abbrev cX12_later : ByteArray := prog_14_method_81_code
def yX12_later : MethodName := ⟨RX12, "later", "(II)V"⟩
abbrev cX12_conOf : ByteArray := prog_14_method_82_code
def yX12_conOf : MethodName := ⟨RX12, "conOf", "(II)I"⟩
abbrev cX12_writesValue : ByteArray := prog_14_method_83_code
def yX12_writesValue : MethodName := ⟨RX12, "writesValue", "(II)V"⟩
abbrev cX12_text : ByteArray := prog_14_method_84_code
def yX12_text : MethodName := ⟨RX12, "text", "(I)I"⟩
abbrev cX12_octet : ByteArray := prog_14_method_85_code
def yX12_octet : MethodName := ⟨RX12, "octet", "(I)I"⟩
abbrev cX12_leftOf : ByteArray := prog_14_method_86_code
def yX12_leftOf : MethodName := ⟨RX12, "leftOf", "(II)I"⟩
abbrev cX12_armsIn : ByteArray := prog_14_method_87_code
def yX12_armsIn : MethodName := ⟨RX12, "armsIn", "(I)I"⟩
abbrev cX12_columnsIn : ByteArray := prog_14_method_88_code
def yX12_columnsIn : MethodName := ⟨RX12, "columnsIn", "(I)I"⟩
abbrev cX12_worthOf : ByteArray := prog_14_method_90_code
def yX12_worthOf : MethodName := ⟨RX12, "worthOf", "(II)I"⟩
abbrev cX12_asksFor : ByteArray := prog_14_method_91_code
def yX12_asksFor : MethodName := ⟨RX12, "asksFor", "(I)I"⟩
abbrev cX12_isDoor : ByteArray := prog_14_method_92_code
def yX12_isDoor : MethodName := ⟨RX12, "isDoor", "(I)Z"⟩
abbrev cX12_throughDoor : ByteArray := prog_14_method_93_code
def yX12_throughDoor : MethodName := ⟨RX12, "throughDoor", "(I)I"⟩
abbrev cX12_branchOf : ByteArray := prog_14_method_94_code
def yX12_branchOf : MethodName := ⟨RX12, "branchOf", "(III)I"⟩
abbrev cX12_root : ByteArray := prog_14_method_95_code
def yX12_root : MethodName := ⟨RX12, "root", "()I"⟩
abbrev cX12_plants : ByteArray := prog_14_method_96_code
def yX12_plants : MethodName := ⟨RX12, "plants", "(II)V"⟩
abbrev cX12_testsFor : ByteArray := prog_14_method_97_code
def yX12_testsFor : MethodName := ⟨RX12, "testsFor", "(II)I"⟩
abbrev cX12_allTests : ByteArray := prog_14_method_98_code
def yX12_allTests : MethodName := ⟨RX12, "allTests", "(I)I"⟩
abbrev cX12_reaches : ByteArray := prog_14_method_99_code
def yX12_reaches : MethodName := ⟨RX12, "reaches", "(I)V"⟩
abbrev cX12_grows : ByteArray := prog_14_method_100_code
def yX12_grows : MethodName := ⟨RX12, "grows", "()V"⟩
abbrev cX12_weighs : ByteArray := prog_14_method_101_code
def yX12_weighs : MethodName := ⟨RX12, "weighs", "(I)V"⟩
abbrev cX12_sizeOf : ByteArray := prog_14_method_102_code
def yX12_sizeOf : MethodName := ⟨RX12, "sizeOf", "(I)I"⟩
abbrev cX12_tree : ByteArray := prog_14_method_103_code
def yX12_tree : MethodName := ⟨RX12, "tree", "(II)I"⟩
abbrev cX12_first : ByteArray := prog_14_method_104_code
def yX12_first : MethodName := ⟨RX12, "first", "(I)I"⟩
abbrev cX12_isNewSet : ByteArray := prog_14_method_105_code
def yX12_isNewSet : MethodName := ⟨RX12, "isNewSet", "(III)Z"⟩
abbrev cX12_nextBranch : ByteArray := prog_14_method_106_code
def yX12_nextBranch : MethodName := ⟨RX12, "nextBranch", "(I)I"⟩
abbrev cX12_opensScope : ByteArray := prog_14_method_107_code
def yX12_opensScope : MethodName := ⟨RX12, "opensScope", "(II)V"⟩
abbrev cX12_builds : ByteArray := prog_14_method_108_code
def yX12_builds : MethodName := ⟨RX12, "builds", "()V"⟩
abbrev cX12_scopes : ByteArray := prog_14_method_109_code
def yX12_scopes : MethodName := ⟨RX12, "scopes", "(III)I"⟩
abbrev cX12_swapped : ByteArray := prog_14_method_110_code
def yX12_swapped : MethodName := ⟨RX12, "swapped", "(III)I"⟩
abbrev cX12_moved : ByteArray := prog_14_method_111_code
def yX12_moved : MethodName := ⟨RX12, "moved", "(III)I"⟩
abbrev cX12_isSafe : ByteArray := prog_14_method_112_code
def yX12_isSafe : MethodName := ⟨RX12, "isSafe", "(II)Z"⟩
abbrev cX12_safe : ByteArray := prog_14_method_113_code
def yX12_safe : MethodName := ⟨RX12, "safe", "(II)I"⟩
abbrev cX12_exchanges : ByteArray := prog_14_method_114_code
def yX12_exchanges : MethodName := ⟨RX12, "exchanges", "(III)V"⟩
abbrev cX12_best : ByteArray := prog_14_method_115_code
def yX12_best : MethodName := ⟨RX12, "best", "(I)I"⟩
abbrev cX12_see : ByteArray := prog_14_method_116_code
def yX12_see : MethodName := ⟨RX12, "see", "()I"⟩
abbrev cX12_leaves : ByteArray := prog_14_method_117_code
def yX12_leaves : MethodName := ⟨RX12, "leaves", "()I"⟩
abbrev cX12_sets : ByteArray := prog_14_method_118_code
def yX12_sets : MethodName := ⟨RX12, "sets", "(I)I"⟩
abbrev cX12_mostBy : ByteArray := prog_14_method_119_code
def yX12_mostBy : MethodName := ⟨RX12, "mostBy", "(I)I"⟩
abbrev cX12_tells : ByteArray := prog_14_method_120_code
def yX12_tells : MethodName := ⟨RX12, "tells", "(I)I"⟩
abbrev cX12_runs : ByteArray := prog_14_method_121_code
def yX12_runs : MethodName := ⟨RX12, "runs", "(I)I"⟩
abbrev cX12_run : ByteArray := prog_14_method_122_code
def yX12_run : MethodName := ⟨RX12, "run", "(I)I"⟩
abbrev cX12_draw : ByteArray := prog_14_method_123_code
def yX12_draw : MethodName := ⟨RX12, "draw", "(I)I"⟩
abbrev cX12_chance : ByteArray := prog_14_method_124_code
def yX12_chance : MethodName := ⟨RX12, "chance", "(I)I"⟩
abbrev cX12_swap : ByteArray := prog_14_method_125_code
def yX12_swap : MethodName := ⟨RX12, "swap", "(II)Z"⟩
abbrev cX12_drop : ByteArray := prog_14_method_126_code
def yX12_drop : MethodName := ⟨RX12, "drop", "(I)Z"⟩
abbrev cX12_turn : ByteArray := prog_14_method_127_code
def yX12_turn : MethodName := ⟨RX12, "turn", "(I)I"⟩
abbrev cX12_choose : ByteArray := prog_14_method_128_code
def yX12_choose : MethodName := ⟨RX12, "choose", "(I)Z"⟩
abbrev cX12_seed : ByteArray := prog_14_method_129_code
def yX12_seed : MethodName := ⟨RX12, "seed", "(I)Z"⟩
abbrev cX12_kept : ByteArray := prog_14_method_130_code
def yX12_kept : MethodName := ⟨RX12, "kept", "(II)I"⟩
abbrev cX12_image : ByteArray := prog_14_method_131_code
def yX12_image : MethodName := ⟨RX12, "image", "()I"⟩
abbrev cX12_comesOn : ByteArray := prog_14_method_132_code
def yX12_comesOn : MethodName := ⟨RX12, "comesOn", "(I)Z"⟩
abbrev cX12_on : ByteArray := prog_14_method_133_code
def yX12_on : MethodName := ⟨RX12, "on", "()Z"⟩
def RJ6 : String := "java/lang/Integer"
def TJ6 : u_T := fun k => match k with
  | _ => ("", "", "", false)
def tyJ6 : Nat → FieldType := fun k => match k with
  | _ => .int
abbrev wsJ60 : List Cond := u_ws RJ6 TJ6 0
theorem nmJ6 : ∀ a, a < 0 → ∀ b, b < 0 → a ≠ b → (TJ6 a).2.1 ≠ (TJ6 b).2.1 := by decide +kernel
theorem tyJ6_ok : ∀ k, k < 0 → parseFieldDescriptor (TJ6 k).2.2.1 = some (tyJ6 k) := by decide +kernel
abbrev cJ6_bitCount_0f7a4 : ByteArray := prog_15_method_49_code
def yJ6_bitCount_0f7a4 : MethodName := ⟨RJ6, "bitCount", "(I)I"⟩
def RJ9 : String := "java/lang/Math"
def TJ9 : u_T := fun k => match k with
  | _ => ("", "", "", false)
def tyJ9 : Nat → FieldType := fun k => match k with
  | _ => .int
abbrev wsJ90 : List Cond := u_ws RJ9 TJ9 0
theorem nmJ9 : ∀ a, a < 0 → ∀ b, b < 0 → a ≠ b → (TJ9 a).2.1 ≠ (TJ9 b).2.1 := by decide +kernel
theorem tyJ9_ok : ∀ k, k < 0 → parseFieldDescriptor (TJ9 k).2.2.1 = some (tyJ9 k) := by decide +kernel
abbrev cJ9_floorMod_7cf53 : ByteArray := prog_16_method_50_code
def yJ9_floorMod_7cf53 : MethodName := ⟨RJ9, "floorMod", "(II)I"⟩
abbrev cJ9_max_7cf53 : ByteArray := prog_16_method_65_code
def yJ9_max_7cf53 : MethodName := ⟨RJ9, "max", "(II)I"⟩
abbrev cJ9_min_7cf53 : ByteArray := prog_16_method_69_code
def yJ9_min_7cf53 : MethodName := ⟨RJ9, "min", "(II)I"⟩
def RJ0 : String := "java/lang/String"
def TJ0 : u_T := fun k => match k with
  | _ => ("", "", "", false)
def tyJ0 : Nat → FieldType := fun k => match k with
  | _ => .int
abbrev wsJ00 : List Cond := u_ws RJ0 TJ0 0
theorem nmJ0 : ∀ a, a < 0 → ∀ b, b < 0 → a ≠ b → (TJ0 a).2.1 ≠ (TJ0 b).2.1 := by decide +kernel
theorem tyJ0_ok : ∀ k, k < 0 → parseFieldDescriptor (TJ0 k).2.2.1 = some (tyJ0 k) := by decide +kernel
abbrev cJ0_length_8abf5 : ByteArray := prog_17_method_54_code
def yJ0_length_8abf5 : MethodName := ⟨RJ0, "length", "()I"⟩
abbrev cJ0_charAt_5068e : ByteArray := prog_17_method_56_code
def yJ0_charAt_5068e : MethodName := ⟨RJ0, "charAt", "(I)C"⟩
abbrev cJ0_coder_7d493 : ByteArray := prog_17_method_152_code
def yJ0_coder_7d493 : MethodName := ⟨RJ0, "coder", "()B"⟩
abbrev cJ0_isLatin1_aae02 : ByteArray := prog_17_method_154_code
def yJ0_isLatin1_aae02 : MethodName := ⟨RJ0, "isLatin1", "()Z"⟩
abbrev cJ0_checkIndex_df160 : ByteArray := prog_17_method_155_code
def yJ0_checkIndex_df160 : MethodName := ⟨RJ0, "checkIndex", "(II)V"⟩
def RJ1 : String := "java/lang/StringLatin1"
def TJ1 : u_T := fun k => match k with
  | _ => ("", "", "", false)
def tyJ1 : Nat → FieldType := fun k => match k with
  | _ => .int
abbrev wsJ10 : List Cond := u_ws RJ1 TJ1 0
theorem nmJ1 : ∀ a, a < 0 → ∀ b, b < 0 → a ≠ b → (TJ1 a).2.1 ≠ (TJ1 b).2.1 := by decide +kernel
theorem tyJ1_ok : ∀ k, k < 0 → parseFieldDescriptor (TJ1 k).2.2.1 = some (tyJ1 k) := by decide +kernel
abbrev cJ1_charAt_3b067 : ByteArray := prog_18_method_2_code
def yJ1_charAt_3b067 : MethodName := ⟨RJ1, "charAt", "([BI)C"⟩
def RJ2 : String := "java/lang/StringUTF16"
def TJ2 : u_T := fun k => match k with
  | _ => ("", "", "", false)
def tyJ2 : Nat → FieldType := fun k => match k with
  | _ => .int
abbrev wsJ20 : List Cond := u_ws RJ2 TJ2 0
theorem nmJ2 : ∀ a, a < 0 → ∀ b, b < 0 → a ≠ b → (TJ2 a).2.1 ≠ (TJ2 b).2.1 := by decide +kernel
theorem tyJ2_ok : ∀ k, k < 0 → parseFieldDescriptor (TJ2 k).2.2.1 = some (tyJ2 k) := by decide +kernel
abbrev cJ2_getChar_3b067 : ByteArray := prog_19_method_5_code
def yJ2_getChar_3b067 : MethodName := ⟨RJ2, "getChar", "([BI)C"⟩
abbrev cJ2_length_9d52b : ByteArray := prog_19_method_6_code
def yJ2_length_9d52b : MethodName := ⟨RJ2, "length", "([B)I"⟩
abbrev cJ2_charAt_3b067 : ByteArray := prog_19_method_83_code
def yJ2_charAt_3b067 : MethodName := ⟨RJ2, "charAt", "([BI)C"⟩
abbrev cJ2_checkIndex_2214a : ByteArray := prog_19_method_91_code
def yJ2_checkIndex_2214a : MethodName := ⟨RJ2, "checkIndex", "(I[B)V"⟩
def RJ3 : String := "jdk/internal/util/Preconditions"
def TJ3 : u_T := fun k => match k with
  | _ => ("", "", "", false)
def tyJ3 : Nat → FieldType := fun k => match k with
  | _ => .int
abbrev wsJ30 : List Cond := u_ws RJ3 TJ3 0
theorem nmJ3 : ∀ a, a < 0 → ∀ b, b < 0 → a ≠ b → (TJ3 a).2.1 ≠ (TJ3 b).2.1 := by decide +kernel
theorem tyJ3_ok : ∀ k, k < 0 → parseFieldDescriptor (TJ3 k).2.2.1 = some (tyJ3 k) := by decide +kernel
abbrev cJ3_checkIndex_8e157 : ByteArray := prog_20_method_11_code
def yJ3_checkIndex_8e157 : MethodName := ⟨RJ3, "checkIndex", "(IILjava/util/function/BiFunction;)I"⟩
def RL : String := "MatchTreesLaw"
abbrev cL_law : ByteArray := code
def yL_law : MethodName := ⟨RL, "law", "([I)Z"⟩
def wsX5_init : List Cond := .code yX5_init cX5_init 1 none :: ([.methodLink RX5 3 objectInit, .instanceMethod objectInit, .code objectInit ⟨#[0xb1]⟩ 1 none, .arrayClass .int, .fieldLink RX5 9 "MatchTrees$Order" "arm" "[I"] ++ wsX50)
def wsX0_init : List Cond := .code yX0_init cX0_init 2 none :: ([.methodLink RX0 3 objectInit, .instanceMethod objectInit, .code objectInit ⟨#[0xb1]⟩ 1 none, .arrayClass .int, .fieldLink RX0 9 "MatchTrees$Acts" "row" "[I", .fieldLink RX0 15 "MatchTrees$Acts" "arm" "[I", .fieldLink RX0 18 "MatchTrees$Acts" "asked" "[I", .classLink RX0 21 RX5, .fieldLink RX0 23 "MatchTrees$Acts" "orderAhead" "[LMatchTrees$Order;", .fieldLink RX0 27 "MatchTrees$Acts" "keptAhead" "[I", .instantiable RX5 4, .initialized RX5, .instanceMethod yX5_init, .code yX5_init cX5_init 1 none, .methodLink RX5 3 objectInit, .fieldLink RX5 9 "MatchTrees$Order" "arm" "[I"] ++ wsX00 ++ wsX50)
def wsX0_keptTold : List Cond := .code yX0_keptTold cX0_keptTold 1 (some .int) :: ([.fieldLink RX0 31 "MatchTrees$Acts" "keptRows" "I", .methodLink RX0 38 Lib.Math.min.name, .static Lib.Math.min.name, .initialized "java/lang/Math", .code Lib.Math.min.name Lib.Math.min.code 2 (some .int)] ++ wsX00)
def wsX0_tellKept : List Cond := .code yX0_tellKept cX0_tellKept 4 (some .int) :: ([.fieldLink RX0 31 "MatchTrees$Acts" "keptRows" "I", .fieldLink RX0 9 "MatchTrees$Acts" "row" "[I", .fieldLink RX0 15 "MatchTrees$Acts" "arm" "[I", .fieldLink RX0 18 "MatchTrees$Acts" "asked" "[I", .methodLink RX0 47 yX0_keptTold, .instanceMethod yX0_keptTold, .selects RX0 yX0_keptTold yX0_keptTold, .initialized RX0, .code yX0_keptTold cX0_keptTold 1 (some .int), .methodLink RX0 38 Lib.Math.min.name, .static Lib.Math.min.name, .initialized "java/lang/Math", .code Lib.Math.min.name Lib.Math.min.code 2 (some .int), .methodLink RX0 44 yJ9_floorMod_7cf53, .static yJ9_floorMod_7cf53, .initialized RJ9, .code yJ9_floorMod_7cf53 cJ9_floorMod_7cf53 3 (some .int)] ++ wsX00)
def wsX1_init : List Cond := .code yX1_init cX1_init 2 none :: ([.methodLink RX1 3 objectInit, .instanceMethod objectInit, .code objectInit ⟨#[0xb1]⟩ 1 none, .methodLink RX1 9 Lib.Math.max.name, .static Lib.Math.max.name, .initialized "java/lang/Math", .code Lib.Math.max.name Lib.Math.max.code 2 (some .int), .arrayClass .int, .fieldLink RX1 15 "MatchTrees$Bytes" "bytes" "[I"] ++ wsX10)
def wsX1_add : List Cond := .code yX1_add cX1_add 2 none :: ([.fieldLink RX1 21 "MatchTrees$Bytes" "length" "I", .fieldLink RX1 15 "MatchTrees$Bytes" "bytes" "[I"] ++ wsX10)
def wsX1_addFour : List Cond := .code yX1_addFour cX1_addFour 2 none :: ([.methodLink RX1 25 yX1_add, .instanceMethod yX1_add, .selects RX1 yX1_add yX1_add, .initialized RX1, .code yX1_add cX1_add 2 none, .fieldLink RX1 21 "MatchTrees$Bytes" "length" "I", .fieldLink RX1 15 "MatchTrees$Bytes" "bytes" "[I"] ++ wsX10)
def wsX1_byteAt : List Cond := .code yX1_byteAt cX1_byteAt 2 (some .int) :: ([.fieldLink RX1 21 "MatchTrees$Bytes" "length" "I", .fieldLink RX1 15 "MatchTrees$Bytes" "bytes" "[I"] ++ wsX10)
def wsX1_checkByte : List Cond := .code yX1_checkByte cX1_checkByte 4 (some .int) :: ([.fieldLink RX1 15 "MatchTrees$Bytes" "bytes" "[I"] ++ wsX10)
def wsX2_init : List Cond := .code yX2_init cX2_init 3 none :: ([.methodLink RX2 3 objectInit, .instanceMethod objectInit, .code objectInit ⟨#[0xb1]⟩ 1 none, .methodLink RX2 9 Lib.Math.max.name, .static Lib.Math.max.name, .initialized "java/lang/Math", .code Lib.Math.max.name Lib.Math.max.code 2 (some .int), .arrayClass .int, .fieldLink RX2 15 "MatchTrees$Groups" "arms" "[I", .fieldLink RX2 21 "MatchTrees$Groups" "size" "[I", .fieldLink RX2 24 "MatchTrees$Groups" "marks" "LMatchTrees$Marks;"] ++ wsX20)
def wsX3_init : List Cond := .code yX3_init cX3_init 1 none :: ([.methodLink RX3 3 objectInit, .instanceMethod objectInit, .code objectInit ⟨#[0xb1]⟩ 1 none, .arrayClass .int, .fieldLink RX3 9 "MatchTrees$Kinds" "kindName" "[I", .fieldLink RX3 15 "MatchTrees$Kinds" "firstCon" "[I", .fieldLink RX3 18 "MatchTrees$Kinds" "conCount" "[I", .fieldLink RX3 21 "MatchTrees$Kinds" "size" "[I", .fieldLink RX3 24 "MatchTrees$Kinds" "conName" "[I", .fieldLink RX3 27 "MatchTrees$Kinds" "base" "[I", .fieldLink RX3 30 "MatchTrees$Kinds" "fields" "[I", .fieldLink RX3 33 "MatchTrees$Kinds" "fieldA" "[I", .fieldLink RX3 36 "MatchTrees$Kinds" "fieldB" "[I"] ++ wsX30)
def wsX3_clear : List Cond := .code yX3_clear cX3_clear 1 none :: ([.fieldLink RX3 39 "MatchTrees$Kinds" "kinds" "I", .fieldLink RX3 43 "MatchTrees$Kinds" "cons" "I"] ++ wsX30)
def wsX3_isKind : List Cond := .code yX3_isKind cX3_isKind 2 (some .boolean) :: ([.fieldLink RX3 39 "MatchTrees$Kinds" "kinds" "I"] ++ wsX30)
def wsX3_isCon : List Cond := .code yX3_isCon cX3_isCon 2 (some .boolean) :: ([.fieldLink RX3 43 "MatchTrees$Kinds" "cons" "I"] ++ wsX30)
def wsX4_init : List Cond := .code yX4_init cX4_init 1 none :: ([.methodLink RX4 3 objectInit, .instanceMethod objectInit, .code objectInit ⟨#[0xb1]⟩ 1 none, .arrayClass .int, .fieldLink RX4 9 "MatchTrees$Marks" "time" "[I", .fieldLink RX4 15 "MatchTrees$Marks" "spot" "[I"] ++ wsX40)
def wsX5_isPlace : List Cond := .code yX5_isPlace cX5_isPlace 2 (some .boolean) :: ([.fieldLink RX5 24 "MatchTrees$Order" "count" "I"] ++ wsX50)
def wsX5_armAt : List Cond := .code yX5_armAt cX5_armAt 2 (some .int) :: ([.fieldLink RX5 9 "MatchTrees$Order" "arm" "[I", .methodLink RX5 34 yX5_isPlace, .instanceMethod yX5_isPlace, .selects RX5 yX5_isPlace yX5_isPlace, .initialized RX5, .code yX5_isPlace cX5_isPlace 2 (some .boolean), .fieldLink RX5 24 "MatchTrees$Order" "count" "I"] ++ wsX50)
def wsJ0_coder_7d493 : List Cond := .code yJ0_coder_7d493 cJ0_coder_7d493 1 (some .byte) :: ([.fieldLink RJ0 38 "java/lang/String" "COMPACT_STRINGS" "Z", .fieldLink RJ0 15 "java/lang/String" "coder" "B"])
def wsJ0_length_8abf5 : List Cond := .code yJ0_length_8abf5 cJ0_length_8abf5 1 (some .int) :: ([.fieldLink RJ0 9 "java/lang/String" "value" "[B", .methodLink RJ0 335 yJ0_coder_7d493, .instanceMethod yJ0_coder_7d493, .selects RJ0 yJ0_coder_7d493 yJ0_coder_7d493, .initialized RJ0, .code yJ0_coder_7d493 cJ0_coder_7d493 1 (some .byte), .fieldLink RJ0 38 "java/lang/String" "COMPACT_STRINGS" "Z", .fieldLink RJ0 15 "java/lang/String" "coder" "B"])
def wsJ0_isLatin1_aae02 : List Cond := .code yJ0_isLatin1_aae02 cJ0_isLatin1_aae02 1 (some .boolean) :: ([.fieldLink RJ0 38 "java/lang/String" "COMPACT_STRINGS" "Z", .fieldLink RJ0 15 "java/lang/String" "coder" "B"])
def wsJ3_checkIndex_8e157 : List Cond := .code yJ3_checkIndex_8e157 cJ3_checkIndex_8e157 3 (some .int) :: ([])
def wsJ0_checkIndex_df160 : List Cond := .code yJ0_checkIndex_df160 cJ0_checkIndex_df160 2 none :: ([.fieldLink RJ0 1053 "jdk/internal/util/Preconditions" "SIOOBE_FORMATTER" "Ljava/util/function/BiFunction;", .methodLink RJ0 1059 yJ3_checkIndex_8e157, .static yJ3_checkIndex_8e157, .initialized RJ3, .code yJ3_checkIndex_8e157 cJ3_checkIndex_8e157 3 (some .int)])
def wsJ1_charAt_3b067 : List Cond := .code yJ1_charAt_3b067 cJ1_charAt_3b067 2 (some .char) :: ([.methodLink RJ1 9 yJ0_checkIndex_df160, .static yJ0_checkIndex_df160, .initialized RJ0, .code yJ0_checkIndex_df160 cJ0_checkIndex_df160 2 none, .fieldLink RJ0 1053 "jdk/internal/util/Preconditions" "SIOOBE_FORMATTER" "Ljava/util/function/BiFunction;", .methodLink RJ0 1059 yJ3_checkIndex_8e157, .static yJ3_checkIndex_8e157, .initialized RJ3, .code yJ3_checkIndex_8e157 cJ3_checkIndex_8e157 3 (some .int)])
def wsJ0_charAt_5068e_r1 : List Cond := [Cond.fieldLink RJ0 9 "java/lang/String" "value" "[B", Cond.methodLink RJ0 492 yJ0_isLatin1_aae02, Cond.instanceMethod yJ0_isLatin1_aae02, Cond.selects RJ0 yJ0_isLatin1_aae02 yJ0_isLatin1_aae02, Cond.initialized RJ0, Cond.code yJ0_isLatin1_aae02 cJ0_isLatin1_aae02 1 (some .boolean), Cond.fieldLink RJ0 38 "java/lang/String" "COMPACT_STRINGS" "Z", Cond.fieldLink RJ0 15 "java/lang/String" "coder" "B", Cond.methodLink RJ0 495 yJ1_charAt_3b067, Cond.static yJ1_charAt_3b067, Cond.initialized RJ1, Cond.code yJ1_charAt_3b067 cJ1_charAt_3b067 2 (some .char), Cond.methodLink RJ1 9 yJ0_checkIndex_df160, Cond.static yJ0_checkIndex_df160, Cond.code yJ0_checkIndex_df160 cJ0_checkIndex_df160 2 none, Cond.fieldLink RJ0 1053 "jdk/internal/util/Preconditions" "SIOOBE_FORMATTER" "Ljava/util/function/BiFunction;", Cond.methodLink RJ0 1059 yJ3_checkIndex_8e157, Cond.static yJ3_checkIndex_8e157, Cond.initialized RJ3, Cond.code yJ3_checkIndex_8e157 cJ3_checkIndex_8e157 3 (some .int), Cond.methodLink RJ0 498 yJ2_charAt_3b067, Cond.static yJ2_charAt_3b067, Cond.initialized RJ2, Cond.code yJ2_charAt_3b067 cJ2_charAt_3b067 2 (some .char)]
def wsJ0_charAt_5068e_r2 : List Cond := [Cond.methodLink RJ2 67 yJ2_checkIndex_2214a, Cond.static yJ2_checkIndex_2214a, Cond.code yJ2_checkIndex_2214a cJ2_checkIndex_2214a 2 none, Cond.methodLink RJ2 48 yJ2_length_9d52b, Cond.static yJ2_length_9d52b, Cond.code yJ2_length_9d52b cJ2_length_9d52b 1 (some .int), Cond.methodLink RJ2 414 yJ0_checkIndex_df160, Cond.methodLink RJ2 71 yJ2_getChar_3b067, Cond.static yJ2_getChar_3b067, Cond.code yJ2_getChar_3b067 cJ2_getChar_3b067 2 (some .char), Cond.fieldLink RJ2 44 "java/lang/StringUTF16" "$assertionsDisabled" "Z", Cond.fieldLink RJ2 59 "java/lang/StringUTF16" "HI_BYTE_SHIFT" "I", Cond.fieldLink RJ2 63 "java/lang/StringUTF16" "LO_BYTE_SHIFT" "I"]
def wsJ0_charAt_5068e : List Cond := .code yJ0_charAt_5068e cJ0_charAt_5068e 2 (some .char) :: ((wsJ0_charAt_5068e_r1 ++ wsJ0_charAt_5068e_r2))
def wsX7_spell_r1 : List Cond := [Cond.methodLink RX7 44 yJ0_length_8abf5, Cond.instanceMethod yJ0_length_8abf5, Cond.selects RJ0 yJ0_length_8abf5 yJ0_length_8abf5, Cond.initialized RJ0, Cond.code yJ0_length_8abf5 cJ0_length_8abf5 1 (some .int), Cond.fieldLink RJ0 9 "java/lang/String" "value" "[B", Cond.methodLink RJ0 335 yJ0_coder_7d493, Cond.instanceMethod yJ0_coder_7d493, Cond.selects RJ0 yJ0_coder_7d493 yJ0_coder_7d493, Cond.code yJ0_coder_7d493 cJ0_coder_7d493 1 (some .byte), Cond.fieldLink RJ0 38 "java/lang/String" "COMPACT_STRINGS" "Z", Cond.fieldLink RJ0 15 "java/lang/String" "coder" "B", Cond.methodLink RX7 50 yJ0_charAt_5068e, Cond.instanceMethod yJ0_charAt_5068e, Cond.selects RJ0 yJ0_charAt_5068e yJ0_charAt_5068e, Cond.code yJ0_charAt_5068e cJ0_charAt_5068e 2 (some .char), Cond.methodLink RJ0 492 yJ0_isLatin1_aae02, Cond.instanceMethod yJ0_isLatin1_aae02, Cond.selects RJ0 yJ0_isLatin1_aae02 yJ0_isLatin1_aae02, Cond.code yJ0_isLatin1_aae02 cJ0_isLatin1_aae02 1 (some .boolean), Cond.methodLink RJ0 495 yJ1_charAt_3b067, Cond.static yJ1_charAt_3b067, Cond.initialized RJ1, Cond.code yJ1_charAt_3b067 cJ1_charAt_3b067 2 (some .char)]
def wsX7_spell_r2 : List Cond := [Cond.methodLink RJ1 9 yJ0_checkIndex_df160, Cond.static yJ0_checkIndex_df160, Cond.code yJ0_checkIndex_df160 cJ0_checkIndex_df160 2 none, Cond.fieldLink RJ0 1053 "jdk/internal/util/Preconditions" "SIOOBE_FORMATTER" "Ljava/util/function/BiFunction;", Cond.methodLink RJ0 1059 yJ3_checkIndex_8e157, Cond.static yJ3_checkIndex_8e157, Cond.initialized RJ3, Cond.code yJ3_checkIndex_8e157 cJ3_checkIndex_8e157 3 (some .int), Cond.methodLink RJ0 498 yJ2_charAt_3b067, Cond.static yJ2_charAt_3b067, Cond.initialized RJ2, Cond.code yJ2_charAt_3b067 cJ2_charAt_3b067 2 (some .char), Cond.methodLink RJ2 67 yJ2_checkIndex_2214a, Cond.static yJ2_checkIndex_2214a, Cond.code yJ2_checkIndex_2214a cJ2_checkIndex_2214a 2 none, Cond.methodLink RJ2 48 yJ2_length_9d52b, Cond.static yJ2_length_9d52b, Cond.code yJ2_length_9d52b cJ2_length_9d52b 1 (some .int), Cond.methodLink RJ2 414 yJ0_checkIndex_df160, Cond.methodLink RJ2 71 yJ2_getChar_3b067, Cond.static yJ2_getChar_3b067, Cond.code yJ2_getChar_3b067 cJ2_getChar_3b067 2 (some .char), Cond.fieldLink RJ2 44 "java/lang/StringUTF16" "$assertionsDisabled" "Z", Cond.fieldLink RJ2 59 "java/lang/StringUTF16" "HI_BYTE_SHIFT" "I"]
def wsX7_spell_r3 : List Cond := [Cond.fieldLink RJ2 63 "java/lang/StringUTF16" "LO_BYTE_SHIFT" "I"]
def wsX7_spell : List Cond := .code yX7_spell cX7_spell 3 (some .int) :: ((wsX7_spell_r1 ++ (wsX7_spell_r2 ++ wsX7_spell_r3)))
def wsX7_init_r1 : List Cond := [Cond.methodLink RX7 3 objectInit, Cond.instanceMethod objectInit, Cond.code objectInit ⟨#[0xb1]⟩ 1 none, Cond.arrayClass .int, Cond.fieldLink RX7 37 "MatchTrees$Scanner" "ownWords" "[I", Cond.fieldLink RX7 41 "MatchTrees$Scanner" "text" "[I", Cond.methodLink RX7 11 yX7_spell, Cond.static yX7_spell, Cond.initialized RX7, Cond.code yX7_spell cX7_spell 3 (some .int), Cond.methodLink RX7 44 yJ0_length_8abf5, Cond.instanceMethod yJ0_length_8abf5, Cond.selects RJ0 yJ0_length_8abf5 yJ0_length_8abf5, Cond.initialized RJ0, Cond.code yJ0_length_8abf5 cJ0_length_8abf5 1 (some .int), Cond.fieldLink RJ0 9 "java/lang/String" "value" "[B", Cond.methodLink RJ0 335 yJ0_coder_7d493, Cond.instanceMethod yJ0_coder_7d493, Cond.selects RJ0 yJ0_coder_7d493 yJ0_coder_7d493, Cond.code yJ0_coder_7d493 cJ0_coder_7d493 1 (some .byte), Cond.fieldLink RJ0 38 "java/lang/String" "COMPACT_STRINGS" "Z", Cond.fieldLink RJ0 15 "java/lang/String" "coder" "B", Cond.methodLink RX7 50 yJ0_charAt_5068e, Cond.instanceMethod yJ0_charAt_5068e]
def wsX7_init_r2 : List Cond := [Cond.selects RJ0 yJ0_charAt_5068e yJ0_charAt_5068e, Cond.code yJ0_charAt_5068e cJ0_charAt_5068e 2 (some .char), Cond.methodLink RJ0 492 yJ0_isLatin1_aae02, Cond.instanceMethod yJ0_isLatin1_aae02, Cond.selects RJ0 yJ0_isLatin1_aae02 yJ0_isLatin1_aae02, Cond.code yJ0_isLatin1_aae02 cJ0_isLatin1_aae02 1 (some .boolean), Cond.methodLink RJ0 495 yJ1_charAt_3b067, Cond.static yJ1_charAt_3b067, Cond.initialized RJ1, Cond.code yJ1_charAt_3b067 cJ1_charAt_3b067 2 (some .char), Cond.methodLink RJ1 9 yJ0_checkIndex_df160, Cond.static yJ0_checkIndex_df160, Cond.code yJ0_checkIndex_df160 cJ0_checkIndex_df160 2 none, Cond.fieldLink RJ0 1053 "jdk/internal/util/Preconditions" "SIOOBE_FORMATTER" "Ljava/util/function/BiFunction;", Cond.methodLink RJ0 1059 yJ3_checkIndex_8e157, Cond.static yJ3_checkIndex_8e157, Cond.initialized RJ3, Cond.code yJ3_checkIndex_8e157 cJ3_checkIndex_8e157 3 (some .int), Cond.methodLink RJ0 498 yJ2_charAt_3b067, Cond.static yJ2_charAt_3b067, Cond.initialized RJ2, Cond.code yJ2_charAt_3b067 cJ2_charAt_3b067 2 (some .char), Cond.methodLink RJ2 67 yJ2_checkIndex_2214a, Cond.static yJ2_checkIndex_2214a]
def wsX7_init_r3 : List Cond := [Cond.code yJ2_checkIndex_2214a cJ2_checkIndex_2214a 2 none, Cond.methodLink RJ2 48 yJ2_length_9d52b, Cond.static yJ2_length_9d52b, Cond.code yJ2_length_9d52b cJ2_length_9d52b 1 (some .int), Cond.methodLink RJ2 414 yJ0_checkIndex_df160, Cond.methodLink RJ2 71 yJ2_getChar_3b067, Cond.static yJ2_getChar_3b067, Cond.code yJ2_getChar_3b067 cJ2_getChar_3b067 2 (some .char), Cond.fieldLink RJ2 44 "java/lang/StringUTF16" "$assertionsDisabled" "Z", Cond.fieldLink RJ2 59 "java/lang/StringUTF16" "HI_BYTE_SHIFT" "I", Cond.fieldLink RJ2 63 "java/lang/StringUTF16" "LO_BYTE_SHIFT" "I"]
def wsX7_init : List Cond := .code yX7_init cX7_init 1 none :: ((wsX7_init_r1 ++ (wsX7_init_r2 ++ wsX7_init_r3)) ++ wsX70)
def wsX6_init_r1 : List Cond := [Cond.methodLink RX6 3 objectInit, Cond.instanceMethod objectInit, Cond.code objectInit ⟨#[0xb1]⟩ 1 none, Cond.classLink RX6 9 RX7, Cond.instantiable RX7 9, Cond.initialized RX7, Cond.fieldLink RX6 12 "MatchTrees$Reader" "scan" "LMatchTrees$Scanner;", Cond.classLink RX6 18 "[[I", Cond.arrayClass .int, Cond.fieldLink RX6 20 "MatchTrees$Reader" "fit" "[[I", Cond.fieldLink RX6 23 "MatchTrees$Reader" "place" "I", Cond.fieldLink RX6 27 "MatchTrees$Reader" "table" "LMatchTrees$Table;", Cond.instanceMethod yX7_init, Cond.code yX7_init cX7_init 1 none, Cond.methodLink RX7 3 objectInit, Cond.fieldLink RX7 37 "MatchTrees$Scanner" "ownWords" "[I", Cond.fieldLink RX7 41 "MatchTrees$Scanner" "text" "[I", Cond.methodLink RX7 11 yX7_spell, Cond.static yX7_spell, Cond.code yX7_spell cX7_spell 3 (some .int), Cond.methodLink RX7 44 yJ0_length_8abf5, Cond.instanceMethod yJ0_length_8abf5, Cond.selects RJ0 yJ0_length_8abf5 yJ0_length_8abf5, Cond.initialized RJ0]
def wsX6_init_r2 : List Cond := [Cond.code yJ0_length_8abf5 cJ0_length_8abf5 1 (some .int), Cond.fieldLink RJ0 9 "java/lang/String" "value" "[B", Cond.methodLink RJ0 335 yJ0_coder_7d493, Cond.instanceMethod yJ0_coder_7d493, Cond.selects RJ0 yJ0_coder_7d493 yJ0_coder_7d493, Cond.code yJ0_coder_7d493 cJ0_coder_7d493 1 (some .byte), Cond.fieldLink RJ0 38 "java/lang/String" "COMPACT_STRINGS" "Z", Cond.fieldLink RJ0 15 "java/lang/String" "coder" "B", Cond.methodLink RX7 50 yJ0_charAt_5068e, Cond.instanceMethod yJ0_charAt_5068e, Cond.selects RJ0 yJ0_charAt_5068e yJ0_charAt_5068e, Cond.code yJ0_charAt_5068e cJ0_charAt_5068e 2 (some .char), Cond.methodLink RJ0 492 yJ0_isLatin1_aae02, Cond.instanceMethod yJ0_isLatin1_aae02, Cond.selects RJ0 yJ0_isLatin1_aae02 yJ0_isLatin1_aae02, Cond.code yJ0_isLatin1_aae02 cJ0_isLatin1_aae02 1 (some .boolean), Cond.methodLink RJ0 495 yJ1_charAt_3b067, Cond.static yJ1_charAt_3b067, Cond.initialized RJ1, Cond.code yJ1_charAt_3b067 cJ1_charAt_3b067 2 (some .char), Cond.methodLink RJ1 9 yJ0_checkIndex_df160, Cond.static yJ0_checkIndex_df160, Cond.code yJ0_checkIndex_df160 cJ0_checkIndex_df160 2 none, Cond.fieldLink RJ0 1053 "jdk/internal/util/Preconditions" "SIOOBE_FORMATTER" "Ljava/util/function/BiFunction;"]
def wsX6_init_r3 : List Cond := [Cond.methodLink RJ0 1059 yJ3_checkIndex_8e157, Cond.static yJ3_checkIndex_8e157, Cond.initialized RJ3, Cond.code yJ3_checkIndex_8e157 cJ3_checkIndex_8e157 3 (some .int), Cond.methodLink RJ0 498 yJ2_charAt_3b067, Cond.static yJ2_charAt_3b067, Cond.initialized RJ2, Cond.code yJ2_charAt_3b067 cJ2_charAt_3b067 2 (some .char), Cond.methodLink RJ2 67 yJ2_checkIndex_2214a, Cond.static yJ2_checkIndex_2214a, Cond.code yJ2_checkIndex_2214a cJ2_checkIndex_2214a 2 none, Cond.methodLink RJ2 48 yJ2_length_9d52b, Cond.static yJ2_length_9d52b, Cond.code yJ2_length_9d52b cJ2_length_9d52b 1 (some .int), Cond.methodLink RJ2 414 yJ0_checkIndex_df160, Cond.methodLink RJ2 71 yJ2_getChar_3b067, Cond.static yJ2_getChar_3b067, Cond.code yJ2_getChar_3b067 cJ2_getChar_3b067 2 (some .char), Cond.fieldLink RJ2 44 "java/lang/StringUTF16" "$assertionsDisabled" "Z", Cond.fieldLink RJ2 59 "java/lang/StringUTF16" "HI_BYTE_SHIFT" "I", Cond.fieldLink RJ2 63 "java/lang/StringUTF16" "LO_BYTE_SHIFT" "I"]
def wsX6_init : List Cond := .code yX6_init cX6_init 2 none :: ((wsX6_init_r1 ++ (wsX6_init_r2 ++ wsX6_init_r3)) ++ wsX70 ++ wsX60)
def wsX9_clear : List Cond := .code yX9_clear cX9_clear 1 none :: ([.fieldLink RX9 12 "MatchTrees$Table" "kinds" "LMatchTrees$Kinds;", .fieldLink RX9 39 "MatchTrees$Table" "columns" "I", .fieldLink RX9 43 "MatchTrees$Table" "rows" "I", .fieldLink RX9 46 "MatchTrees$Table" "arms" "I", .fieldLink RX9 49 "MatchTrees$Table" "rule" "I", .fieldLink RX9 52 "MatchTrees$Table" "budget" "I", .methodLink RX9 36 yX3_clear, .instanceMethod yX3_clear, .selects RX3 yX3_clear yX3_clear, .initialized RX3, .code yX3_clear cX3_clear 1 none, .fieldLink RX3 39 "MatchTrees$Kinds" "kinds" "I", .fieldLink RX3 43 "MatchTrees$Kinds" "cons" "I"] ++ wsX90 ++ wsX30)
def wsX7_step : List Cond := .code yX7_step cX7_step 6 none :: ([.fieldLink RX7 75 "MatchTrees$Scanner" "type" "I", .fieldLink RX7 72 "MatchTrees$Scanner" "next" "I", .fieldLink RX7 71 "MatchTrees$Scanner" "length" "I", .fieldLink RX7 41 "MatchTrees$Scanner" "text" "[I", .fieldLink RX7 81 "MatchTrees$Scanner" "at" "I", .fieldLink RX7 84 "MatchTrees$Scanner" "stop" "I", .fieldLink RX7 87 "MatchTrees$Scanner" "own" "I", .fieldLink RX7 90 "MatchTrees$Scanner" "value" "I", .methodLink RX7 93 yX7_stepWord, .instanceMethod yX7_stepWord, .selects RX7 yX7_stepWord yX7_stepWord, .initialized RX7, .code yX7_stepWord cX7_stepWord 3 none, .fieldLink RX7 37 "MatchTrees$Scanner" "ownWords" "[I", .methodLink RX7 96 yX7_stepNumber, .instanceMethod yX7_stepNumber, .selects RX7 yX7_stepNumber yX7_stepNumber, .code yX7_stepNumber cX7_stepNumber 2 none] ++ wsX70)
def wsX7_begin_r1 : List Cond := [Cond.fieldLink RX7 54 "MatchTrees$Bytes" "bytes" "[I", Cond.fieldLink RX7 41 "MatchTrees$Scanner" "text" "[I", Cond.fieldLink RX7 59 "MatchTrees$Bytes" "length" "I", Cond.methodLink RX7 62 Lib.Math.min.name, Cond.static Lib.Math.min.name, Cond.initialized "java/lang/Math", Cond.code Lib.Math.min.name Lib.Math.min.code 2 (some .int), Cond.methodLink RX7 68 Lib.Math.max.name, Cond.static Lib.Math.max.name, Cond.code Lib.Math.max.name Lib.Math.max.code 2 (some .int), Cond.fieldLink RX7 71 "MatchTrees$Scanner" "length" "I", Cond.fieldLink RX7 72 "MatchTrees$Scanner" "next" "I", Cond.fieldLink RX7 75 "MatchTrees$Scanner" "type" "I", Cond.methodLink RX7 78 yX7_step, Cond.instanceMethod yX7_step, Cond.selects RX7 yX7_step yX7_step, Cond.initialized RX7, Cond.code yX7_step cX7_step 6 none, Cond.fieldLink RX7 81 "MatchTrees$Scanner" "at" "I", Cond.fieldLink RX7 84 "MatchTrees$Scanner" "stop" "I", Cond.fieldLink RX7 87 "MatchTrees$Scanner" "own" "I", Cond.fieldLink RX7 90 "MatchTrees$Scanner" "value" "I", Cond.methodLink RX7 93 yX7_stepWord, Cond.instanceMethod yX7_stepWord]
def wsX7_begin_r2 : List Cond := [Cond.selects RX7 yX7_stepWord yX7_stepWord, Cond.code yX7_stepWord cX7_stepWord 3 none, Cond.fieldLink RX7 37 "MatchTrees$Scanner" "ownWords" "[I", Cond.methodLink RX7 96 yX7_stepNumber, Cond.instanceMethod yX7_stepNumber, Cond.selects RX7 yX7_stepNumber yX7_stepNumber, Cond.code yX7_stepNumber cX7_stepNumber 2 none]
def wsX7_begin : List Cond := .code yX7_begin cX7_begin 2 none :: ((wsX7_begin_r1 ++ wsX7_begin_r2) ++ wsX10 ++ wsX70)
def wsX6_begin_r1 : List Cond := [Cond.fieldLink RX6 82 "MatchTrees$Reader" "fault" "I", Cond.fieldLink RX6 23 "MatchTrees$Reader" "place" "I", Cond.fieldLink RX6 12 "MatchTrees$Reader" "scan" "LMatchTrees$Scanner;", Cond.methodLink RX6 85 yX7_begin, Cond.instanceMethod yX7_begin, Cond.selects RX7 yX7_begin yX7_begin, Cond.initialized RX7, Cond.code yX7_begin cX7_begin 2 none, Cond.fieldLink RX7 54 "MatchTrees$Bytes" "bytes" "[I", Cond.fieldLink RX7 41 "MatchTrees$Scanner" "text" "[I", Cond.fieldLink RX7 59 "MatchTrees$Bytes" "length" "I", Cond.methodLink RX7 62 Lib.Math.min.name, Cond.static Lib.Math.min.name, Cond.initialized "java/lang/Math", Cond.code Lib.Math.min.name Lib.Math.min.code 2 (some .int), Cond.methodLink RX7 68 Lib.Math.max.name, Cond.static Lib.Math.max.name, Cond.code Lib.Math.max.name Lib.Math.max.code 2 (some .int), Cond.fieldLink RX7 71 "MatchTrees$Scanner" "length" "I", Cond.fieldLink RX7 72 "MatchTrees$Scanner" "next" "I", Cond.fieldLink RX7 75 "MatchTrees$Scanner" "type" "I", Cond.methodLink RX7 78 yX7_step, Cond.instanceMethod yX7_step, Cond.selects RX7 yX7_step yX7_step]
def wsX6_begin_r2 : List Cond := [Cond.code yX7_step cX7_step 6 none, Cond.fieldLink RX7 81 "MatchTrees$Scanner" "at" "I", Cond.fieldLink RX7 84 "MatchTrees$Scanner" "stop" "I", Cond.fieldLink RX7 87 "MatchTrees$Scanner" "own" "I", Cond.fieldLink RX7 90 "MatchTrees$Scanner" "value" "I", Cond.methodLink RX7 93 yX7_stepWord, Cond.instanceMethod yX7_stepWord, Cond.selects RX7 yX7_stepWord yX7_stepWord, Cond.code yX7_stepWord cX7_stepWord 3 none, Cond.fieldLink RX7 37 "MatchTrees$Scanner" "ownWords" "[I", Cond.methodLink RX7 96 yX7_stepNumber, Cond.instanceMethod yX7_stepNumber, Cond.selects RX7 yX7_stepNumber yX7_stepNumber, Cond.code yX7_stepNumber cX7_stepNumber 2 none]
def wsX6_begin : List Cond := .code yX6_begin cX6_begin 2 none :: ((wsX6_begin_r1 ++ wsX6_begin_r2) ++ wsX60 ++ wsX10 ++ wsX70)
def wsX6_failHere : List Cond := .code yX6_failHere cX6_failHere 1 (some .boolean) :: ([.fieldLink RX6 82 "MatchTrees$Reader" "fault" "I", .fieldLink RX6 12 "MatchTrees$Reader" "scan" "LMatchTrees$Scanner;", .fieldLink RX6 40 "MatchTrees$Scanner" "type" "I", .fieldLink RX6 86 "MatchTrees$Scanner" "stop" "I", .fieldLink RX6 72 "MatchTrees$Scanner" "at" "I", .fieldLink RX6 23 "MatchTrees$Reader" "place" "I"] ++ wsX60 ++ wsX70)
def wsX6_fail : List Cond := .code yX6_fail cX6_fail 3 (some .boolean) :: ([.fieldLink RX6 82 "MatchTrees$Reader" "fault" "I", .fieldLink RX6 23 "MatchTrees$Reader" "place" "I"] ++ wsX60)
def wsX6_readMatch_r1 : List Cond := [Cond.fieldLink RX6 27 "MatchTrees$Reader" "table" "LMatchTrees$Table;", Cond.fieldLink RX6 12 "MatchTrees$Reader" "scan" "LMatchTrees$Scanner;", Cond.fieldLink RX6 40 "MatchTrees$Scanner" "type" "I", Cond.fieldLink RX6 43 "MatchTrees$Scanner" "own" "I", Cond.fieldLink RX6 72 "MatchTrees$Scanner" "at" "I", Cond.fieldLink RX6 79 "MatchTrees$Table" "columns" "I", Cond.methodLink RX6 31 yX9_clear, Cond.instanceMethod yX9_clear, Cond.selects RX9 yX9_clear yX9_clear, Cond.initialized RX9, Cond.code yX9_clear cX9_clear 1 none, Cond.fieldLink RX9 12 "MatchTrees$Table" "kinds" "LMatchTrees$Kinds;", Cond.fieldLink RX9 39 "MatchTrees$Table" "columns" "I", Cond.fieldLink RX9 43 "MatchTrees$Table" "rows" "I", Cond.fieldLink RX9 46 "MatchTrees$Table" "arms" "I", Cond.fieldLink RX9 49 "MatchTrees$Table" "rule" "I", Cond.fieldLink RX9 52 "MatchTrees$Table" "budget" "I", Cond.methodLink RX9 36 yX3_clear, Cond.instanceMethod yX3_clear, Cond.selects RX3 yX3_clear yX3_clear, Cond.initialized RX3, Cond.code yX3_clear cX3_clear 1 none, Cond.fieldLink RX3 39 "MatchTrees$Kinds" "kinds" "I", Cond.fieldLink RX3 43 "MatchTrees$Kinds" "cons" "I"]
def wsX6_readMatch_r2 : List Cond := [Cond.methodLink RX6 36 yX6_begin, Cond.instanceMethod yX6_begin, Cond.selects RX6 yX6_begin yX6_begin, Cond.initialized RX6, Cond.code yX6_begin cX6_begin 2 none, Cond.fieldLink RX6 82 "MatchTrees$Reader" "fault" "I", Cond.fieldLink RX6 23 "MatchTrees$Reader" "place" "I", Cond.methodLink RX6 85 yX7_begin, Cond.instanceMethod yX7_begin, Cond.selects RX7 yX7_begin yX7_begin, Cond.initialized RX7, Cond.code yX7_begin cX7_begin 2 none, Cond.fieldLink RX7 54 "MatchTrees$Bytes" "bytes" "[I", Cond.fieldLink RX7 41 "MatchTrees$Scanner" "text" "[I", Cond.fieldLink RX7 59 "MatchTrees$Bytes" "length" "I", Cond.methodLink RX7 62 Lib.Math.min.name, Cond.static Lib.Math.min.name, Cond.initialized "java/lang/Math", Cond.code Lib.Math.min.name Lib.Math.min.code 2 (some .int), Cond.methodLink RX7 68 Lib.Math.max.name, Cond.static Lib.Math.max.name, Cond.code Lib.Math.max.name Lib.Math.max.code 2 (some .int), Cond.fieldLink RX7 71 "MatchTrees$Scanner" "length" "I", Cond.fieldLink RX7 72 "MatchTrees$Scanner" "next" "I"]
def wsX6_readMatch_r3 : List Cond := [Cond.fieldLink RX7 75 "MatchTrees$Scanner" "type" "I", Cond.methodLink RX7 78 yX7_step, Cond.instanceMethod yX7_step, Cond.selects RX7 yX7_step yX7_step, Cond.code yX7_step cX7_step 6 none, Cond.fieldLink RX7 81 "MatchTrees$Scanner" "at" "I", Cond.fieldLink RX7 84 "MatchTrees$Scanner" "stop" "I", Cond.fieldLink RX7 87 "MatchTrees$Scanner" "own" "I", Cond.fieldLink RX7 90 "MatchTrees$Scanner" "value" "I", Cond.methodLink RX7 93 yX7_stepWord, Cond.instanceMethod yX7_stepWord, Cond.selects RX7 yX7_stepWord yX7_stepWord, Cond.code yX7_stepWord cX7_stepWord 3 none, Cond.fieldLink RX7 37 "MatchTrees$Scanner" "ownWords" "[I", Cond.methodLink RX7 96 yX7_stepNumber, Cond.instanceMethod yX7_stepNumber, Cond.selects RX7 yX7_stepNumber yX7_stepNumber, Cond.code yX7_stepNumber cX7_stepNumber 2 none, Cond.methodLink RX6 46 yX6_readKind, Cond.instanceMethod yX6_readKind, Cond.selects RX6 yX6_readKind yX6_readKind, Cond.code yX6_readKind cX6_readKind 1 (some .boolean), Cond.fieldLink RX6 108 "MatchTrees$Table" "kinds" "LMatchTrees$Kinds;", Cond.fieldLink RX6 112 "MatchTrees$Kinds" "kinds" "I"]
def wsX6_readMatch_r4 : List Cond := [Cond.fieldLink RX6 95 "MatchTrees$Scanner" "value" "I", Cond.methodLink RX6 65 yX6_failHere, Cond.instanceMethod yX6_failHere, Cond.selects RX6 yX6_failHere yX6_failHere, Cond.code yX6_failHere cX6_failHere 1 (some .boolean), Cond.fieldLink RX6 86 "MatchTrees$Scanner" "stop" "I", Cond.methodLink RX6 75 yX6_fail, Cond.instanceMethod yX6_fail, Cond.selects RX6 yX6_fail yX6_fail, Cond.code yX6_fail cX6_fail 3 (some .boolean), Cond.methodLink RX6 92 yX7_step, Cond.methodLink RX6 116 yX6_isNewName, Cond.instanceMethod yX6_isNewName, Cond.selects RX6 yX6_isNewName yX6_isNewName, Cond.code yX6_isNewName cX6_isNewName 2 (some .boolean), Cond.methodLink RX6 123 yX7_isName, Cond.instanceMethod yX7_isName, Cond.selects RX7 yX7_isName yX7_isName, Cond.code yX7_isName cX7_isName 1 (some .boolean), Cond.methodLink RX6 126 yX3_kindNamed, Cond.instanceMethod yX3_kindNamed, Cond.selects RX3 yX3_kindNamed yX3_kindNamed, Cond.code yX3_kindNamed cX3_kindNamed 3 (some .int), Cond.fieldLink RX3 9 "MatchTrees$Kinds" "kindName" "[I"]
def wsX6_readMatch_r5 : List Cond := [Cond.methodLink RX6 130 yX3_conNamed, Cond.instanceMethod yX3_conNamed, Cond.selects RX3 yX3_conNamed yX3_conNamed, Cond.code yX3_conNamed cX3_conNamed 3 (some .int), Cond.fieldLink RX3 24 "MatchTrees$Kinds" "conName" "[I", Cond.methodLink RX6 119 yX3_addKind, Cond.instanceMethod yX3_addKind, Cond.selects RX3 yX3_addKind yX3_addKind, Cond.code yX3_addKind cX3_addKind 2 none, Cond.fieldLink RX3 15 "MatchTrees$Kinds" "firstCon" "[I", Cond.fieldLink RX3 18 "MatchTrees$Kinds" "conCount" "[I", Cond.fieldLink RX3 21 "MatchTrees$Kinds" "size" "[I", Cond.methodLink RX6 50 yX6_readCon, Cond.instanceMethod yX6_readCon, Cond.selects RX6 yX6_readCon yX6_readCon, Cond.code yX6_readCon cX6_readCon 9 (some .boolean), Cond.methodLink RX6 133 yX3_consOf, Cond.instanceMethod yX3_consOf, Cond.selects RX3 yX3_consOf yX3_consOf, Cond.code yX3_consOf cX3_consOf 2 (some .int), Cond.methodLink RX3 46 yX3_isKind, Cond.instanceMethod yX3_isKind, Cond.selects RX3 yX3_isKind yX3_isKind, Cond.code yX3_isKind cX3_isKind 2 (some .boolean)]
def wsX6_readMatch_r6 : List Cond := [Cond.methodLink RX6 136 yX6_isKindWord, Cond.instanceMethod yX6_isKindWord, Cond.selects RX6 yX6_isKindWord yX6_isKindWord, Cond.code yX6_isKindWord cX6_isKindWord 1 (some .boolean), Cond.methodLink RX6 139 yX6_isKindHere, Cond.instanceMethod yX6_isKindHere, Cond.selects RX6 yX6_isKindHere yX6_isKindHere, Cond.code yX6_isKindHere cX6_isKindHere 3 (some .boolean), Cond.methodLink RX6 142 yX6_kindHere, Cond.instanceMethod yX6_kindHere, Cond.selects RX6 yX6_kindHere yX6_kindHere, Cond.code yX6_kindHere cX6_kindHere 1 (some .int), Cond.methodLink RX6 146 yX3_sizeOf, Cond.instanceMethod yX3_sizeOf, Cond.selects RX3 yX3_sizeOf yX3_sizeOf, Cond.code yX3_sizeOf cX3_sizeOf 2 (some .int), Cond.methodLink RX6 149 yX3_addCon, Cond.instanceMethod yX3_addCon, Cond.selects RX3 yX3_addCon yX3_addCon, Cond.code yX3_addCon cX3_addCon 7 none, Cond.fieldLink RX3 27 "MatchTrees$Kinds" "base" "[I", Cond.fieldLink RX3 30 "MatchTrees$Kinds" "fields" "[I", Cond.fieldLink RX3 33 "MatchTrees$Kinds" "fieldA" "[I", Cond.fieldLink RX3 36 "MatchTrees$Kinds" "fieldB" "[I"]
def wsX6_readMatch_r7 : List Cond := [Cond.methodLink RX6 53 yX6_readColumns, Cond.instanceMethod yX6_readColumns, Cond.selects RX6 yX6_readColumns yX6_readColumns, Cond.code yX6_readColumns cX6_readColumns 4 (some .boolean), Cond.methodLink RX6 153 yX9_addColumn, Cond.instanceMethod yX9_addColumn, Cond.selects RX9 yX9_addColumn yX9_addColumn, Cond.code yX9_addColumn cX9_addColumn 4 none, Cond.fieldLink RX9 18 "MatchTrees$Table" "kindOf" "[I", Cond.fieldLink RX9 22 "MatchTrees$Table" "size" "[I", Cond.fieldLink RX9 25 "MatchTrees$Table" "full" "[I", Cond.fieldLink RX9 33 "MatchTrees$Table" "fitting" "[[I", Cond.methodLink RX9 55 yX3_sizeOf, Cond.methodLink RX6 56 yX6_readArm, Cond.instanceMethod yX6_readArm, Cond.selects RX6 yX6_readArm yX6_readArm, Cond.code yX6_readArm cX6_readArm 2 (some .boolean), Cond.fieldLink RX6 156 "MatchTrees$Table" "arms" "I", Cond.fieldLink RX6 159 "MatchTrees$Table" "kindOf" "[I", Cond.fieldLink RX6 20 "MatchTrees$Reader" "fit" "[[I", Cond.methodLink RX6 68 yX6_readSign, Cond.instanceMethod yX6_readSign, Cond.selects RX6 yX6_readSign yX6_readSign, Cond.code yX6_readSign cX6_readSign 2 (some .boolean)]
def wsX6_readMatch_r8 : List Cond := [Cond.methodLink RX6 89 yX7_isSign, Cond.instanceMethod yX7_isSign, Cond.selects RX7 yX7_isSign yX7_isSign, Cond.code yX7_isSign cX7_isSign 2 (some .boolean), Cond.methodLink RX6 163 yX6_readPattern, Cond.static yX6_readPattern, Cond.code yX6_readPattern cX6_readPattern 6 (some .boolean), Cond.methodLink RX6 174 yX6_fill, Cond.static yX6_fill, Cond.code yX6_fill cX6_fill 5 none, Cond.methodLink RX6 209 Lib.Math.max.name, Cond.methodLink RX6 178 yX6_readRange, Cond.instanceMethod yX6_readRange, Cond.selects RX6 yX6_readRange yX6_readRange, Cond.code yX6_readRange cX6_readRange 4 (some .boolean), Cond.methodLink RX6 98 yX6_readNumber, Cond.instanceMethod yX6_readNumber, Cond.selects RX6 yX6_readNumber yX6_readNumber, Cond.code yX6_readNumber cX6_readNumber 4 (some .int), Cond.methodLink RX6 181 yX6_readCase, Cond.static yX6_readCase, Cond.code yX6_readCase cX6_readCase 7 (some .boolean), Cond.fieldLink RX6 187 "MatchTrees$Kinds" "fields" "[I", Cond.fieldLink RX6 190 "MatchTrees$Kinds" "base" "[I"]
def wsX6_readMatch_r9 : List Cond := [Cond.fieldLink RX6 193 "MatchTrees$Kinds" "fieldA" "[I", Cond.fieldLink RX6 196 "MatchTrees$Kinds" "fieldB" "[I", Cond.methodLink RX6 184 yX6_readConName, Cond.instanceMethod yX6_readConName, Cond.selects RX6 yX6_readConName yX6_readConName, Cond.code yX6_readConName cX6_readConName 3 (some .int), Cond.methodLink RX6 203 yX3_conNamedOf, Cond.instanceMethod yX3_conNamedOf, Cond.selects RX3 yX3_conNamedOf yX3_conNamedOf, Cond.code yX3_conNamedOf cX3_conNamedOf 5 (some .int), Cond.methodLink RX3 50 yX3_conNamed, Cond.methodLink RX6 199 yX6_fillCase, Cond.instanceMethod yX6_fillCase, Cond.selects RX6 yX6_fillCase yX6_fillCase, Cond.code yX6_fillCase cX6_fillCase 11 none, Cond.methodLink RX6 206 yX3_secondSize, Cond.instanceMethod yX3_secondSize, Cond.selects RX3 yX3_secondSize yX3_secondSize, Cond.code yX3_secondSize cX3_secondSize 2 (some .int), Cond.methodLink RX3 54 yX3_isCon, Cond.instanceMethod yX3_isCon, Cond.selects RX3 yX3_isCon yX3_isCon, Cond.code yX3_isCon cX3_isCon 2 (some .boolean), Cond.methodLink RX3 57 yX3_sizeOf]
def wsX6_readMatch_r10 : List Cond := [Cond.methodLink RX6 167 yX9_setPattern, Cond.instanceMethod yX9_setPattern, Cond.selects RX9 yX9_setPattern yX9_setPattern, Cond.code yX9_setPattern cX9_setPattern 6 none, Cond.methodLink RX6 171 yX9_addArm, Cond.instanceMethod yX9_addArm, Cond.selects RX9 yX9_addArm yX9_addArm, Cond.code yX9_addArm cX9_addArm 2 none, Cond.fieldLink RX9 28 "MatchTrees$Table" "guard" "[I", Cond.methodLink RX6 59 yX6_readRule, Cond.instanceMethod yX6_readRule, Cond.selects RX6 yX6_readRule yX6_readRule, Cond.code yX6_readRule cX6_readRule 1 (some .boolean), Cond.fieldLink RX6 102 "MatchTrees$Table" "rule" "I", Cond.methodLink RX6 62 yX6_readBudget, Cond.instanceMethod yX6_readBudget, Cond.selects RX6 yX6_readBudget yX6_readBudget, Cond.code yX6_readBudget cX6_readBudget 1 (some .boolean), Cond.fieldLink RX6 105 "MatchTrees$Table" "budget" "I"]
def wsX6_readMatch : List Cond := .code yX6_readMatch cX6_readMatch 5 (some .int) :: ((wsX6_readMatch_r1 ++ (wsX6_readMatch_r2 ++ (wsX6_readMatch_r3 ++ (wsX6_readMatch_r4 ++ (wsX6_readMatch_r5 ++ (wsX6_readMatch_r6 ++ (wsX6_readMatch_r7 ++ (wsX6_readMatch_r8 ++ (wsX6_readMatch_r9 ++ wsX6_readMatch_r10))))))))) ++ wsX60 ++ wsX70 ++ wsX90 ++ wsX30 ++ wsX10)
def wsX6_readRow_r1 : List Cond := [Cond.fieldLink RX6 27 "MatchTrees$Reader" "table" "LMatchTrees$Table;", Cond.fieldLink RX6 79 "MatchTrees$Table" "columns" "I", Cond.fieldLink RX6 159 "MatchTrees$Table" "kindOf" "[I", Cond.fieldLink RX6 218 "MatchTrees$Table" "size" "[I", Cond.fieldLink RX6 12 "MatchTrees$Reader" "scan" "LMatchTrees$Scanner;", Cond.fieldLink RX6 40 "MatchTrees$Scanner" "type" "I", Cond.methodLink RX6 36 yX6_begin, Cond.instanceMethod yX6_begin, Cond.selects RX6 yX6_begin yX6_begin, Cond.initialized RX6, Cond.code yX6_begin cX6_begin 2 none, Cond.fieldLink RX6 82 "MatchTrees$Reader" "fault" "I", Cond.fieldLink RX6 23 "MatchTrees$Reader" "place" "I", Cond.methodLink RX6 85 yX7_begin, Cond.instanceMethod yX7_begin, Cond.selects RX7 yX7_begin yX7_begin, Cond.initialized RX7, Cond.code yX7_begin cX7_begin 2 none, Cond.fieldLink RX7 54 "MatchTrees$Bytes" "bytes" "[I", Cond.fieldLink RX7 41 "MatchTrees$Scanner" "text" "[I", Cond.fieldLink RX7 59 "MatchTrees$Bytes" "length" "I", Cond.methodLink RX7 62 Lib.Math.min.name, Cond.static Lib.Math.min.name, Cond.initialized "java/lang/Math"]
def wsX6_readRow_r2 : List Cond := [Cond.code Lib.Math.min.name Lib.Math.min.code 2 (some .int), Cond.methodLink RX7 68 Lib.Math.max.name, Cond.static Lib.Math.max.name, Cond.code Lib.Math.max.name Lib.Math.max.code 2 (some .int), Cond.fieldLink RX7 71 "MatchTrees$Scanner" "length" "I", Cond.fieldLink RX7 72 "MatchTrees$Scanner" "next" "I", Cond.fieldLink RX7 75 "MatchTrees$Scanner" "type" "I", Cond.methodLink RX7 78 yX7_step, Cond.instanceMethod yX7_step, Cond.selects RX7 yX7_step yX7_step, Cond.code yX7_step cX7_step 6 none, Cond.fieldLink RX7 81 "MatchTrees$Scanner" "at" "I", Cond.fieldLink RX7 84 "MatchTrees$Scanner" "stop" "I", Cond.fieldLink RX7 87 "MatchTrees$Scanner" "own" "I", Cond.fieldLink RX7 90 "MatchTrees$Scanner" "value" "I", Cond.methodLink RX7 93 yX7_stepWord, Cond.instanceMethod yX7_stepWord, Cond.selects RX7 yX7_stepWord yX7_stepWord, Cond.code yX7_stepWord cX7_stepWord 3 none, Cond.fieldLink RX7 37 "MatchTrees$Scanner" "ownWords" "[I", Cond.methodLink RX7 96 yX7_stepNumber, Cond.instanceMethod yX7_stepNumber, Cond.selects RX7 yX7_stepNumber yX7_stepNumber, Cond.code yX7_stepNumber cX7_stepNumber 2 none]
def wsX6_readRow_r3 : List Cond := [Cond.methodLink RX6 75 yX6_fail, Cond.instanceMethod yX6_fail, Cond.selects RX6 yX6_fail yX6_fail, Cond.code yX6_fail cX6_fail 3 (some .boolean), Cond.methodLink RX6 68 yX6_readSign, Cond.instanceMethod yX6_readSign, Cond.selects RX6 yX6_readSign yX6_readSign, Cond.code yX6_readSign cX6_readSign 2 (some .boolean), Cond.methodLink RX6 89 yX7_isSign, Cond.instanceMethod yX7_isSign, Cond.selects RX7 yX7_isSign yX7_isSign, Cond.code yX7_isSign cX7_isSign 2 (some .boolean), Cond.methodLink RX6 65 yX6_failHere, Cond.instanceMethod yX6_failHere, Cond.selects RX6 yX6_failHere yX6_failHere, Cond.code yX6_failHere cX6_failHere 1 (some .boolean), Cond.fieldLink RX6 86 "MatchTrees$Scanner" "stop" "I", Cond.fieldLink RX6 72 "MatchTrees$Scanner" "at" "I", Cond.methodLink RX6 92 yX7_step, Cond.methodLink RX6 214 yX6_readValue, Cond.static yX6_readValue, Cond.code yX6_readValue cX6_readValue 7 (some .int), Cond.fieldLink RX6 108 "MatchTrees$Table" "kinds" "LMatchTrees$Kinds;", Cond.fieldLink RX6 187 "MatchTrees$Kinds" "fields" "[I"]
def wsX6_readRow_r4 : List Cond := [Cond.fieldLink RX6 190 "MatchTrees$Kinds" "base" "[I", Cond.fieldLink RX6 193 "MatchTrees$Kinds" "fieldA" "[I", Cond.fieldLink RX6 196 "MatchTrees$Kinds" "fieldB" "[I", Cond.methodLink RX6 98 yX6_readNumber, Cond.instanceMethod yX6_readNumber, Cond.selects RX6 yX6_readNumber yX6_readNumber, Cond.code yX6_readNumber cX6_readNumber 4 (some .int), Cond.fieldLink RX6 95 "MatchTrees$Scanner" "value" "I", Cond.methodLink RX6 184 yX6_readConName, Cond.instanceMethod yX6_readConName, Cond.selects RX6 yX6_readConName yX6_readConName, Cond.code yX6_readConName cX6_readConName 3 (some .int), Cond.methodLink RX6 123 yX7_isName, Cond.instanceMethod yX7_isName, Cond.selects RX7 yX7_isName yX7_isName, Cond.code yX7_isName cX7_isName 1 (some .boolean), Cond.methodLink RX6 203 yX3_conNamedOf, Cond.instanceMethod yX3_conNamedOf, Cond.selects RX3 yX3_conNamedOf yX3_conNamedOf, Cond.initialized RX3, Cond.code yX3_conNamedOf cX3_conNamedOf 5 (some .int), Cond.fieldLink RX3 15 "MatchTrees$Kinds" "firstCon" "[I", Cond.fieldLink RX3 18 "MatchTrees$Kinds" "conCount" "[I", Cond.methodLink RX3 50 yX3_conNamed]
def wsX6_readRow_r5 : List Cond := [Cond.instanceMethod yX3_conNamed, Cond.selects RX3 yX3_conNamed yX3_conNamed, Cond.code yX3_conNamed cX3_conNamed 3 (some .int), Cond.fieldLink RX3 43 "MatchTrees$Kinds" "cons" "I", Cond.fieldLink RX3 24 "MatchTrees$Kinds" "conName" "[I", Cond.methodLink RX3 46 yX3_isKind, Cond.instanceMethod yX3_isKind, Cond.selects RX3 yX3_isKind yX3_isKind, Cond.code yX3_isKind cX3_isKind 2 (some .boolean), Cond.fieldLink RX3 39 "MatchTrees$Kinds" "kinds" "I", Cond.methodLink RX6 206 yX3_secondSize, Cond.instanceMethod yX3_secondSize, Cond.selects RX3 yX3_secondSize yX3_secondSize, Cond.code yX3_secondSize cX3_secondSize 2 (some .int), Cond.fieldLink RX3 30 "MatchTrees$Kinds" "fields" "[I", Cond.fieldLink RX3 36 "MatchTrees$Kinds" "fieldB" "[I", Cond.methodLink RX3 54 yX3_isCon, Cond.instanceMethod yX3_isCon, Cond.selects RX3 yX3_isCon yX3_isCon, Cond.code yX3_isCon cX3_isCon 2 (some .boolean), Cond.methodLink RX3 57 yX3_sizeOf, Cond.instanceMethod yX3_sizeOf, Cond.selects RX3 yX3_sizeOf yX3_sizeOf, Cond.code yX3_sizeOf cX3_sizeOf 2 (some .int)]
def wsX6_readRow_r6 : List Cond := [Cond.fieldLink RX3 21 "MatchTrees$Kinds" "size" "[I"]
def wsX6_readRow : List Cond := .code yX6_readRow cX6_readRow 6 (some .int) :: ((wsX6_readRow_r1 ++ (wsX6_readRow_r2 ++ (wsX6_readRow_r3 ++ (wsX6_readRow_r4 ++ (wsX6_readRow_r5 ++ wsX6_readRow_r6))))) ++ wsX60 ++ wsX90 ++ wsX70 ++ wsX10 ++ wsX30)
def wsX8_init : List Cond := .code yX8_init cX8_init 1 none :: ([.methodLink RX8 3 objectInit, .instanceMethod objectInit, .code objectInit ⟨#[0xb1]⟩ 1 none, .arrayClass .int, .fieldLink RX8 9 "MatchTrees$Seen" "row" "[I", .fieldLink RX8 15 "MatchTrees$Seen" "arm" "[I", .fieldLink RX8 18 "MatchTrees$Seen" "set" "[I", .fieldLink RX8 21 "MatchTrees$Seen" "tally" "[I"] ++ wsX80)
def wsX9_isRow : List Cond := .code yX9_isRow cX9_isRow 2 (some .boolean) :: ([.fieldLink RX9 43 "MatchTrees$Table" "rows" "I"] ++ wsX90)
def wsX9_init_r1 : List Cond := [Cond.methodLink RX9 3 objectInit, Cond.instanceMethod objectInit, Cond.code objectInit ⟨#[0xb1]⟩ 1 none, Cond.classLink RX9 9 RX3, Cond.instantiable RX3 11, Cond.initialized RX3, Cond.fieldLink RX9 12 "MatchTrees$Table" "kinds" "LMatchTrees$Kinds;", Cond.arrayClass .int, Cond.fieldLink RX9 18 "MatchTrees$Table" "kindOf" "[I", Cond.fieldLink RX9 22 "MatchTrees$Table" "size" "[I", Cond.fieldLink RX9 25 "MatchTrees$Table" "full" "[I", Cond.fieldLink RX9 28 "MatchTrees$Table" "guard" "[I", Cond.classLink RX9 31 "[[I", Cond.fieldLink RX9 33 "MatchTrees$Table" "fitting" "[[I", Cond.instanceMethod yX3_init, Cond.code yX3_init cX3_init 1 none, Cond.methodLink RX3 3 objectInit, Cond.fieldLink RX3 9 "MatchTrees$Kinds" "kindName" "[I", Cond.fieldLink RX3 15 "MatchTrees$Kinds" "firstCon" "[I", Cond.fieldLink RX3 18 "MatchTrees$Kinds" "conCount" "[I", Cond.fieldLink RX3 21 "MatchTrees$Kinds" "size" "[I", Cond.fieldLink RX3 24 "MatchTrees$Kinds" "conName" "[I", Cond.fieldLink RX3 27 "MatchTrees$Kinds" "base" "[I", Cond.fieldLink RX3 30 "MatchTrees$Kinds" "fields" "[I"]
def wsX9_init_r2 : List Cond := [Cond.fieldLink RX3 33 "MatchTrees$Kinds" "fieldA" "[I", Cond.fieldLink RX3 36 "MatchTrees$Kinds" "fieldB" "[I"]
def wsX9_init : List Cond := .code yX9_init cX9_init 1 none :: ((wsX9_init_r1 ++ wsX9_init_r2) ++ wsX30 ++ wsX90)
def wsX10_init_r1 : List Cond := [Cond.methodLink RX10 3 objectInit, Cond.instanceMethod objectInit, Cond.code objectInit ⟨#[0xb1]⟩ 1 none, Cond.classLink RX10 9 RX2, Cond.fieldLink RX10 11 "MatchTrees$Trees" "column" "[LMatchTrees$Groups;", Cond.fieldLink RX10 17 "MatchTrees$Trees" "branch" "[LMatchTrees$Groups;", Cond.constant RX10 20 (65536), Cond.arrayClass .long, Cond.fieldLink RX10 21 "MatchTrees$Trees" "counted" "[J", Cond.arrayClass .int, Cond.fieldLink RX10 25 "MatchTrees$Trees" "scopesShut" "[I", Cond.fieldLink RX10 29 "MatchTrees$Trees" "table" "LMatchTrees$Table;", Cond.fieldLink RX10 33 "MatchTrees$Trees" "order" "LMatchTrees$Order;", Cond.fieldLink RX10 37 "MatchTrees$Trees" "marks" "LMatchTrees$Marks;", Cond.instantiable RX2 4, Cond.initialized RX2, Cond.methodLink RX10 41 yX2_init, Cond.instanceMethod yX2_init, Cond.code yX2_init cX2_init 3 none, Cond.methodLink RX2 3 objectInit, Cond.methodLink RX2 9 Lib.Math.max.name, Cond.static Lib.Math.max.name, Cond.initialized "java/lang/Math", Cond.code Lib.Math.max.name Lib.Math.max.code 2 (some .int)]
def wsX10_init_r2 : List Cond := [Cond.fieldLink RX2 15 "MatchTrees$Groups" "arms" "[I", Cond.fieldLink RX2 21 "MatchTrees$Groups" "size" "[I", Cond.fieldLink RX2 24 "MatchTrees$Groups" "marks" "LMatchTrees$Marks;"]
def wsX10_init : List Cond := .code yX10_init cX10_init 5 none :: ((wsX10_init_r1 ++ wsX10_init_r2) ++ wsX100 ++ wsX20)
def wsX11_init_r1 : List Cond := [Cond.methodLink RX11 3 objectInit, Cond.instanceMethod objectInit, Cond.code objectInit ⟨#[0xb1]⟩ 1 none, Cond.classLink RX11 9 RX1, Cond.instantiable RX1 2, Cond.initialized RX1, Cond.fieldLink RX11 14 "MatchTrees" "tape" "LMatchTrees$Bytes;", Cond.fieldLink RX11 18 "MatchTrees" "written" "LMatchTrees$Bytes;", Cond.classLink RX11 21 RX4, Cond.instantiable RX4 3, Cond.initialized RX4, Cond.fieldLink RX11 24 "MatchTrees" "marks" "LMatchTrees$Marks;", Cond.classLink RX11 28 RX2, Cond.instantiable RX2 4, Cond.initialized RX2, Cond.fieldLink RX11 33 "MatchTrees" "rowGroups" "LMatchTrees$Groups;", Cond.fieldLink RX11 37 "MatchTrees" "rowGroupsAhead" "LMatchTrees$Groups;", Cond.classLink RX11 40 RX5, Cond.instantiable RX5 4, Cond.initialized RX5, Cond.fieldLink RX11 43 "MatchTrees" "order" "LMatchTrees$Order;", Cond.fieldLink RX11 47 "MatchTrees" "trial" "LMatchTrees$Order;", Cond.classLink RX11 50 RX0, Cond.instantiable RX0 8]
def wsX11_init_r2 : List Cond := [Cond.initialized RX0, Cond.fieldLink RX11 53 "MatchTrees" "acts" "LMatchTrees$Acts;", Cond.classLink RX11 57 RX8, Cond.instantiable RX8 6, Cond.initialized RX8, Cond.fieldLink RX11 60 "MatchTrees" "seen" "LMatchTrees$Seen;", Cond.arrayClass .int, Cond.fieldLink RX11 64 "MatchTrees" "refused" "[I", Cond.classLink RX11 68 RX9, Cond.instantiable RX9 11, Cond.initialized RX9, Cond.fieldLink RX11 71 "MatchTrees" "table" "LMatchTrees$Table;", Cond.fieldLink RX11 75 "MatchTrees" "spare" "LMatchTrees$Table;", Cond.classLink RX11 78 RX6, Cond.instantiable RX6 5, Cond.initialized RX6, Cond.fieldLink RX11 83 "MatchTrees" "reader" "LMatchTrees$Reader;", Cond.classLink RX11 87 RX10, Cond.instantiable RX10 15, Cond.initialized RX10, Cond.fieldLink RX11 92 "MatchTrees" "trees" "LMatchTrees$Trees;", Cond.fieldLink RX11 96 "MatchTrees" "seedNow" "I", Cond.methodLink RX11 11 yX1_init, Cond.instanceMethod yX1_init]
def wsX11_init_r3 : List Cond := [Cond.code yX1_init cX1_init 2 none, Cond.methodLink RX1 3 objectInit, Cond.methodLink RX1 9 Lib.Math.max.name, Cond.static Lib.Math.max.name, Cond.initialized "java/lang/Math", Cond.code Lib.Math.max.name Lib.Math.max.code 2 (some .int), Cond.fieldLink RX1 15 "MatchTrees$Bytes" "bytes" "[I", Cond.instanceMethod yX4_init, Cond.code yX4_init cX4_init 1 none, Cond.methodLink RX4 3 objectInit, Cond.fieldLink RX4 9 "MatchTrees$Marks" "time" "[I", Cond.fieldLink RX4 15 "MatchTrees$Marks" "spot" "[I", Cond.methodLink RX11 30 yX2_init, Cond.instanceMethod yX2_init, Cond.code yX2_init cX2_init 3 none, Cond.methodLink RX2 3 objectInit, Cond.methodLink RX2 9 Lib.Math.max.name, Cond.fieldLink RX2 15 "MatchTrees$Groups" "arms" "[I", Cond.fieldLink RX2 21 "MatchTrees$Groups" "size" "[I", Cond.fieldLink RX2 24 "MatchTrees$Groups" "marks" "LMatchTrees$Marks;", Cond.instanceMethod yX5_init, Cond.code yX5_init cX5_init 1 none, Cond.methodLink RX5 3 objectInit, Cond.fieldLink RX5 9 "MatchTrees$Order" "arm" "[I"]
def wsX11_init_r4 : List Cond := [Cond.methodLink RX11 52 yX0_init, Cond.instanceMethod yX0_init, Cond.code yX0_init cX0_init 2 none, Cond.methodLink RX0 3 objectInit, Cond.fieldLink RX0 9 "MatchTrees$Acts" "row" "[I", Cond.fieldLink RX0 15 "MatchTrees$Acts" "arm" "[I", Cond.fieldLink RX0 18 "MatchTrees$Acts" "asked" "[I", Cond.classLink RX0 21 RX5, Cond.fieldLink RX0 23 "MatchTrees$Acts" "orderAhead" "[LMatchTrees$Order;", Cond.fieldLink RX0 27 "MatchTrees$Acts" "keptAhead" "[I", Cond.instanceMethod yX8_init, Cond.code yX8_init cX8_init 1 none, Cond.methodLink RX8 3 objectInit, Cond.fieldLink RX8 9 "MatchTrees$Seen" "row" "[I", Cond.fieldLink RX8 15 "MatchTrees$Seen" "arm" "[I", Cond.fieldLink RX8 18 "MatchTrees$Seen" "set" "[I", Cond.fieldLink RX8 21 "MatchTrees$Seen" "tally" "[I", Cond.instanceMethod yX9_init, Cond.code yX9_init cX9_init 1 none, Cond.methodLink RX9 3 objectInit, Cond.classLink RX9 9 RX3, Cond.instantiable RX3 11, Cond.initialized RX3, Cond.fieldLink RX9 12 "MatchTrees$Table" "kinds" "LMatchTrees$Kinds;"]
def wsX11_init_r5 : List Cond := [Cond.fieldLink RX9 18 "MatchTrees$Table" "kindOf" "[I", Cond.fieldLink RX9 22 "MatchTrees$Table" "size" "[I", Cond.fieldLink RX9 25 "MatchTrees$Table" "full" "[I", Cond.fieldLink RX9 28 "MatchTrees$Table" "guard" "[I", Cond.classLink RX9 31 "[[I", Cond.fieldLink RX9 33 "MatchTrees$Table" "fitting" "[[I", Cond.instanceMethod yX3_init, Cond.code yX3_init cX3_init 1 none, Cond.methodLink RX3 3 objectInit, Cond.fieldLink RX3 9 "MatchTrees$Kinds" "kindName" "[I", Cond.fieldLink RX3 15 "MatchTrees$Kinds" "firstCon" "[I", Cond.fieldLink RX3 18 "MatchTrees$Kinds" "conCount" "[I", Cond.fieldLink RX3 21 "MatchTrees$Kinds" "size" "[I", Cond.fieldLink RX3 24 "MatchTrees$Kinds" "conName" "[I", Cond.fieldLink RX3 27 "MatchTrees$Kinds" "base" "[I", Cond.fieldLink RX3 30 "MatchTrees$Kinds" "fields" "[I", Cond.fieldLink RX3 33 "MatchTrees$Kinds" "fieldA" "[I", Cond.fieldLink RX3 36 "MatchTrees$Kinds" "fieldB" "[I", Cond.methodLink RX11 80 yX6_init, Cond.instanceMethod yX6_init, Cond.code yX6_init cX6_init 2 none, Cond.methodLink RX6 3 objectInit, Cond.classLink RX6 9 RX7, Cond.instantiable RX7 9]
def wsX11_init_r6 : List Cond := [Cond.initialized RX7, Cond.fieldLink RX6 12 "MatchTrees$Reader" "scan" "LMatchTrees$Scanner;", Cond.classLink RX6 18 "[[I", Cond.fieldLink RX6 20 "MatchTrees$Reader" "fit" "[[I", Cond.fieldLink RX6 23 "MatchTrees$Reader" "place" "I", Cond.fieldLink RX6 27 "MatchTrees$Reader" "table" "LMatchTrees$Table;", Cond.instanceMethod yX7_init, Cond.code yX7_init cX7_init 1 none, Cond.methodLink RX7 3 objectInit, Cond.fieldLink RX7 37 "MatchTrees$Scanner" "ownWords" "[I", Cond.fieldLink RX7 41 "MatchTrees$Scanner" "text" "[I", Cond.methodLink RX7 11 yX7_spell, Cond.static yX7_spell, Cond.code yX7_spell cX7_spell 3 (some .int), Cond.methodLink RX7 44 yJ0_length_8abf5, Cond.instanceMethod yJ0_length_8abf5, Cond.selects RJ0 yJ0_length_8abf5 yJ0_length_8abf5, Cond.initialized RJ0, Cond.code yJ0_length_8abf5 cJ0_length_8abf5 1 (some .int), Cond.fieldLink RJ0 9 "java/lang/String" "value" "[B", Cond.methodLink RJ0 335 yJ0_coder_7d493, Cond.instanceMethod yJ0_coder_7d493, Cond.selects RJ0 yJ0_coder_7d493 yJ0_coder_7d493, Cond.code yJ0_coder_7d493 cJ0_coder_7d493 1 (some .byte)]
def wsX11_init_r7 : List Cond := [Cond.fieldLink RJ0 38 "java/lang/String" "COMPACT_STRINGS" "Z", Cond.fieldLink RJ0 15 "java/lang/String" "coder" "B", Cond.methodLink RX7 50 yJ0_charAt_5068e, Cond.instanceMethod yJ0_charAt_5068e, Cond.selects RJ0 yJ0_charAt_5068e yJ0_charAt_5068e, Cond.code yJ0_charAt_5068e cJ0_charAt_5068e 2 (some .char), Cond.methodLink RJ0 492 yJ0_isLatin1_aae02, Cond.instanceMethod yJ0_isLatin1_aae02, Cond.selects RJ0 yJ0_isLatin1_aae02 yJ0_isLatin1_aae02, Cond.code yJ0_isLatin1_aae02 cJ0_isLatin1_aae02 1 (some .boolean), Cond.methodLink RJ0 495 yJ1_charAt_3b067, Cond.static yJ1_charAt_3b067, Cond.initialized RJ1, Cond.code yJ1_charAt_3b067 cJ1_charAt_3b067 2 (some .char), Cond.methodLink RJ1 9 yJ0_checkIndex_df160, Cond.static yJ0_checkIndex_df160, Cond.code yJ0_checkIndex_df160 cJ0_checkIndex_df160 2 none, Cond.fieldLink RJ0 1053 "jdk/internal/util/Preconditions" "SIOOBE_FORMATTER" "Ljava/util/function/BiFunction;", Cond.methodLink RJ0 1059 yJ3_checkIndex_8e157, Cond.static yJ3_checkIndex_8e157, Cond.initialized RJ3, Cond.code yJ3_checkIndex_8e157 cJ3_checkIndex_8e157 3 (some .int), Cond.methodLink RJ0 498 yJ2_charAt_3b067, Cond.static yJ2_charAt_3b067]
def wsX11_init_r8 : List Cond := [Cond.initialized RJ2, Cond.code yJ2_charAt_3b067 cJ2_charAt_3b067 2 (some .char), Cond.methodLink RJ2 67 yJ2_checkIndex_2214a, Cond.static yJ2_checkIndex_2214a, Cond.code yJ2_checkIndex_2214a cJ2_checkIndex_2214a 2 none, Cond.methodLink RJ2 48 yJ2_length_9d52b, Cond.static yJ2_length_9d52b, Cond.code yJ2_length_9d52b cJ2_length_9d52b 1 (some .int), Cond.methodLink RJ2 414 yJ0_checkIndex_df160, Cond.methodLink RJ2 71 yJ2_getChar_3b067, Cond.static yJ2_getChar_3b067, Cond.code yJ2_getChar_3b067 cJ2_getChar_3b067 2 (some .char), Cond.fieldLink RJ2 44 "java/lang/StringUTF16" "$assertionsDisabled" "Z", Cond.fieldLink RJ2 59 "java/lang/StringUTF16" "HI_BYTE_SHIFT" "I", Cond.fieldLink RJ2 63 "java/lang/StringUTF16" "LO_BYTE_SHIFT" "I", Cond.methodLink RX11 89 yX10_init, Cond.instanceMethod yX10_init, Cond.code yX10_init cX10_init 5 none, Cond.methodLink RX10 3 objectInit, Cond.classLink RX10 9 RX2, Cond.fieldLink RX10 11 "MatchTrees$Trees" "column" "[LMatchTrees$Groups;", Cond.fieldLink RX10 17 "MatchTrees$Trees" "branch" "[LMatchTrees$Groups;", Cond.constant RX10 20 (65536), Cond.arrayClass .long]
def wsX11_init_r9 : List Cond := [Cond.fieldLink RX10 21 "MatchTrees$Trees" "counted" "[J", Cond.fieldLink RX10 25 "MatchTrees$Trees" "scopesShut" "[I", Cond.fieldLink RX10 29 "MatchTrees$Trees" "table" "LMatchTrees$Table;", Cond.fieldLink RX10 33 "MatchTrees$Trees" "order" "LMatchTrees$Order;", Cond.fieldLink RX10 37 "MatchTrees$Trees" "marks" "LMatchTrees$Marks;", Cond.methodLink RX10 41 yX2_init]
def wsX11_init : List Cond := .code yX11_init cX11_init 1 none :: ((wsX11_init_r1 ++ (wsX11_init_r2 ++ (wsX11_init_r3 ++ (wsX11_init_r4 ++ (wsX11_init_r5 ++ (wsX11_init_r6 ++ (wsX11_init_r7 ++ (wsX11_init_r8 ++ wsX11_init_r9)))))))) ++ wsX10 ++ wsX110 ++ wsX40 ++ wsX20 ++ wsX50 ++ wsX00 ++ wsX80 ++ wsX90 ++ wsX60 ++ wsX100 ++ wsX30 ++ wsX70)
def wsX11_refuse : List Cond := .code yX11_refuse cX11_refuse 2 (some .boolean) :: ([.fieldLink RX11 64 "MatchTrees" "refused" "[I"] ++ wsX110)
def wsX11_feed : List Cond := .code yX11_feed cX11_feed 6 (some .int) :: ([.fieldLink RX11 14 "MatchTrees" "tape" "LMatchTrees$Bytes;", .fieldLink RX11 100 "MatchTrees$Bytes" "length" "I", .methodLink RX11 103 yX11_refuse, .instanceMethod yX11_refuse, .selects RX11 yX11_refuse yX11_refuse, .initialized RX11, .code yX11_refuse cX11_refuse 2 (some .boolean), .fieldLink RX11 64 "MatchTrees" "refused" "[I", .methodLink RX11 107 yX1_addFour, .instanceMethod yX1_addFour, .selects RX1 yX1_addFour yX1_addFour, .initialized RX1, .code yX1_addFour cX1_addFour 2 none, .methodLink RX1 25 yX1_add, .instanceMethod yX1_add, .selects RX1 yX1_add yX1_add, .code yX1_add cX1_add 2 none, .fieldLink RX1 21 "MatchTrees$Bytes" "length" "I", .fieldLink RX1 15 "MatchTrees$Bytes" "bytes" "[I"] ++ wsX110 ++ wsX10)
def wsX11_end : List Cond := .code yX11_end cX11_end 2 (some .boolean) :: ([.fieldLink RX11 14 "MatchTrees" "tape" "LMatchTrees$Bytes;", .fieldLink RX11 100 "MatchTrees$Bytes" "length" "I", .methodLink RX11 103 yX11_refuse, .instanceMethod yX11_refuse, .selects RX11 yX11_refuse yX11_refuse, .initialized RX11, .code yX11_refuse cX11_refuse 2 (some .boolean), .fieldLink RX11 64 "MatchTrees" "refused" "[I"] ++ wsX110 ++ wsX10)
def wsX11_match_r1 : List Cond := [Cond.fieldLink RX11 83 "MatchTrees" "reader" "LMatchTrees$Reader;", Cond.fieldLink RX11 14 "MatchTrees" "tape" "LMatchTrees$Bytes;", Cond.fieldLink RX11 75 "MatchTrees" "spare" "LMatchTrees$Table;", Cond.fieldLink RX11 100 "MatchTrees$Bytes" "length" "I", Cond.fieldLink RX11 71 "MatchTrees" "table" "LMatchTrees$Table;", Cond.methodLink RX11 110 yX6_readMatch, Cond.instanceMethod yX6_readMatch, Cond.selects RX6 yX6_readMatch yX6_readMatch, Cond.initialized RX6, Cond.code yX6_readMatch cX6_readMatch 5 (some .int), Cond.fieldLink RX6 27 "MatchTrees$Reader" "table" "LMatchTrees$Table;", Cond.fieldLink RX6 12 "MatchTrees$Reader" "scan" "LMatchTrees$Scanner;", Cond.fieldLink RX6 40 "MatchTrees$Scanner" "type" "I", Cond.fieldLink RX6 43 "MatchTrees$Scanner" "own" "I", Cond.fieldLink RX6 72 "MatchTrees$Scanner" "at" "I", Cond.fieldLink RX6 79 "MatchTrees$Table" "columns" "I", Cond.methodLink RX6 31 yX9_clear, Cond.instanceMethod yX9_clear, Cond.selects RX9 yX9_clear yX9_clear, Cond.initialized RX9, Cond.code yX9_clear cX9_clear 1 none, Cond.fieldLink RX9 12 "MatchTrees$Table" "kinds" "LMatchTrees$Kinds;", Cond.fieldLink RX9 39 "MatchTrees$Table" "columns" "I", Cond.fieldLink RX9 43 "MatchTrees$Table" "rows" "I"]
def wsX11_match_r2 : List Cond := [Cond.fieldLink RX9 46 "MatchTrees$Table" "arms" "I", Cond.fieldLink RX9 49 "MatchTrees$Table" "rule" "I", Cond.fieldLink RX9 52 "MatchTrees$Table" "budget" "I", Cond.methodLink RX9 36 yX3_clear, Cond.instanceMethod yX3_clear, Cond.selects RX3 yX3_clear yX3_clear, Cond.initialized RX3, Cond.code yX3_clear cX3_clear 1 none, Cond.fieldLink RX3 39 "MatchTrees$Kinds" "kinds" "I", Cond.fieldLink RX3 43 "MatchTrees$Kinds" "cons" "I", Cond.methodLink RX6 36 yX6_begin, Cond.instanceMethod yX6_begin, Cond.selects RX6 yX6_begin yX6_begin, Cond.code yX6_begin cX6_begin 2 none, Cond.fieldLink RX6 82 "MatchTrees$Reader" "fault" "I", Cond.fieldLink RX6 23 "MatchTrees$Reader" "place" "I", Cond.methodLink RX6 85 yX7_begin, Cond.instanceMethod yX7_begin, Cond.selects RX7 yX7_begin yX7_begin, Cond.initialized RX7, Cond.code yX7_begin cX7_begin 2 none, Cond.fieldLink RX7 54 "MatchTrees$Bytes" "bytes" "[I", Cond.fieldLink RX7 41 "MatchTrees$Scanner" "text" "[I", Cond.fieldLink RX7 59 "MatchTrees$Bytes" "length" "I"]
def wsX11_match_r3 : List Cond := [Cond.methodLink RX7 62 Lib.Math.min.name, Cond.static Lib.Math.min.name, Cond.initialized "java/lang/Math", Cond.code Lib.Math.min.name Lib.Math.min.code 2 (some .int), Cond.methodLink RX7 68 Lib.Math.max.name, Cond.static Lib.Math.max.name, Cond.code Lib.Math.max.name Lib.Math.max.code 2 (some .int), Cond.fieldLink RX7 71 "MatchTrees$Scanner" "length" "I", Cond.fieldLink RX7 72 "MatchTrees$Scanner" "next" "I", Cond.fieldLink RX7 75 "MatchTrees$Scanner" "type" "I", Cond.methodLink RX7 78 yX7_step, Cond.instanceMethod yX7_step, Cond.selects RX7 yX7_step yX7_step, Cond.code yX7_step cX7_step 6 none, Cond.fieldLink RX7 81 "MatchTrees$Scanner" "at" "I", Cond.fieldLink RX7 84 "MatchTrees$Scanner" "stop" "I", Cond.fieldLink RX7 87 "MatchTrees$Scanner" "own" "I", Cond.fieldLink RX7 90 "MatchTrees$Scanner" "value" "I", Cond.methodLink RX7 93 yX7_stepWord, Cond.instanceMethod yX7_stepWord, Cond.selects RX7 yX7_stepWord yX7_stepWord, Cond.code yX7_stepWord cX7_stepWord 3 none, Cond.fieldLink RX7 37 "MatchTrees$Scanner" "ownWords" "[I", Cond.methodLink RX7 96 yX7_stepNumber]
def wsX11_match_r4 : List Cond := [Cond.instanceMethod yX7_stepNumber, Cond.selects RX7 yX7_stepNumber yX7_stepNumber, Cond.code yX7_stepNumber cX7_stepNumber 2 none, Cond.methodLink RX6 46 yX6_readKind, Cond.instanceMethod yX6_readKind, Cond.selects RX6 yX6_readKind yX6_readKind, Cond.code yX6_readKind cX6_readKind 1 (some .boolean), Cond.fieldLink RX6 108 "MatchTrees$Table" "kinds" "LMatchTrees$Kinds;", Cond.fieldLink RX6 112 "MatchTrees$Kinds" "kinds" "I", Cond.fieldLink RX6 95 "MatchTrees$Scanner" "value" "I", Cond.methodLink RX6 65 yX6_failHere, Cond.instanceMethod yX6_failHere, Cond.selects RX6 yX6_failHere yX6_failHere, Cond.code yX6_failHere cX6_failHere 1 (some .boolean), Cond.fieldLink RX6 86 "MatchTrees$Scanner" "stop" "I", Cond.methodLink RX6 75 yX6_fail, Cond.instanceMethod yX6_fail, Cond.selects RX6 yX6_fail yX6_fail, Cond.code yX6_fail cX6_fail 3 (some .boolean), Cond.methodLink RX6 92 yX7_step, Cond.methodLink RX6 116 yX6_isNewName, Cond.instanceMethod yX6_isNewName, Cond.selects RX6 yX6_isNewName yX6_isNewName, Cond.code yX6_isNewName cX6_isNewName 2 (some .boolean)]
def wsX11_match_r5 : List Cond := [Cond.methodLink RX6 123 yX7_isName, Cond.instanceMethod yX7_isName, Cond.selects RX7 yX7_isName yX7_isName, Cond.code yX7_isName cX7_isName 1 (some .boolean), Cond.methodLink RX6 126 yX3_kindNamed, Cond.instanceMethod yX3_kindNamed, Cond.selects RX3 yX3_kindNamed yX3_kindNamed, Cond.code yX3_kindNamed cX3_kindNamed 3 (some .int), Cond.fieldLink RX3 9 "MatchTrees$Kinds" "kindName" "[I", Cond.methodLink RX6 130 yX3_conNamed, Cond.instanceMethod yX3_conNamed, Cond.selects RX3 yX3_conNamed yX3_conNamed, Cond.code yX3_conNamed cX3_conNamed 3 (some .int), Cond.fieldLink RX3 24 "MatchTrees$Kinds" "conName" "[I", Cond.methodLink RX6 119 yX3_addKind, Cond.instanceMethod yX3_addKind, Cond.selects RX3 yX3_addKind yX3_addKind, Cond.code yX3_addKind cX3_addKind 2 none, Cond.fieldLink RX3 15 "MatchTrees$Kinds" "firstCon" "[I", Cond.fieldLink RX3 18 "MatchTrees$Kinds" "conCount" "[I", Cond.fieldLink RX3 21 "MatchTrees$Kinds" "size" "[I", Cond.methodLink RX6 50 yX6_readCon, Cond.instanceMethod yX6_readCon, Cond.selects RX6 yX6_readCon yX6_readCon]
def wsX11_match_r6 : List Cond := [Cond.code yX6_readCon cX6_readCon 9 (some .boolean), Cond.methodLink RX6 133 yX3_consOf, Cond.instanceMethod yX3_consOf, Cond.selects RX3 yX3_consOf yX3_consOf, Cond.code yX3_consOf cX3_consOf 2 (some .int), Cond.methodLink RX3 46 yX3_isKind, Cond.instanceMethod yX3_isKind, Cond.selects RX3 yX3_isKind yX3_isKind, Cond.code yX3_isKind cX3_isKind 2 (some .boolean), Cond.methodLink RX6 136 yX6_isKindWord, Cond.instanceMethod yX6_isKindWord, Cond.selects RX6 yX6_isKindWord yX6_isKindWord, Cond.code yX6_isKindWord cX6_isKindWord 1 (some .boolean), Cond.methodLink RX6 139 yX6_isKindHere, Cond.instanceMethod yX6_isKindHere, Cond.selects RX6 yX6_isKindHere yX6_isKindHere, Cond.code yX6_isKindHere cX6_isKindHere 3 (some .boolean), Cond.methodLink RX6 142 yX6_kindHere, Cond.instanceMethod yX6_kindHere, Cond.selects RX6 yX6_kindHere yX6_kindHere, Cond.code yX6_kindHere cX6_kindHere 1 (some .int), Cond.methodLink RX6 146 yX3_sizeOf, Cond.instanceMethod yX3_sizeOf, Cond.selects RX3 yX3_sizeOf yX3_sizeOf]
def wsX11_match_r7 : List Cond := [Cond.code yX3_sizeOf cX3_sizeOf 2 (some .int), Cond.methodLink RX6 149 yX3_addCon, Cond.instanceMethod yX3_addCon, Cond.selects RX3 yX3_addCon yX3_addCon, Cond.code yX3_addCon cX3_addCon 7 none, Cond.fieldLink RX3 27 "MatchTrees$Kinds" "base" "[I", Cond.fieldLink RX3 30 "MatchTrees$Kinds" "fields" "[I", Cond.fieldLink RX3 33 "MatchTrees$Kinds" "fieldA" "[I", Cond.fieldLink RX3 36 "MatchTrees$Kinds" "fieldB" "[I", Cond.methodLink RX6 53 yX6_readColumns, Cond.instanceMethod yX6_readColumns, Cond.selects RX6 yX6_readColumns yX6_readColumns, Cond.code yX6_readColumns cX6_readColumns 4 (some .boolean), Cond.methodLink RX6 153 yX9_addColumn, Cond.instanceMethod yX9_addColumn, Cond.selects RX9 yX9_addColumn yX9_addColumn, Cond.code yX9_addColumn cX9_addColumn 4 none, Cond.fieldLink RX9 18 "MatchTrees$Table" "kindOf" "[I", Cond.fieldLink RX9 22 "MatchTrees$Table" "size" "[I", Cond.fieldLink RX9 25 "MatchTrees$Table" "full" "[I", Cond.fieldLink RX9 33 "MatchTrees$Table" "fitting" "[[I", Cond.methodLink RX9 55 yX3_sizeOf, Cond.methodLink RX6 56 yX6_readArm, Cond.instanceMethod yX6_readArm]
def wsX11_match_r8 : List Cond := [Cond.selects RX6 yX6_readArm yX6_readArm, Cond.code yX6_readArm cX6_readArm 2 (some .boolean), Cond.fieldLink RX6 156 "MatchTrees$Table" "arms" "I", Cond.fieldLink RX6 159 "MatchTrees$Table" "kindOf" "[I", Cond.fieldLink RX6 20 "MatchTrees$Reader" "fit" "[[I", Cond.methodLink RX6 68 yX6_readSign, Cond.instanceMethod yX6_readSign, Cond.selects RX6 yX6_readSign yX6_readSign, Cond.code yX6_readSign cX6_readSign 2 (some .boolean), Cond.methodLink RX6 89 yX7_isSign, Cond.instanceMethod yX7_isSign, Cond.selects RX7 yX7_isSign yX7_isSign, Cond.code yX7_isSign cX7_isSign 2 (some .boolean), Cond.methodLink RX6 163 yX6_readPattern, Cond.static yX6_readPattern, Cond.code yX6_readPattern cX6_readPattern 6 (some .boolean), Cond.methodLink RX6 174 yX6_fill, Cond.static yX6_fill, Cond.code yX6_fill cX6_fill 5 none, Cond.methodLink RX6 209 Lib.Math.max.name, Cond.methodLink RX6 178 yX6_readRange, Cond.instanceMethod yX6_readRange, Cond.selects RX6 yX6_readRange yX6_readRange, Cond.code yX6_readRange cX6_readRange 4 (some .boolean)]
def wsX11_match_r9 : List Cond := [Cond.methodLink RX6 98 yX6_readNumber, Cond.instanceMethod yX6_readNumber, Cond.selects RX6 yX6_readNumber yX6_readNumber, Cond.code yX6_readNumber cX6_readNumber 4 (some .int), Cond.methodLink RX6 181 yX6_readCase, Cond.static yX6_readCase, Cond.code yX6_readCase cX6_readCase 7 (some .boolean), Cond.fieldLink RX6 187 "MatchTrees$Kinds" "fields" "[I", Cond.fieldLink RX6 190 "MatchTrees$Kinds" "base" "[I", Cond.fieldLink RX6 193 "MatchTrees$Kinds" "fieldA" "[I", Cond.fieldLink RX6 196 "MatchTrees$Kinds" "fieldB" "[I", Cond.methodLink RX6 184 yX6_readConName, Cond.instanceMethod yX6_readConName, Cond.selects RX6 yX6_readConName yX6_readConName, Cond.code yX6_readConName cX6_readConName 3 (some .int), Cond.methodLink RX6 203 yX3_conNamedOf, Cond.instanceMethod yX3_conNamedOf, Cond.selects RX3 yX3_conNamedOf yX3_conNamedOf, Cond.code yX3_conNamedOf cX3_conNamedOf 5 (some .int), Cond.methodLink RX3 50 yX3_conNamed, Cond.methodLink RX6 199 yX6_fillCase, Cond.instanceMethod yX6_fillCase, Cond.selects RX6 yX6_fillCase yX6_fillCase, Cond.code yX6_fillCase cX6_fillCase 11 none]
def wsX11_match_r10 : List Cond := [Cond.methodLink RX6 206 yX3_secondSize, Cond.instanceMethod yX3_secondSize, Cond.selects RX3 yX3_secondSize yX3_secondSize, Cond.code yX3_secondSize cX3_secondSize 2 (some .int), Cond.methodLink RX3 54 yX3_isCon, Cond.instanceMethod yX3_isCon, Cond.selects RX3 yX3_isCon yX3_isCon, Cond.code yX3_isCon cX3_isCon 2 (some .boolean), Cond.methodLink RX3 57 yX3_sizeOf, Cond.methodLink RX6 167 yX9_setPattern, Cond.instanceMethod yX9_setPattern, Cond.selects RX9 yX9_setPattern yX9_setPattern, Cond.code yX9_setPattern cX9_setPattern 6 none, Cond.methodLink RX6 171 yX9_addArm, Cond.instanceMethod yX9_addArm, Cond.selects RX9 yX9_addArm yX9_addArm, Cond.code yX9_addArm cX9_addArm 2 none, Cond.fieldLink RX9 28 "MatchTrees$Table" "guard" "[I", Cond.methodLink RX6 59 yX6_readRule, Cond.instanceMethod yX6_readRule, Cond.selects RX6 yX6_readRule yX6_readRule, Cond.code yX6_readRule cX6_readRule 1 (some .boolean), Cond.fieldLink RX6 102 "MatchTrees$Table" "rule" "I", Cond.methodLink RX6 62 yX6_readBudget]
def wsX11_match_r11 : List Cond := [Cond.instanceMethod yX6_readBudget, Cond.selects RX6 yX6_readBudget yX6_readBudget, Cond.code yX6_readBudget cX6_readBudget 1 (some .boolean), Cond.fieldLink RX6 105 "MatchTrees$Table" "budget" "I", Cond.methodLink RX11 103 yX11_refuse, Cond.instanceMethod yX11_refuse, Cond.selects RX11 yX11_refuse yX11_refuse, Cond.initialized RX11, Cond.code yX11_refuse cX11_refuse 2 (some .boolean), Cond.fieldLink RX11 64 "MatchTrees" "refused" "[I", Cond.methodLink RX11 114 yX11_startMatch, Cond.instanceMethod yX11_startMatch, Cond.selects RX11 yX11_startMatch yX11_startMatch, Cond.code yX11_startMatch cX11_startMatch 2 none, Cond.fieldLink RX11 92 "MatchTrees" "trees" "LMatchTrees$Trees;", Cond.fieldLink RX11 33 "MatchTrees" "rowGroups" "LMatchTrees$Groups;", Cond.fieldLink RX11 123 "MatchTrees$Table" "arms" "I", Cond.fieldLink RX11 130 "MatchTrees$Table" "columns" "I", Cond.fieldLink RX11 37 "MatchTrees" "rowGroupsAhead" "LMatchTrees$Groups;", Cond.fieldLink RX11 137 "MatchTrees$Trees" "column" "[LMatchTrees$Groups;", Cond.fieldLink RX11 43 "MatchTrees" "order" "LMatchTrees$Order;", Cond.fieldLink RX11 145 "MatchTrees$Table" "rule" "I", Cond.fieldLink RX11 53 "MatchTrees" "acts" "LMatchTrees$Acts;", Cond.fieldLink RX11 60 "MatchTrees" "seen" "LMatchTrees$Seen;"]
def wsX11_match_r12 : List Cond := [Cond.fieldLink RX11 153 "MatchTrees$Seen" "count" "I", Cond.methodLink RX11 117 yX10_setTable, Cond.instanceMethod yX10_setTable, Cond.selects RX10 yX10_setTable yX10_setTable, Cond.initialized RX10, Cond.code yX10_setTable cX10_setTable 4 none, Cond.fieldLink RX10 29 "MatchTrees$Trees" "table" "LMatchTrees$Table;", Cond.fieldLink RX10 44 "MatchTrees$Table" "columns" "I", Cond.fieldLink RX10 11 "MatchTrees$Trees" "column" "[LMatchTrees$Groups;", Cond.fieldLink RX10 53 "MatchTrees$Table" "size" "[I", Cond.methodLink RX10 50 yX2_begin, Cond.instanceMethod yX2_begin, Cond.selects RX2 yX2_begin yX2_begin, Cond.initialized RX2, Cond.code yX2_begin cX2_begin 1 none, Cond.fieldLink RX2 28 "MatchTrees$Groups" "count" "I", Cond.fieldLink RX2 24 "MatchTrees$Groups" "marks" "LMatchTrees$Marks;", Cond.methodLink RX2 32 yX4_renew, Cond.instanceMethod yX4_renew, Cond.selects RX4 yX4_renew yX4_renew, Cond.initialized RX4, Cond.code yX4_renew cX4_renew 1 none, Cond.fieldLink RX4 18 "MatchTrees$Marks" "now" "I", Cond.methodLink RX10 56 yX9_armsFitting]
def wsX11_match_r13 : List Cond := [Cond.instanceMethod yX9_armsFitting, Cond.selects RX9 yX9_armsFitting yX9_armsFitting, Cond.code yX9_armsFitting cX9_armsFitting 3 (some .int), Cond.methodLink RX10 60 yX2_add, Cond.instanceMethod yX2_add, Cond.selects RX2 yX2_add yX2_add, Cond.code yX2_add cX2_add 4 none, Cond.fieldLink RX2 15 "MatchTrees$Groups" "arms" "[I", Cond.fieldLink RX2 41 "MatchTrees$Marks" "spot" "[I", Cond.fieldLink RX2 21 "MatchTrees$Groups" "size" "[I", Cond.methodLink RX2 37 yX4_isNew, Cond.instanceMethod yX4_isNew, Cond.selects RX4 yX4_isNew yX4_isNew, Cond.code yX4_isNew cX4_isNew 2 (some .boolean), Cond.fieldLink RX4 9 "MatchTrees$Marks" "time" "[I", Cond.methodLink RX11 120 yX2_begin, Cond.methodLink RX11 126 yX2_add, Cond.methodLink RX11 133 yX2_copy, Cond.instanceMethod yX2_copy, Cond.selects RX2 yX2_copy yX2_copy, Cond.code yX2_copy cX2_copy 3 none, Cond.methodLink RX2 48 Lib.Math.min.name, Cond.methodLink RX11 141 yX2_addProducts, Cond.instanceMethod yX2_addProducts]
def wsX11_match_r14 : List Cond := [Cond.selects RX2 yX2_addProducts yX2_addProducts, Cond.code yX2_addProducts cX2_addProducts 5 none, Cond.methodLink RX2 44 yX2_add, Cond.methodLink RX11 148 yX5_begin, Cond.instanceMethod yX5_begin, Cond.selects RX5 yX5_begin yX5_begin, Cond.initialized RX5, Cond.code yX5_begin cX5_begin 4 none, Cond.methodLink RX5 15 Lib.Math.min.name, Cond.methodLink RX5 21 Lib.Math.max.name, Cond.fieldLink RX5 24 "MatchTrees$Order" "count" "I", Cond.fieldLink RX5 9 "MatchTrees$Order" "arm" "[I", Cond.fieldLink RX5 28 "MatchTrees$Order" "on" "I", Cond.fieldLink RX5 31 "MatchTrees$Order" "rule" "I", Cond.methodLink RX11 150 yX0_clear, Cond.instanceMethod yX0_clear, Cond.selects RX0 yX0_clear yX0_clear, Cond.initialized RX0, Cond.code yX0_clear cX0_clear 1 none, Cond.fieldLink RX0 31 "MatchTrees$Acts" "keptRows" "I", Cond.fieldLink RX0 35 "MatchTrees$Acts" "undoable" "I"]
def wsX11_match : List Cond := .code yX11_match cX11_match 3 (some .int) :: ((wsX11_match_r1 ++ (wsX11_match_r2 ++ (wsX11_match_r3 ++ (wsX11_match_r4 ++ (wsX11_match_r5 ++ (wsX11_match_r6 ++ (wsX11_match_r7 ++ (wsX11_match_r8 ++ (wsX11_match_r9 ++ (wsX11_match_r10 ++ (wsX11_match_r11 ++ (wsX11_match_r12 ++ (wsX11_match_r13 ++ wsX11_match_r14))))))))))))) ++ wsX110 ++ wsX10 ++ wsX60 ++ wsX70 ++ wsX90 ++ wsX30 ++ wsX100 ++ wsX80 ++ wsX20 ++ wsX40 ++ wsX50 ++ wsX00)
def wsX11_fault : List Cond := .code yX11_fault cX11_fault 2 (some .int) :: ([.fieldLink RX11 83 "MatchTrees" "reader" "LMatchTrees$Reader;", .fieldLink RX11 156 "MatchTrees$Reader" "fault" "I", .fieldLink RX11 159 "MatchTrees$Reader" "place" "I"] ++ wsX110 ++ wsX60)
def wsX11_has_r1 : List Cond := [Cond.fieldLink RX11 71 "MatchTrees" "table" "LMatchTrees$Table;", Cond.fieldLink RX11 162 "MatchTrees$Table" "kinds" "LMatchTrees$Kinds;", Cond.fieldLink RX11 166 "MatchTrees$Kinds" "kinds" "I", Cond.fieldLink RX11 170 "MatchTrees$Kinds" "cons" "I", Cond.fieldLink RX11 130 "MatchTrees$Table" "columns" "I", Cond.fieldLink RX11 173 "MatchTrees$Table" "rows" "I", Cond.fieldLink RX11 43 "MatchTrees" "order" "LMatchTrees$Order;", Cond.fieldLink RX11 176 "MatchTrees$Order" "count" "I", Cond.fieldLink RX11 177 "MatchTrees$Order" "on" "I", Cond.fieldLink RX11 180 "MatchTrees$Order" "rule" "I", Cond.fieldLink RX11 53 "MatchTrees" "acts" "LMatchTrees$Acts;", Cond.fieldLink RX11 60 "MatchTrees" "seen" "LMatchTrees$Seen;", Cond.fieldLink RX11 153 "MatchTrees$Seen" "count" "I", Cond.fieldLink RX11 185 "MatchTrees$Acts" "undoable" "I", Cond.fieldLink RX11 96 "MatchTrees" "seedNow" "I", Cond.methodLink RX11 181 yX0_keptTold, Cond.instanceMethod yX0_keptTold, Cond.selects RX0 yX0_keptTold yX0_keptTold, Cond.initialized RX0, Cond.code yX0_keptTold cX0_keptTold 1 (some .int), Cond.fieldLink RX0 31 "MatchTrees$Acts" "keptRows" "I", Cond.methodLink RX0 38 Lib.Math.min.name, Cond.static Lib.Math.min.name, Cond.initialized "java/lang/Math"]
def wsX11_has_r2 : List Cond := [Cond.code Lib.Math.min.name Lib.Math.min.code 2 (some .int)]
def wsX11_has : List Cond := .code yX11_has cX11_has 2 (some .int) :: ((wsX11_has_r1 ++ wsX11_has_r2) ++ wsX110 ++ wsX90 ++ wsX30 ++ wsX50 ++ wsX80 ++ wsX00)
def wsX11_letter : List Cond := .code yX11_letter cX11_letter 5 (some .int) :: ([.fieldLink RX11 71 "MatchTrees" "table" "LMatchTrees$Table;", .fieldLink RX11 162 "MatchTrees$Table" "kinds" "LMatchTrees$Kinds;", .fieldLink RX11 191 "MatchTrees$Kinds" "kindName" "[I", .fieldLink RX11 201 "MatchTrees$Kinds" "conName" "[I", .methodLink RX11 188 yX3_isKind, .instanceMethod yX3_isKind, .selects RX3 yX3_isKind yX3_isKind, .initialized RX3, .code yX3_isKind cX3_isKind 2 (some .boolean), .fieldLink RX3 39 "MatchTrees$Kinds" "kinds" "I", .methodLink RX11 194 yX11_letterOf, .static yX11_letterOf, .initialized RX11, .code yX11_letterOf cX11_letterOf 4 (some .int), .methodLink RX11 198 yX3_isCon, .instanceMethod yX3_isCon, .selects RX3 yX3_isCon yX3_isCon, .code yX3_isCon cX3_isCon 2 (some .boolean), .fieldLink RX3 43 "MatchTrees$Kinds" "cons" "I"] ++ wsX110 ++ wsX90 ++ wsX30)
def wsX11_matched : List Cond := .code yX11_matched cX11_matched 1 (some .boolean) :: ([.fieldLink RX11 71 "MatchTrees" "table" "LMatchTrees$Table;", .fieldLink RX11 130 "MatchTrees$Table" "columns" "I"] ++ wsX110 ++ wsX90)
def wsX11_values : List Cond := .code yX11_values cX11_values 2 (some .int) :: ([.fieldLink RX11 71 "MatchTrees" "table" "LMatchTrees$Table;", .fieldLink RX11 162 "MatchTrees$Table" "kinds" "LMatchTrees$Kinds;", .methodLink RX11 204 yX11_matched, .instanceMethod yX11_matched, .selects RX11 yX11_matched yX11_matched, .initialized RX11, .code yX11_matched cX11_matched 1 (some .boolean), .fieldLink RX11 130 "MatchTrees$Table" "columns" "I", .methodLink RX11 188 yX3_isKind, .instanceMethod yX3_isKind, .selects RX3 yX3_isKind yX3_isKind, .initialized RX3, .code yX3_isKind cX3_isKind 2 (some .boolean), .fieldLink RX3 39 "MatchTrees$Kinds" "kinds" "I", .methodLink RX11 208 yX3_sizeOf, .instanceMethod yX3_sizeOf, .selects RX3 yX3_sizeOf yX3_sizeOf, .code yX3_sizeOf cX3_sizeOf 2 (some .int), .fieldLink RX3 21 "MatchTrees$Kinds" "size" "[I"] ++ wsX110 ++ wsX90 ++ wsX30)
def wsX11_arm_r1 : List Cond := [Cond.fieldLink RX11 43 "MatchTrees" "order" "LMatchTrees$Order;", Cond.fieldLink RX11 71 "MatchTrees" "table" "LMatchTrees$Table;", Cond.methodLink RX11 212 yX5_armAt, Cond.instanceMethod yX5_armAt, Cond.selects RX5 yX5_armAt yX5_armAt, Cond.initialized RX5, Cond.code yX5_armAt cX5_armAt 2 (some .int), Cond.fieldLink RX5 9 "MatchTrees$Order" "arm" "[I", Cond.methodLink RX5 34 yX5_isPlace, Cond.instanceMethod yX5_isPlace, Cond.selects RX5 yX5_isPlace yX5_isPlace, Cond.code yX5_isPlace cX5_isPlace 2 (some .boolean), Cond.fieldLink RX5 24 "MatchTrees$Order" "count" "I", Cond.methodLink RX11 215 yX9_guardOf, Cond.instanceMethod yX9_guardOf, Cond.selects RX9 yX9_guardOf yX9_guardOf, Cond.initialized RX9, Cond.code yX9_guardOf cX9_guardOf 2 (some .int), Cond.fieldLink RX9 46 "MatchTrees$Table" "arms" "I", Cond.fieldLink RX9 28 "MatchTrees$Table" "guard" "[I", Cond.methodLink RX11 218 yX11_isUseful, Cond.instanceMethod yX11_isUseful, Cond.selects RX11 yX11_isUseful yX11_isUseful, Cond.initialized RX11]
def wsX11_arm_r2 : List Cond := [Cond.code yX11_isUseful cX11_isUseful 6 (some .boolean), Cond.fieldLink RX11 33 "MatchTrees" "rowGroups" "LMatchTrees$Groups;", Cond.fieldLink RX11 231 "MatchTrees$Groups" "count" "I", Cond.fieldLink RX11 232 "MatchTrees$Groups" "arms" "[I", Cond.methodLink RX11 227 yX5_unguarded, Cond.instanceMethod yX5_unguarded, Cond.selects RX5 yX5_unguarded yX5_unguarded, Cond.code yX5_unguarded cX5_unguarded 5 (some .int), Cond.methodLink RX5 42 yX9_guardOf, Cond.methodLink RX11 234 yX11_isIn, Cond.static yX11_isIn, Cond.code yX11_isIn cX11_isIn 2 (some .boolean), Cond.methodLink RX11 221 yX11_rowsFitting, Cond.instanceMethod yX11_rowsFitting, Cond.selects RX11 yX11_rowsFitting yX11_rowsFitting, Cond.code yX11_rowsFitting cX11_rowsFitting 4 (some .int), Cond.fieldLink RX11 238 "MatchTrees$Groups" "size" "[I", Cond.methodLink RX11 224 yX11_rowsTaken, Cond.instanceMethod yX11_rowsTaken, Cond.selects RX11 yX11_rowsTaken yX11_rowsTaken, Cond.code yX11_rowsTaken cX11_rowsTaken 4 (some .int), Cond.fieldLink RX11 177 "MatchTrees$Order" "on" "I", Cond.methodLink RX11 241 yX5_placeTaking, Cond.instanceMethod yX5_placeTaking]
def wsX11_arm_r3 : List Cond := [Cond.selects RX5 yX5_placeTaking yX5_placeTaking, Cond.code yX5_placeTaking cX5_placeTaking 6 (some .int)]
def wsX11_arm : List Cond := .code yX11_arm cX11_arm 4 (some .int) :: ((wsX11_arm_r1 ++ (wsX11_arm_r2 ++ wsX11_arm_r3)) ++ wsX110 ++ wsX50 ++ wsX90 ++ wsX20)
def wsX11_fits_r1 : List Cond := [Cond.fieldLink RX11 43 "MatchTrees" "order" "LMatchTrees$Order;", Cond.fieldLink RX11 71 "MatchTrees" "table" "LMatchTrees$Table;", Cond.fieldLink RX11 130 "MatchTrees$Table" "columns" "I", Cond.fieldLink RX11 245 "MatchTrees$Table" "size" "[I", Cond.methodLink RX11 212 yX5_armAt, Cond.instanceMethod yX5_armAt, Cond.selects RX5 yX5_armAt yX5_armAt, Cond.initialized RX5, Cond.code yX5_armAt cX5_armAt 2 (some .int), Cond.fieldLink RX5 9 "MatchTrees$Order" "arm" "[I", Cond.methodLink RX5 34 yX5_isPlace, Cond.instanceMethod yX5_isPlace, Cond.selects RX5 yX5_isPlace yX5_isPlace, Cond.code yX5_isPlace cX5_isPlace 2 (some .boolean), Cond.fieldLink RX5 24 "MatchTrees$Order" "count" "I", Cond.methodLink RX11 246 yX9_armsFitting, Cond.instanceMethod yX9_armsFitting, Cond.selects RX9 yX9_armsFitting yX9_armsFitting, Cond.initialized RX9, Cond.code yX9_armsFitting cX9_armsFitting 3 (some .int), Cond.fieldLink RX9 39 "MatchTrees$Table" "columns" "I", Cond.fieldLink RX9 33 "MatchTrees$Table" "fitting" "[[I", Cond.methodLink RX11 234 yX11_isIn, Cond.static yX11_isIn]
def wsX11_fits_r2 : List Cond := [Cond.initialized RX11, Cond.code yX11_isIn cX11_isIn 2 (some .boolean)]
def wsX11_fits : List Cond := .code yX11_fits cX11_fits 5 (some .int) :: ((wsX11_fits_r1 ++ wsX11_fits_r2) ++ wsX110 ++ wsX90 ++ wsX50)
def wsX11_holds : List Cond := .code yX11_holds cX11_holds 7 (some .int) :: ([.fieldLink RX11 43 "MatchTrees" "order" "LMatchTrees$Order;", .fieldLink RX11 33 "MatchTrees" "rowGroups" "LMatchTrees$Groups;", .fieldLink RX11 231 "MatchTrees$Groups" "count" "I", .fieldLink RX11 232 "MatchTrees$Groups" "arms" "[I", .methodLink RX11 212 yX5_armAt, .instanceMethod yX5_armAt, .selects RX5 yX5_armAt yX5_armAt, .initialized RX5, .code yX5_armAt cX5_armAt 2 (some .int), .fieldLink RX5 9 "MatchTrees$Order" "arm" "[I", .methodLink RX5 34 yX5_isPlace, .instanceMethod yX5_isPlace, .selects RX5 yX5_isPlace yX5_isPlace, .code yX5_isPlace cX5_isPlace 2 (some .boolean), .fieldLink RX5 24 "MatchTrees$Order" "count" "I", .methodLink RX11 234 yX11_isIn, .static yX11_isIn, .initialized RX11, .code yX11_isIn cX11_isIn 2 (some .boolean)] ++ wsX110 ++ wsX20 ++ wsX50)
def wsX11_missing_r1 : List Cond := [Cond.fieldLink RX11 43 "MatchTrees" "order" "LMatchTrees$Order;", Cond.fieldLink RX11 71 "MatchTrees" "table" "LMatchTrees$Table;", Cond.fieldLink RX11 176 "MatchTrees$Order" "count" "I", Cond.methodLink RX11 204 yX11_matched, Cond.instanceMethod yX11_matched, Cond.selects RX11 yX11_matched yX11_matched, Cond.initialized RX11, Cond.code yX11_matched cX11_matched 1 (some .boolean), Cond.fieldLink RX11 130 "MatchTrees$Table" "columns" "I", Cond.methodLink RX11 227 yX5_unguarded, Cond.instanceMethod yX5_unguarded, Cond.selects RX5 yX5_unguarded yX5_unguarded, Cond.initialized RX5, Cond.code yX5_unguarded cX5_unguarded 5 (some .int), Cond.fieldLink RX5 24 "MatchTrees$Order" "count" "I", Cond.fieldLink RX5 9 "MatchTrees$Order" "arm" "[I", Cond.methodLink RX5 42 yX9_guardOf, Cond.instanceMethod yX9_guardOf, Cond.selects RX9 yX9_guardOf yX9_guardOf, Cond.initialized RX9, Cond.code yX9_guardOf cX9_guardOf 2 (some .int), Cond.fieldLink RX9 46 "MatchTrees$Table" "arms" "I", Cond.fieldLink RX9 28 "MatchTrees$Table" "guard" "[I", Cond.methodLink RX11 249 yX11_countMissing]
def wsX11_missing_r2 : List Cond := [Cond.instanceMethod yX11_countMissing, Cond.selects RX11 yX11_countMissing yX11_countMissing, Cond.code yX11_countMissing cX11_countMissing 4 (some .int), Cond.fieldLink RX11 33 "MatchTrees" "rowGroups" "LMatchTrees$Groups;", Cond.fieldLink RX11 231 "MatchTrees$Groups" "count" "I", Cond.fieldLink RX11 232 "MatchTrees$Groups" "arms" "[I", Cond.fieldLink RX11 238 "MatchTrees$Groups" "size" "[I", Cond.methodLink RX11 252 yX11_findMissing, Cond.instanceMethod yX11_findMissing, Cond.selects RX11 yX11_findMissing yX11_findMissing, Cond.code yX11_findMissing cX11_findMissing 5 (some .int), Cond.fieldLink RX11 173 "MatchTrees$Table" "rows" "I", Cond.methodLink RX11 255 yX9_armsOf, Cond.instanceMethod yX9_armsOf, Cond.selects RX9 yX9_armsOf yX9_armsOf, Cond.code yX9_armsOf cX9_armsOf 6 (some .int), Cond.fieldLink RX9 39 "MatchTrees$Table" "columns" "I", Cond.fieldLink RX9 22 "MatchTrees$Table" "size" "[I", Cond.methodLink RX9 59 Lib.Math.max.name, Cond.static Lib.Math.max.name, Cond.initialized "java/lang/Math", Cond.code Lib.Math.max.name Lib.Math.max.code 2 (some .int), Cond.methodLink RX9 65 yX9_armsFitting, Cond.instanceMethod yX9_armsFitting]
def wsX11_missing_r3 : List Cond := [Cond.selects RX9 yX9_armsFitting yX9_armsFitting, Cond.code yX9_armsFitting cX9_armsFitting 3 (some .int), Cond.fieldLink RX9 33 "MatchTrees$Table" "fitting" "[[I"]
def wsX11_missing : List Cond := .code yX11_missing cX11_missing 3 (some .int) :: ((wsX11_missing_r1 ++ (wsX11_missing_r2 ++ wsX11_missing_r3)) ++ wsX110 ++ wsX50 ++ wsX90 ++ wsX20)
def wsX11_taken_r1 : List Cond := [Cond.fieldLink RX11 71 "MatchTrees" "table" "LMatchTrees$Table;", Cond.fieldLink RX11 43 "MatchTrees" "order" "LMatchTrees$Order;", Cond.fieldLink RX11 177 "MatchTrees$Order" "on" "I", Cond.methodLink RX11 258 yX9_isRow, Cond.instanceMethod yX9_isRow, Cond.selects RX9 yX9_isRow yX9_isRow, Cond.initialized RX9, Cond.code yX9_isRow cX9_isRow 2 (some .boolean), Cond.fieldLink RX9 43 "MatchTrees$Table" "rows" "I", Cond.methodLink RX11 255 yX9_armsOf, Cond.instanceMethod yX9_armsOf, Cond.selects RX9 yX9_armsOf yX9_armsOf, Cond.code yX9_armsOf cX9_armsOf 6 (some .int), Cond.fieldLink RX9 46 "MatchTrees$Table" "arms" "I", Cond.fieldLink RX9 39 "MatchTrees$Table" "columns" "I", Cond.fieldLink RX9 22 "MatchTrees$Table" "size" "[I", Cond.methodLink RX9 59 Lib.Math.max.name, Cond.static Lib.Math.max.name, Cond.initialized "java/lang/Math", Cond.code Lib.Math.max.name Lib.Math.max.code 2 (some .int), Cond.methodLink RX9 65 yX9_armsFitting, Cond.instanceMethod yX9_armsFitting, Cond.selects RX9 yX9_armsFitting yX9_armsFitting, Cond.code yX9_armsFitting cX9_armsFitting 3 (some .int)]
def wsX11_taken_r2 : List Cond := [Cond.fieldLink RX9 33 "MatchTrees$Table" "fitting" "[[I", Cond.methodLink RX11 241 yX5_placeTaking, Cond.instanceMethod yX5_placeTaking, Cond.selects RX5 yX5_placeTaking yX5_placeTaking, Cond.initialized RX5, Cond.code yX5_placeTaking cX5_placeTaking 6 (some .int), Cond.fieldLink RX5 24 "MatchTrees$Order" "count" "I", Cond.fieldLink RX5 9 "MatchTrees$Order" "arm" "[I", Cond.static yX11_isIn, Cond.initialized RX11, Cond.code yX11_isIn cX11_isIn 2 (some .boolean), Cond.methodLink RX5 42 yX9_guardOf, Cond.instanceMethod yX9_guardOf, Cond.selects RX9 yX9_guardOf yX9_guardOf, Cond.code yX9_guardOf cX9_guardOf 2 (some .int), Cond.fieldLink RX9 28 "MatchTrees$Table" "guard" "[I"]
def wsX11_taken : List Cond := .code yX11_taken cX11_taken 2 (some .int) :: ((wsX11_taken_r1 ++ wsX11_taken_r2) ++ wsX110 ++ wsX50 ++ wsX90)
def wsX11_row_r1 : List Cond := [Cond.fieldLink RX11 83 "MatchTrees" "reader" "LMatchTrees$Reader;", Cond.fieldLink RX11 14 "MatchTrees" "tape" "LMatchTrees$Bytes;", Cond.fieldLink RX11 71 "MatchTrees" "table" "LMatchTrees$Table;", Cond.fieldLink RX11 100 "MatchTrees$Bytes" "length" "I", Cond.methodLink RX11 261 yX6_readRow, Cond.instanceMethod yX6_readRow, Cond.selects RX6 yX6_readRow yX6_readRow, Cond.initialized RX6, Cond.code yX6_readRow cX6_readRow 6 (some .int), Cond.fieldLink RX6 27 "MatchTrees$Reader" "table" "LMatchTrees$Table;", Cond.fieldLink RX6 79 "MatchTrees$Table" "columns" "I", Cond.fieldLink RX6 159 "MatchTrees$Table" "kindOf" "[I", Cond.fieldLink RX6 218 "MatchTrees$Table" "size" "[I", Cond.fieldLink RX6 12 "MatchTrees$Reader" "scan" "LMatchTrees$Scanner;", Cond.fieldLink RX6 40 "MatchTrees$Scanner" "type" "I", Cond.methodLink RX6 36 yX6_begin, Cond.instanceMethod yX6_begin, Cond.selects RX6 yX6_begin yX6_begin, Cond.code yX6_begin cX6_begin 2 none, Cond.fieldLink RX6 82 "MatchTrees$Reader" "fault" "I", Cond.fieldLink RX6 23 "MatchTrees$Reader" "place" "I", Cond.methodLink RX6 85 yX7_begin, Cond.instanceMethod yX7_begin, Cond.selects RX7 yX7_begin yX7_begin]
def wsX11_row_r2 : List Cond := [Cond.initialized RX7, Cond.code yX7_begin cX7_begin 2 none, Cond.fieldLink RX7 54 "MatchTrees$Bytes" "bytes" "[I", Cond.fieldLink RX7 41 "MatchTrees$Scanner" "text" "[I", Cond.fieldLink RX7 59 "MatchTrees$Bytes" "length" "I", Cond.methodLink RX7 62 Lib.Math.min.name, Cond.static Lib.Math.min.name, Cond.initialized "java/lang/Math", Cond.code Lib.Math.min.name Lib.Math.min.code 2 (some .int), Cond.methodLink RX7 68 Lib.Math.max.name, Cond.static Lib.Math.max.name, Cond.code Lib.Math.max.name Lib.Math.max.code 2 (some .int), Cond.fieldLink RX7 71 "MatchTrees$Scanner" "length" "I", Cond.fieldLink RX7 72 "MatchTrees$Scanner" "next" "I", Cond.fieldLink RX7 75 "MatchTrees$Scanner" "type" "I", Cond.methodLink RX7 78 yX7_step, Cond.instanceMethod yX7_step, Cond.selects RX7 yX7_step yX7_step, Cond.code yX7_step cX7_step 6 none, Cond.fieldLink RX7 81 "MatchTrees$Scanner" "at" "I", Cond.fieldLink RX7 84 "MatchTrees$Scanner" "stop" "I", Cond.fieldLink RX7 87 "MatchTrees$Scanner" "own" "I", Cond.fieldLink RX7 90 "MatchTrees$Scanner" "value" "I", Cond.methodLink RX7 93 yX7_stepWord]
def wsX11_row_r3 : List Cond := [Cond.instanceMethod yX7_stepWord, Cond.selects RX7 yX7_stepWord yX7_stepWord, Cond.code yX7_stepWord cX7_stepWord 3 none, Cond.fieldLink RX7 37 "MatchTrees$Scanner" "ownWords" "[I", Cond.methodLink RX7 96 yX7_stepNumber, Cond.instanceMethod yX7_stepNumber, Cond.selects RX7 yX7_stepNumber yX7_stepNumber, Cond.code yX7_stepNumber cX7_stepNumber 2 none, Cond.methodLink RX6 75 yX6_fail, Cond.instanceMethod yX6_fail, Cond.selects RX6 yX6_fail yX6_fail, Cond.code yX6_fail cX6_fail 3 (some .boolean), Cond.methodLink RX6 68 yX6_readSign, Cond.instanceMethod yX6_readSign, Cond.selects RX6 yX6_readSign yX6_readSign, Cond.code yX6_readSign cX6_readSign 2 (some .boolean), Cond.methodLink RX6 89 yX7_isSign, Cond.instanceMethod yX7_isSign, Cond.selects RX7 yX7_isSign yX7_isSign, Cond.code yX7_isSign cX7_isSign 2 (some .boolean), Cond.methodLink RX6 65 yX6_failHere, Cond.instanceMethod yX6_failHere, Cond.selects RX6 yX6_failHere yX6_failHere, Cond.code yX6_failHere cX6_failHere 1 (some .boolean)]
def wsX11_row_r4 : List Cond := [Cond.fieldLink RX6 86 "MatchTrees$Scanner" "stop" "I", Cond.fieldLink RX6 72 "MatchTrees$Scanner" "at" "I", Cond.methodLink RX6 92 yX7_step, Cond.methodLink RX6 214 yX6_readValue, Cond.static yX6_readValue, Cond.code yX6_readValue cX6_readValue 7 (some .int), Cond.fieldLink RX6 108 "MatchTrees$Table" "kinds" "LMatchTrees$Kinds;", Cond.fieldLink RX6 187 "MatchTrees$Kinds" "fields" "[I", Cond.fieldLink RX6 190 "MatchTrees$Kinds" "base" "[I", Cond.fieldLink RX6 193 "MatchTrees$Kinds" "fieldA" "[I", Cond.fieldLink RX6 196 "MatchTrees$Kinds" "fieldB" "[I", Cond.methodLink RX6 98 yX6_readNumber, Cond.instanceMethod yX6_readNumber, Cond.selects RX6 yX6_readNumber yX6_readNumber, Cond.code yX6_readNumber cX6_readNumber 4 (some .int), Cond.fieldLink RX6 95 "MatchTrees$Scanner" "value" "I", Cond.methodLink RX6 184 yX6_readConName, Cond.instanceMethod yX6_readConName, Cond.selects RX6 yX6_readConName yX6_readConName, Cond.code yX6_readConName cX6_readConName 3 (some .int), Cond.methodLink RX6 123 yX7_isName, Cond.instanceMethod yX7_isName, Cond.selects RX7 yX7_isName yX7_isName, Cond.code yX7_isName cX7_isName 1 (some .boolean)]
def wsX11_row_r5 : List Cond := [Cond.methodLink RX6 203 yX3_conNamedOf, Cond.instanceMethod yX3_conNamedOf, Cond.selects RX3 yX3_conNamedOf yX3_conNamedOf, Cond.initialized RX3, Cond.code yX3_conNamedOf cX3_conNamedOf 5 (some .int), Cond.fieldLink RX3 15 "MatchTrees$Kinds" "firstCon" "[I", Cond.fieldLink RX3 18 "MatchTrees$Kinds" "conCount" "[I", Cond.methodLink RX3 50 yX3_conNamed, Cond.instanceMethod yX3_conNamed, Cond.selects RX3 yX3_conNamed yX3_conNamed, Cond.code yX3_conNamed cX3_conNamed 3 (some .int), Cond.fieldLink RX3 43 "MatchTrees$Kinds" "cons" "I", Cond.fieldLink RX3 24 "MatchTrees$Kinds" "conName" "[I", Cond.methodLink RX3 46 yX3_isKind, Cond.instanceMethod yX3_isKind, Cond.selects RX3 yX3_isKind yX3_isKind, Cond.code yX3_isKind cX3_isKind 2 (some .boolean), Cond.fieldLink RX3 39 "MatchTrees$Kinds" "kinds" "I", Cond.methodLink RX6 206 yX3_secondSize, Cond.instanceMethod yX3_secondSize, Cond.selects RX3 yX3_secondSize yX3_secondSize, Cond.code yX3_secondSize cX3_secondSize 2 (some .int), Cond.fieldLink RX3 30 "MatchTrees$Kinds" "fields" "[I", Cond.fieldLink RX3 36 "MatchTrees$Kinds" "fieldB" "[I"]
def wsX11_row_r6 : List Cond := [Cond.methodLink RX3 54 yX3_isCon, Cond.instanceMethod yX3_isCon, Cond.selects RX3 yX3_isCon yX3_isCon, Cond.code yX3_isCon cX3_isCon 2 (some .boolean), Cond.methodLink RX3 57 yX3_sizeOf, Cond.instanceMethod yX3_sizeOf, Cond.selects RX3 yX3_sizeOf yX3_sizeOf, Cond.code yX3_sizeOf cX3_sizeOf 2 (some .int), Cond.fieldLink RX3 21 "MatchTrees$Kinds" "size" "[I", Cond.methodLink RX11 103 yX11_refuse, Cond.instanceMethod yX11_refuse, Cond.selects RX11 yX11_refuse yX11_refuse, Cond.initialized RX11, Cond.code yX11_refuse cX11_refuse 2 (some .boolean), Cond.fieldLink RX11 64 "MatchTrees" "refused" "[I"]
def wsX11_row : List Cond := .code yX11_row cX11_row 2 (some .int) :: ((wsX11_row_r1 ++ (wsX11_row_r2 ++ (wsX11_row_r3 ++ (wsX11_row_r4 ++ (wsX11_row_r5 ++ wsX11_row_r6))))) ++ wsX110 ++ wsX10 ++ wsX60 ++ wsX90 ++ wsX70 ++ wsX30)
def wsX11_text_r1 : List Cond := [Cond.fieldLink RX11 71 "MatchTrees" "table" "LMatchTrees$Table;", Cond.fieldLink RX11 18 "MatchTrees" "written" "LMatchTrees$Bytes;", Cond.fieldLink RX11 100 "MatchTrees$Bytes" "length" "I", Cond.fieldLink RX11 130 "MatchTrees$Table" "columns" "I", Cond.fieldLink RX11 162 "MatchTrees$Table" "kinds" "LMatchTrees$Kinds;", Cond.fieldLink RX11 266 "MatchTrees$Table" "kindOf" "[I", Cond.methodLink RX11 258 yX9_isRow, Cond.instanceMethod yX9_isRow, Cond.selects RX9 yX9_isRow yX9_isRow, Cond.initialized RX9, Cond.code yX9_isRow cX9_isRow 2 (some .boolean), Cond.fieldLink RX9 43 "MatchTrees$Table" "rows" "I", Cond.methodLink RX11 264 yX1_add, Cond.instanceMethod yX1_add, Cond.selects RX1 yX1_add yX1_add, Cond.initialized RX1, Cond.code yX1_add cX1_add 2 none, Cond.fieldLink RX1 21 "MatchTrees$Bytes" "length" "I", Cond.fieldLink RX1 15 "MatchTrees$Bytes" "bytes" "[I", Cond.methodLink RX11 269 yX9_valueOf, Cond.instanceMethod yX9_valueOf, Cond.selects RX9 yX9_valueOf yX9_valueOf, Cond.code yX9_valueOf cX9_valueOf 5 (some .int), Cond.fieldLink RX9 39 "MatchTrees$Table" "columns" "I"]
def wsX11_text_r2 : List Cond := [Cond.fieldLink RX9 22 "MatchTrees$Table" "size" "[I", Cond.methodLink RX11 272 yX11_writeValue, Cond.static yX11_writeValue, Cond.initialized RX11, Cond.code yX11_writeValue cX11_writeValue 8 none, Cond.fieldLink RX11 201 "MatchTrees$Kinds" "conName" "[I", Cond.fieldLink RX11 288 "MatchTrees$Kinds" "fields" "[I", Cond.fieldLink RX11 291 "MatchTrees$Kinds" "base" "[I", Cond.fieldLink RX11 294 "MatchTrees$Kinds" "fieldA" "[I", Cond.fieldLink RX11 297 "MatchTrees$Kinds" "fieldB" "[I", Cond.methodLink RX11 276 yX1_addNumber, Cond.instanceMethod yX1_addNumber, Cond.selects RX1 yX1_addNumber yX1_addNumber, Cond.code yX1_addNumber cX1_addNumber 2 none, Cond.methodLink RX1 25 yX1_add, Cond.methodLink RX11 279 yX3_conOf, Cond.instanceMethod yX3_conOf, Cond.selects RX3 yX3_conOf yX3_conOf, Cond.initialized RX3, Cond.code yX3_conOf cX3_conOf 6 (some .int), Cond.fieldLink RX3 18 "MatchTrees$Kinds" "conCount" "[I", Cond.fieldLink RX3 15 "MatchTrees$Kinds" "firstCon" "[I", Cond.fieldLink RX3 27 "MatchTrees$Kinds" "base" "[I", Cond.methodLink RX3 46 yX3_isKind]
def wsX11_text_r3 : List Cond := [Cond.instanceMethod yX3_isKind, Cond.selects RX3 yX3_isKind yX3_isKind, Cond.code yX3_isKind cX3_isKind 2 (some .boolean), Cond.fieldLink RX3 39 "MatchTrees$Kinds" "kinds" "I", Cond.methodLink RX3 54 yX3_isCon, Cond.instanceMethod yX3_isCon, Cond.selects RX3 yX3_isCon yX3_isCon, Cond.code yX3_isCon cX3_isCon 2 (some .boolean), Cond.fieldLink RX3 43 "MatchTrees$Kinds" "cons" "I", Cond.methodLink RX11 282 yX1_addName, Cond.instanceMethod yX1_addName, Cond.selects RX1 yX1_addName yX1_addName, Cond.code yX1_addName cX1_addName 4 none, Cond.static yX11_letterOf, Cond.code yX11_letterOf cX11_letterOf 4 (some .int), Cond.methodLink RX11 285 yX3_secondSize, Cond.instanceMethod yX3_secondSize, Cond.selects RX3 yX3_secondSize yX3_secondSize, Cond.code yX3_secondSize cX3_secondSize 2 (some .int), Cond.fieldLink RX3 30 "MatchTrees$Kinds" "fields" "[I", Cond.fieldLink RX3 36 "MatchTrees$Kinds" "fieldB" "[I", Cond.methodLink RX3 57 yX3_sizeOf, Cond.instanceMethod yX3_sizeOf, Cond.selects RX3 yX3_sizeOf yX3_sizeOf]
def wsX11_text_r4 : List Cond := [Cond.code yX3_sizeOf cX3_sizeOf 2 (some .int), Cond.fieldLink RX3 21 "MatchTrees$Kinds" "size" "[I"]
def wsX11_text : List Cond := .code yX11_text cX11_text 3 (some .int) :: ((wsX11_text_r1 ++ (wsX11_text_r2 ++ (wsX11_text_r3 ++ wsX11_text_r4))) ++ wsX110 ++ wsX10 ++ wsX90 ++ wsX30)
def wsX11_octet : List Cond := .code yX11_octet cX11_octet 2 (some .int) :: ([.fieldLink RX11 18 "MatchTrees" "written" "LMatchTrees$Bytes;", .methodLink RX11 300 yX1_byteAt, .instanceMethod yX1_byteAt, .selects RX1 yX1_byteAt yX1_byteAt, .initialized RX1, .code yX1_byteAt cX1_byteAt 2 (some .int), .fieldLink RX1 21 "MatchTrees$Bytes" "length" "I", .fieldLink RX1 15 "MatchTrees$Bytes" "bytes" "[I"] ++ wsX110 ++ wsX10)
def wsX11_tree_r1 : List Cond := [Cond.fieldLink RX11 92 "MatchTrees" "trees" "LMatchTrees$Trees;", Cond.fieldLink RX11 43 "MatchTrees" "order" "LMatchTrees$Order;", Cond.fieldLink RX11 314 "MatchTrees$Trees" "unlike" "I", Cond.methodLink RX11 204 yX11_matched, Cond.instanceMethod yX11_matched, Cond.selects RX11 yX11_matched yX11_matched, Cond.initialized RX11, Cond.code yX11_matched cX11_matched 1 (some .boolean), Cond.fieldLink RX11 71 "MatchTrees" "table" "LMatchTrees$Table;", Cond.fieldLink RX11 130 "MatchTrees$Table" "columns" "I", Cond.methodLink RX11 303 yX11_isRule, Cond.static yX11_isRule, Cond.code yX11_isRule cX11_isRule 1 (some .boolean), Cond.methodLink RX11 306 yX10_measureAll, Cond.instanceMethod yX10_measureAll, Cond.selects RX10 yX10_measureAll yX10_measureAll, Cond.initialized RX10, Cond.code yX10_measureAll cX10_measureAll 3 (some .long), Cond.fieldLink RX10 33 "MatchTrees$Trees" "order" "LMatchTrees$Order;", Cond.fieldLink RX10 80 "MatchTrees$Trees" "rule" "I", Cond.fieldLink RX10 128 "MatchTrees$Trees" "now" "I", Cond.fieldLink RX10 131 "MatchTrees$Trees" "unlike" "I", Cond.methodLink RX10 134 yX5_allArms, Cond.instanceMethod yX5_allArms]
def wsX11_tree_r2 : List Cond := [Cond.selects RX5 yX5_allArms yX5_allArms, Cond.initialized RX5, Cond.code yX5_allArms cX5_allArms 3 (some .int), Cond.fieldLink RX5 24 "MatchTrees$Order" "count" "I", Cond.fieldLink RX5 9 "MatchTrees$Order" "arm" "[I", Cond.methodLink RX10 138 yX10_allColumns, Cond.instanceMethod yX10_allColumns, Cond.selects RX10 yX10_allColumns yX10_allColumns, Cond.code yX10_allColumns cX10_allColumns 1 (some .int), Cond.fieldLink RX10 29 "MatchTrees$Trees" "table" "LMatchTrees$Table;", Cond.fieldLink RX10 44 "MatchTrees$Table" "columns" "I", Cond.methodLink RX10 141 yX10_measure, Cond.static yX10_measure, Cond.code yX10_measure cX10_measure 16 (some .long), Cond.constant RX10 20 (65536), Cond.fieldLink RX10 21 "MatchTrees$Trees" "counted" "[J", Cond.fieldLink RX10 103 "MatchTrees$Groups" "count" "I", Cond.fieldLink RX10 104 "MatchTrees$Groups" "arms" "[I", Cond.constant RX10 158 (1000000), Cond.methodLink RX10 121 Lib.Math.min.name, Cond.static Lib.Math.min.name, Cond.initialized "java/lang/Math", Cond.code Lib.Math.min.name Lib.Math.min.code 2 (some .int), Cond.fieldLink RX10 163 "MatchTrees$Groups" "size" "[I"]
def wsX11_tree_r3 : List Cond := [Cond.methodLink RX10 116 Lib.Math.max.name, Cond.static Lib.Math.max.name, Cond.code Lib.Math.max.name Lib.Math.max.code 2 (some .int), Cond.fieldLink RX10 170 "MatchTrees$Order" "on" "I", Cond.methodLink RX10 145 yX10_columnAsked, Cond.instanceMethod yX10_columnAsked, Cond.selects RX10 yX10_columnAsked yX10_columnAsked, Cond.code yX10_columnAsked cX10_columnAsked 8 (some .int), Cond.fieldLink RX10 74 "MatchTrees$Table" "full" "[I", Cond.methodLink RX10 64 yX5_firstOf, Cond.instanceMethod yX5_firstOf, Cond.selects RX5 yX5_firstOf yX5_firstOf, Cond.code yX5_firstOf cX5_firstOf 3 (some .int), Cond.static yX11_isIn, Cond.code yX11_isIn cX11_isIn 2 (some .boolean), Cond.methodLink RX10 77 yX10_costOf, Cond.instanceMethod yX10_costOf, Cond.selects RX10 yX10_costOf yX10_costOf, Cond.code yX10_costOf cX10_costOf 3 (some .int), Cond.methodLink RX10 83 yX10_notFullInRow, Cond.instanceMethod yX10_notFullInRow, Cond.selects RX10 yX10_notFullInRow yX10_notFullInRow, Cond.code yX10_notFullInRow cX10_notFullInRow 6 (some .int), Cond.fieldLink RX10 92 "MatchTrees$Order" "count" "I"]
def wsX11_tree_r4 : List Cond := [Cond.fieldLink RX10 95 "MatchTrees$Order" "arm" "[I", Cond.methodLink RX10 86 yX10_countBranches, Cond.instanceMethod yX10_countBranches, Cond.selects RX10 yX10_countBranches yX10_countBranches, Cond.code yX10_countBranches cX10_countBranches 5 (some .int), Cond.fieldLink RX10 37 "MatchTrees$Trees" "marks" "LMatchTrees$Marks;", Cond.fieldLink RX10 11 "MatchTrees$Trees" "column" "[LMatchTrees$Groups;", Cond.methodLink RX10 98 yX4_renew, Cond.instanceMethod yX4_renew, Cond.selects RX4 yX4_renew yX4_renew, Cond.initialized RX4, Cond.code yX4_renew cX4_renew 1 none, Cond.fieldLink RX4 18 "MatchTrees$Marks" "now" "I", Cond.methodLink RX10 107 yX4_isNew, Cond.instanceMethod yX4_isNew, Cond.selects RX4 yX4_isNew yX4_isNew, Cond.code yX4_isNew cX4_isNew 2 (some .boolean), Cond.fieldLink RX4 9 "MatchTrees$Marks" "time" "[I", Cond.methodLink RX10 89 yX10_mostArms, Cond.instanceMethod yX10_mostArms, Cond.selects RX10 yX10_mostArms yX10_mostArms, Cond.code yX10_mostArms cX10_mostArms 5 (some .int), Cond.methodLink RX10 111 yJ6_bitCount_0f7a4, Cond.static yJ6_bitCount_0f7a4]
def wsX11_tree_r5 : List Cond := [Cond.initialized RJ6, Cond.code yJ6_bitCount_0f7a4 cJ6_bitCount_0f7a4 1 (some .int), Cond.constant RJ6 265 (1431655765), Cond.constant RJ6 266 (858993459), Cond.constant RJ6 267 (252645135), Cond.methodLink RX10 148 yX9_guardOf, Cond.instanceMethod yX9_guardOf, Cond.selects RX9 yX9_guardOf yX9_guardOf, Cond.initialized RX9, Cond.code yX9_guardOf cX9_guardOf 2 (some .int), Cond.fieldLink RX9 46 "MatchTrees$Table" "arms" "I", Cond.fieldLink RX9 28 "MatchTrees$Table" "guard" "[I", Cond.methodLink RX10 151 yX10_rowsOf, Cond.instanceMethod yX10_rowsOf, Cond.selects RX10 yX10_rowsOf yX10_rowsOf, Cond.code yX10_rowsOf cX10_rowsOf 4 (some .int), Cond.fieldLink RX10 53 "MatchTrees$Table" "size" "[I", Cond.methodLink RX10 154 yX10_split, Cond.instanceMethod yX10_split, Cond.selects RX10 yX10_split yX10_split, Cond.code yX10_split cX10_split 6 (some (.object "MatchTrees$Groups")), Cond.fieldLink RX10 17 "MatchTrees$Trees" "branch" "[LMatchTrees$Groups;", Cond.methodLink RX10 50 yX2_begin, Cond.instanceMethod yX2_begin]
def wsX11_tree_r6 : List Cond := [Cond.selects RX2 yX2_begin yX2_begin, Cond.initialized RX2, Cond.code yX2_begin cX2_begin 1 none, Cond.fieldLink RX2 28 "MatchTrees$Groups" "count" "I", Cond.fieldLink RX2 24 "MatchTrees$Groups" "marks" "LMatchTrees$Marks;", Cond.methodLink RX2 32 yX4_renew, Cond.methodLink RX10 124 yX2_addParts, Cond.instanceMethod yX2_addParts, Cond.selects RX2 yX2_addParts yX2_addParts, Cond.code yX2_addParts cX2_addParts 4 none, Cond.fieldLink RX2 15 "MatchTrees$Groups" "arms" "[I", Cond.fieldLink RX2 21 "MatchTrees$Groups" "size" "[I", Cond.methodLink RX2 44 yX2_add, Cond.instanceMethod yX2_add, Cond.selects RX2 yX2_add yX2_add, Cond.code yX2_add cX2_add 4 none, Cond.fieldLink RX2 41 "MatchTrees$Marks" "spot" "[I", Cond.methodLink RX2 37 yX4_isNew, Cond.methodLink RX10 159 yX10_nodesIn, Cond.static yX10_nodesIn, Cond.code yX10_nodesIn cX10_nodesIn 2 (some .int), Cond.constantLong RX10 173 (1048575), Cond.methodLink RX10 164 yX10_testsIn, Cond.static yX10_testsIn]
def wsX11_tree_r7 : List Cond := [Cond.code yX10_testsIn cX10_testsIn 2 (some .int), Cond.constantLong RX10 175 (131071), Cond.methodLink RX10 167 yX10_longestIn, Cond.static yX10_longestIn, Cond.code yX10_longestIn cX10_longestIn 2 (some .int), Cond.constantLong RX10 177 (7), Cond.methodLink RX11 310 yX10_nodesIn, Cond.methodLink RX11 317 yX10_longestIn, Cond.methodLink RX11 320 yX10_testsIn]
def wsX11_tree : List Cond := .code yX11_tree cX11_tree 5 (some .int) :: ((wsX11_tree_r1 ++ (wsX11_tree_r2 ++ (wsX11_tree_r3 ++ (wsX11_tree_r4 ++ (wsX11_tree_r5 ++ (wsX11_tree_r6 ++ wsX11_tree_r7)))))) ++ wsX110 ++ wsX100 ++ wsX90 ++ wsX50 ++ wsX20 ++ wsX40)
def wsX11_first_r1 : List Cond := [Cond.fieldLink RX11 92 "MatchTrees" "trees" "LMatchTrees$Trees;", Cond.fieldLink RX11 43 "MatchTrees" "order" "LMatchTrees$Order;", Cond.methodLink RX11 204 yX11_matched, Cond.instanceMethod yX11_matched, Cond.selects RX11 yX11_matched yX11_matched, Cond.initialized RX11, Cond.code yX11_matched cX11_matched 1 (some .boolean), Cond.fieldLink RX11 71 "MatchTrees" "table" "LMatchTrees$Table;", Cond.fieldLink RX11 130 "MatchTrees$Table" "columns" "I", Cond.methodLink RX11 303 yX11_isRule, Cond.static yX11_isRule, Cond.code yX11_isRule cX11_isRule 1 (some .boolean), Cond.methodLink RX11 323 yX10_firstColumn, Cond.instanceMethod yX10_firstColumn, Cond.selects RX10 yX10_firstColumn yX10_firstColumn, Cond.initialized RX10, Cond.code yX10_firstColumn cX10_firstColumn 7 (some .int), Cond.fieldLink RX10 33 "MatchTrees$Trees" "order" "LMatchTrees$Order;", Cond.fieldLink RX10 80 "MatchTrees$Trees" "rule" "I", Cond.fieldLink RX10 29 "MatchTrees$Trees" "table" "LMatchTrees$Table;", Cond.methodLink RX10 134 yX5_allArms, Cond.instanceMethod yX5_allArms, Cond.selects RX5 yX5_allArms yX5_allArms, Cond.initialized RX5]
def wsX11_first_r2 : List Cond := [Cond.code yX5_allArms cX5_allArms 3 (some .int), Cond.fieldLink RX5 24 "MatchTrees$Order" "count" "I", Cond.fieldLink RX5 9 "MatchTrees$Order" "arm" "[I", Cond.methodLink RX10 138 yX10_allColumns, Cond.instanceMethod yX10_allColumns, Cond.selects RX10 yX10_allColumns yX10_allColumns, Cond.code yX10_allColumns cX10_allColumns 1 (some .int), Cond.fieldLink RX10 44 "MatchTrees$Table" "columns" "I", Cond.methodLink RX10 145 yX10_columnAsked, Cond.instanceMethod yX10_columnAsked, Cond.selects RX10 yX10_columnAsked yX10_columnAsked, Cond.code yX10_columnAsked cX10_columnAsked 8 (some .int), Cond.fieldLink RX10 74 "MatchTrees$Table" "full" "[I", Cond.methodLink RX10 64 yX5_firstOf, Cond.instanceMethod yX5_firstOf, Cond.selects RX5 yX5_firstOf yX5_firstOf, Cond.code yX5_firstOf cX5_firstOf 3 (some .int), Cond.static yX11_isIn, Cond.code yX11_isIn cX11_isIn 2 (some .boolean), Cond.methodLink RX10 77 yX10_costOf, Cond.instanceMethod yX10_costOf, Cond.selects RX10 yX10_costOf yX10_costOf, Cond.code yX10_costOf cX10_costOf 3 (some .int), Cond.methodLink RX10 83 yX10_notFullInRow]
def wsX11_first_r3 : List Cond := [Cond.instanceMethod yX10_notFullInRow, Cond.selects RX10 yX10_notFullInRow yX10_notFullInRow, Cond.code yX10_notFullInRow cX10_notFullInRow 6 (some .int), Cond.fieldLink RX10 92 "MatchTrees$Order" "count" "I", Cond.fieldLink RX10 95 "MatchTrees$Order" "arm" "[I", Cond.methodLink RX10 86 yX10_countBranches, Cond.instanceMethod yX10_countBranches, Cond.selects RX10 yX10_countBranches yX10_countBranches, Cond.code yX10_countBranches cX10_countBranches 5 (some .int), Cond.fieldLink RX10 37 "MatchTrees$Trees" "marks" "LMatchTrees$Marks;", Cond.fieldLink RX10 11 "MatchTrees$Trees" "column" "[LMatchTrees$Groups;", Cond.fieldLink RX10 103 "MatchTrees$Groups" "count" "I", Cond.fieldLink RX10 104 "MatchTrees$Groups" "arms" "[I", Cond.methodLink RX10 98 yX4_renew, Cond.instanceMethod yX4_renew, Cond.selects RX4 yX4_renew yX4_renew, Cond.initialized RX4, Cond.code yX4_renew cX4_renew 1 none, Cond.fieldLink RX4 18 "MatchTrees$Marks" "now" "I", Cond.methodLink RX10 107 yX4_isNew, Cond.instanceMethod yX4_isNew, Cond.selects RX4 yX4_isNew yX4_isNew, Cond.code yX4_isNew cX4_isNew 2 (some .boolean), Cond.fieldLink RX4 9 "MatchTrees$Marks" "time" "[I"]
def wsX11_first_r4 : List Cond := [Cond.methodLink RX10 89 yX10_mostArms, Cond.instanceMethod yX10_mostArms, Cond.selects RX10 yX10_mostArms yX10_mostArms, Cond.code yX10_mostArms cX10_mostArms 5 (some .int), Cond.methodLink RX10 116 Lib.Math.max.name, Cond.static Lib.Math.max.name, Cond.initialized "java/lang/Math", Cond.code Lib.Math.max.name Lib.Math.max.code 2 (some .int), Cond.methodLink RX10 111 yJ6_bitCount_0f7a4, Cond.static yJ6_bitCount_0f7a4, Cond.initialized RJ6, Cond.code yJ6_bitCount_0f7a4 cJ6_bitCount_0f7a4 1 (some .int), Cond.constant RJ6 265 (1431655765), Cond.constant RJ6 266 (858993459), Cond.constant RJ6 267 (252645135), Cond.methodLink RX10 148 yX9_guardOf, Cond.instanceMethod yX9_guardOf, Cond.selects RX9 yX9_guardOf yX9_guardOf, Cond.initialized RX9, Cond.code yX9_guardOf cX9_guardOf 2 (some .int), Cond.fieldLink RX9 46 "MatchTrees$Table" "arms" "I", Cond.fieldLink RX9 28 "MatchTrees$Table" "guard" "[I"]
def wsX11_first : List Cond := .code yX11_first cX11_first 2 (some .int) :: ((wsX11_first_r1 ++ (wsX11_first_r2 ++ (wsX11_first_r3 ++ wsX11_first_r4))) ++ wsX110 ++ wsX90 ++ wsX100 ++ wsX50 ++ wsX20 ++ wsX40)
def wsX11_scopes_r1 : List Cond := [Cond.fieldLink RX11 92 "MatchTrees" "trees" "LMatchTrees$Trees;", Cond.fieldLink RX11 43 "MatchTrees" "order" "LMatchTrees$Order;", Cond.fieldLink RX11 331 "MatchTrees$Trees" "scopesOpened" "I", Cond.fieldLink RX11 334 "MatchTrees$Trees" "scopesMost" "I", Cond.fieldLink RX11 337 "MatchTrees$Trees" "stopped" "Z", Cond.methodLink RX11 204 yX11_matched, Cond.instanceMethod yX11_matched, Cond.selects RX11 yX11_matched yX11_matched, Cond.initialized RX11, Cond.code yX11_matched cX11_matched 1 (some .boolean), Cond.fieldLink RX11 71 "MatchTrees" "table" "LMatchTrees$Table;", Cond.fieldLink RX11 130 "MatchTrees$Table" "columns" "I", Cond.methodLink RX11 303 yX11_isRule, Cond.static yX11_isRule, Cond.code yX11_isRule cX11_isRule 1 (some .boolean), Cond.methodLink RX11 327 yX10_buildAll, Cond.instanceMethod yX10_buildAll, Cond.selects RX10 yX10_buildAll yX10_buildAll, Cond.initialized RX10, Cond.code yX10_buildAll cX10_buildAll 3 none, Cond.fieldLink RX10 33 "MatchTrees$Trees" "order" "LMatchTrees$Order;", Cond.fieldLink RX10 80 "MatchTrees$Trees" "rule" "I", Cond.fieldLink RX10 183 "MatchTrees$Trees" "scopesOpened" "I", Cond.fieldLink RX10 186 "MatchTrees$Trees" "scopesOpen" "I"]
def wsX11_scopes_r2 : List Cond := [Cond.fieldLink RX10 189 "MatchTrees$Trees" "scopesMost" "I", Cond.fieldLink RX10 192 "MatchTrees$Trees" "shutCount" "I", Cond.fieldLink RX10 195 "MatchTrees$Trees" "stopped" "Z", Cond.methodLink RX10 134 yX5_allArms, Cond.instanceMethod yX5_allArms, Cond.selects RX5 yX5_allArms yX5_allArms, Cond.initialized RX5, Cond.code yX5_allArms cX5_allArms 3 (some .int), Cond.fieldLink RX5 24 "MatchTrees$Order" "count" "I", Cond.fieldLink RX5 9 "MatchTrees$Order" "arm" "[I", Cond.methodLink RX10 138 yX10_allColumns, Cond.instanceMethod yX10_allColumns, Cond.selects RX10 yX10_allColumns yX10_allColumns, Cond.code yX10_allColumns cX10_allColumns 1 (some .int), Cond.fieldLink RX10 29 "MatchTrees$Trees" "table" "LMatchTrees$Table;", Cond.fieldLink RX10 44 "MatchTrees$Table" "columns" "I", Cond.methodLink RX10 199 yX10_build, Cond.static yX10_build, Cond.code yX10_build cX10_build 10 none, Cond.fieldLink RX10 203 "MatchTrees$Table" "budget" "I", Cond.fieldLink RX10 103 "MatchTrees$Groups" "count" "I", Cond.fieldLink RX10 104 "MatchTrees$Groups" "arms" "[I", Cond.methodLink RX10 206 yX10_openScope, Cond.instanceMethod yX10_openScope]
def wsX11_scopes_r3 : List Cond := [Cond.selects RX10 yX10_openScope yX10_openScope, Cond.code yX10_openScope cX10_openScope 1 none, Cond.methodLink RX10 116 Lib.Math.max.name, Cond.static Lib.Math.max.name, Cond.initialized "java/lang/Math", Cond.code Lib.Math.max.name Lib.Math.max.code 2 (some .int), Cond.methodLink RX10 145 yX10_columnAsked, Cond.instanceMethod yX10_columnAsked, Cond.selects RX10 yX10_columnAsked yX10_columnAsked, Cond.code yX10_columnAsked cX10_columnAsked 8 (some .int), Cond.fieldLink RX10 74 "MatchTrees$Table" "full" "[I", Cond.methodLink RX10 64 yX5_firstOf, Cond.instanceMethod yX5_firstOf, Cond.selects RX5 yX5_firstOf yX5_firstOf, Cond.code yX5_firstOf cX5_firstOf 3 (some .int), Cond.static yX11_isIn, Cond.code yX11_isIn cX11_isIn 2 (some .boolean), Cond.methodLink RX10 77 yX10_costOf, Cond.instanceMethod yX10_costOf, Cond.selects RX10 yX10_costOf yX10_costOf, Cond.code yX10_costOf cX10_costOf 3 (some .int), Cond.methodLink RX10 83 yX10_notFullInRow, Cond.instanceMethod yX10_notFullInRow, Cond.selects RX10 yX10_notFullInRow yX10_notFullInRow]
def wsX11_scopes_r4 : List Cond := [Cond.code yX10_notFullInRow cX10_notFullInRow 6 (some .int), Cond.fieldLink RX10 92 "MatchTrees$Order" "count" "I", Cond.fieldLink RX10 95 "MatchTrees$Order" "arm" "[I", Cond.methodLink RX10 86 yX10_countBranches, Cond.instanceMethod yX10_countBranches, Cond.selects RX10 yX10_countBranches yX10_countBranches, Cond.code yX10_countBranches cX10_countBranches 5 (some .int), Cond.fieldLink RX10 37 "MatchTrees$Trees" "marks" "LMatchTrees$Marks;", Cond.fieldLink RX10 11 "MatchTrees$Trees" "column" "[LMatchTrees$Groups;", Cond.methodLink RX10 98 yX4_renew, Cond.instanceMethod yX4_renew, Cond.selects RX4 yX4_renew yX4_renew, Cond.initialized RX4, Cond.code yX4_renew cX4_renew 1 none, Cond.fieldLink RX4 18 "MatchTrees$Marks" "now" "I", Cond.methodLink RX10 107 yX4_isNew, Cond.instanceMethod yX4_isNew, Cond.selects RX4 yX4_isNew yX4_isNew, Cond.code yX4_isNew cX4_isNew 2 (some .boolean), Cond.fieldLink RX4 9 "MatchTrees$Marks" "time" "[I", Cond.methodLink RX10 89 yX10_mostArms, Cond.instanceMethod yX10_mostArms, Cond.selects RX10 yX10_mostArms yX10_mostArms, Cond.code yX10_mostArms cX10_mostArms 5 (some .int)]
def wsX11_scopes_r5 : List Cond := [Cond.methodLink RX10 111 yJ6_bitCount_0f7a4, Cond.static yJ6_bitCount_0f7a4, Cond.initialized RJ6, Cond.code yJ6_bitCount_0f7a4 cJ6_bitCount_0f7a4 1 (some .int), Cond.constant RJ6 265 (1431655765), Cond.constant RJ6 266 (858993459), Cond.constant RJ6 267 (252645135), Cond.methodLink RX10 154 yX10_split, Cond.instanceMethod yX10_split, Cond.selects RX10 yX10_split yX10_split, Cond.code yX10_split cX10_split 6 (some (.object "MatchTrees$Groups")), Cond.fieldLink RX10 17 "MatchTrees$Trees" "branch" "[LMatchTrees$Groups;", Cond.methodLink RX10 121 Lib.Math.min.name, Cond.static Lib.Math.min.name, Cond.code Lib.Math.min.name Lib.Math.min.code 2 (some .int), Cond.methodLink RX10 50 yX2_begin, Cond.instanceMethod yX2_begin, Cond.selects RX2 yX2_begin yX2_begin, Cond.initialized RX2, Cond.code yX2_begin cX2_begin 1 none, Cond.fieldLink RX2 28 "MatchTrees$Groups" "count" "I", Cond.fieldLink RX2 24 "MatchTrees$Groups" "marks" "LMatchTrees$Marks;", Cond.methodLink RX2 32 yX4_renew, Cond.methodLink RX10 124 yX2_addParts]
def wsX11_scopes_r6 : List Cond := [Cond.instanceMethod yX2_addParts, Cond.selects RX2 yX2_addParts yX2_addParts, Cond.code yX2_addParts cX2_addParts 4 none, Cond.fieldLink RX2 15 "MatchTrees$Groups" "arms" "[I", Cond.fieldLink RX2 21 "MatchTrees$Groups" "size" "[I", Cond.methodLink RX2 44 yX2_add, Cond.instanceMethod yX2_add, Cond.selects RX2 yX2_add yX2_add, Cond.code yX2_add cX2_add 4 none, Cond.fieldLink RX2 41 "MatchTrees$Marks" "spot" "[I", Cond.methodLink RX2 37 yX4_isNew, Cond.methodLink RX10 148 yX9_guardOf, Cond.instanceMethod yX9_guardOf, Cond.selects RX9 yX9_guardOf yX9_guardOf, Cond.initialized RX9, Cond.code yX9_guardOf cX9_guardOf 2 (some .int), Cond.fieldLink RX9 46 "MatchTrees$Table" "arms" "I", Cond.fieldLink RX9 28 "MatchTrees$Table" "guard" "[I", Cond.methodLink RX10 209 yX10_shutScope, Cond.instanceMethod yX10_shutScope, Cond.selects RX10 yX10_shutScope yX10_shutScope, Cond.code yX10_shutScope cX10_shutScope 2 none, Cond.fieldLink RX10 25 "MatchTrees$Trees" "scopesShut" "[I", Cond.methodLink RX11 341 yX10_scopeShutAs]
def wsX11_scopes_r7 : List Cond := [Cond.instanceMethod yX10_scopeShutAs, Cond.selects RX10 yX10_scopeShutAs yX10_scopeShutAs, Cond.code yX10_scopeShutAs cX10_scopeShutAs 2 (some .int)]
def wsX11_scopes : List Cond := .code yX11_scopes cX11_scopes 4 (some .int) :: ((wsX11_scopes_r1 ++ (wsX11_scopes_r2 ++ (wsX11_scopes_r3 ++ (wsX11_scopes_r4 ++ (wsX11_scopes_r5 ++ (wsX11_scopes_r6 ++ wsX11_scopes_r7)))))) ++ wsX110 ++ wsX100 ++ wsX90 ++ wsX50 ++ wsX20 ++ wsX40)
def wsX11_safe_r1 : List Cond := [Cond.fieldLink RX11 43 "MatchTrees" "order" "LMatchTrees$Order;", Cond.fieldLink RX11 47 "MatchTrees" "trial" "LMatchTrees$Order;", Cond.methodLink RX11 344 yX5_isPlace, Cond.instanceMethod yX5_isPlace, Cond.selects RX5 yX5_isPlace yX5_isPlace, Cond.initialized RX5, Cond.code yX5_isPlace cX5_isPlace 2 (some .boolean), Cond.fieldLink RX5 24 "MatchTrees$Order" "count" "I", Cond.methodLink RX11 347 yX5_copy, Cond.instanceMethod yX5_copy, Cond.selects RX5 yX5_copy yX5_copy, Cond.code yX5_copy cX5_copy 3 none, Cond.fieldLink RX5 9 "MatchTrees$Order" "arm" "[I", Cond.fieldLink RX5 28 "MatchTrees$Order" "on" "I", Cond.fieldLink RX5 31 "MatchTrees$Order" "rule" "I", Cond.methodLink RX11 350 yX5_exchange, Cond.instanceMethod yX5_exchange, Cond.selects RX5 yX5_exchange yX5_exchange, Cond.code yX5_exchange cX5_exchange 4 none, Cond.methodLink RX5 34 yX5_isPlace, Cond.methodLink RX11 353 yX11_trialTakesAlike, Cond.instanceMethod yX11_trialTakesAlike, Cond.selects RX11 yX11_trialTakesAlike yX11_trialTakesAlike, Cond.initialized RX11]
def wsX11_safe_r2 : List Cond := [Cond.code yX11_trialTakesAlike cX11_trialTakesAlike 3 (some .boolean), Cond.fieldLink RX11 33 "MatchTrees" "rowGroups" "LMatchTrees$Groups;", Cond.fieldLink RX11 231 "MatchTrees$Groups" "count" "I", Cond.fieldLink RX11 232 "MatchTrees$Groups" "arms" "[I", Cond.fieldLink RX11 71 "MatchTrees" "table" "LMatchTrees$Table;", Cond.methodLink RX11 356 yX5_takings, Cond.instanceMethod yX5_takings, Cond.selects RX5 yX5_takings yX5_takings, Cond.code yX5_takings cX5_takings 9 (some .long), Cond.constantLong RX5 48 (13), Cond.methodLink RX5 42 yX9_guardOf, Cond.instanceMethod yX9_guardOf, Cond.selects RX9 yX9_guardOf yX9_guardOf, Cond.initialized RX9, Cond.code yX9_guardOf cX9_guardOf 2 (some .int), Cond.fieldLink RX9 46 "MatchTrees$Table" "arms" "I", Cond.fieldLink RX9 28 "MatchTrees$Table" "guard" "[I", Cond.static yX11_isIn, Cond.code yX11_isIn cX11_isIn 2 (some .boolean)]
def wsX11_safe : List Cond := .code yX11_safe cX11_safe 3 (some .int) :: ((wsX11_safe_r1 ++ wsX11_safe_r2) ++ wsX110 ++ wsX50 ++ wsX20 ++ wsX90)
def wsX11_best_r1 : List Cond := [Cond.fieldLink RX11 43 "MatchTrees" "order" "LMatchTrees$Order;", Cond.fieldLink RX11 176 "MatchTrees$Order" "count" "I", Cond.fieldLink RX11 47 "MatchTrees" "trial" "LMatchTrees$Order;", Cond.methodLink RX11 204 yX11_matched, Cond.instanceMethod yX11_matched, Cond.selects RX11 yX11_matched yX11_matched, Cond.initialized RX11, Cond.code yX11_matched cX11_matched 1 (some .boolean), Cond.fieldLink RX11 71 "MatchTrees" "table" "LMatchTrees$Table;", Cond.fieldLink RX11 130 "MatchTrees$Table" "columns" "I", Cond.methodLink RX11 360 yX11_allTests, Cond.instanceMethod yX11_allTests, Cond.selects RX11 yX11_allTests yX11_allTests, Cond.code yX11_allTests cX11_allTests 2 (some .int), Cond.fieldLink RX11 92 "MatchTrees" "trees" "LMatchTrees$Trees;", Cond.fieldLink RX11 180 "MatchTrees$Order" "rule" "I", Cond.methodLink RX11 306 yX10_measureAll, Cond.instanceMethod yX10_measureAll, Cond.selects RX10 yX10_measureAll yX10_measureAll, Cond.initialized RX10, Cond.code yX10_measureAll cX10_measureAll 3 (some .long), Cond.fieldLink RX10 33 "MatchTrees$Trees" "order" "LMatchTrees$Order;", Cond.fieldLink RX10 80 "MatchTrees$Trees" "rule" "I", Cond.fieldLink RX10 128 "MatchTrees$Trees" "now" "I"]
def wsX11_best_r2 : List Cond := [Cond.fieldLink RX10 131 "MatchTrees$Trees" "unlike" "I", Cond.methodLink RX10 134 yX5_allArms, Cond.instanceMethod yX5_allArms, Cond.selects RX5 yX5_allArms yX5_allArms, Cond.initialized RX5, Cond.code yX5_allArms cX5_allArms 3 (some .int), Cond.fieldLink RX5 24 "MatchTrees$Order" "count" "I", Cond.fieldLink RX5 9 "MatchTrees$Order" "arm" "[I", Cond.methodLink RX10 138 yX10_allColumns, Cond.instanceMethod yX10_allColumns, Cond.selects RX10 yX10_allColumns yX10_allColumns, Cond.code yX10_allColumns cX10_allColumns 1 (some .int), Cond.fieldLink RX10 29 "MatchTrees$Trees" "table" "LMatchTrees$Table;", Cond.fieldLink RX10 44 "MatchTrees$Table" "columns" "I", Cond.methodLink RX10 141 yX10_measure, Cond.static yX10_measure, Cond.code yX10_measure cX10_measure 16 (some .long), Cond.constant RX10 20 (65536), Cond.fieldLink RX10 21 "MatchTrees$Trees" "counted" "[J", Cond.fieldLink RX10 103 "MatchTrees$Groups" "count" "I", Cond.fieldLink RX10 104 "MatchTrees$Groups" "arms" "[I", Cond.constant RX10 158 (1000000), Cond.methodLink RX10 121 Lib.Math.min.name, Cond.static Lib.Math.min.name]
def wsX11_best_r3 : List Cond := [Cond.initialized "java/lang/Math", Cond.code Lib.Math.min.name Lib.Math.min.code 2 (some .int), Cond.fieldLink RX10 163 "MatchTrees$Groups" "size" "[I", Cond.methodLink RX10 116 Lib.Math.max.name, Cond.static Lib.Math.max.name, Cond.code Lib.Math.max.name Lib.Math.max.code 2 (some .int), Cond.fieldLink RX10 170 "MatchTrees$Order" "on" "I", Cond.methodLink RX10 145 yX10_columnAsked, Cond.instanceMethod yX10_columnAsked, Cond.selects RX10 yX10_columnAsked yX10_columnAsked, Cond.code yX10_columnAsked cX10_columnAsked 8 (some .int), Cond.fieldLink RX10 74 "MatchTrees$Table" "full" "[I", Cond.methodLink RX10 64 yX5_firstOf, Cond.instanceMethod yX5_firstOf, Cond.selects RX5 yX5_firstOf yX5_firstOf, Cond.code yX5_firstOf cX5_firstOf 3 (some .int), Cond.static yX11_isIn, Cond.code yX11_isIn cX11_isIn 2 (some .boolean), Cond.methodLink RX10 77 yX10_costOf, Cond.instanceMethod yX10_costOf, Cond.selects RX10 yX10_costOf yX10_costOf, Cond.code yX10_costOf cX10_costOf 3 (some .int), Cond.methodLink RX10 83 yX10_notFullInRow, Cond.instanceMethod yX10_notFullInRow]
def wsX11_best_r4 : List Cond := [Cond.selects RX10 yX10_notFullInRow yX10_notFullInRow, Cond.code yX10_notFullInRow cX10_notFullInRow 6 (some .int), Cond.fieldLink RX10 92 "MatchTrees$Order" "count" "I", Cond.fieldLink RX10 95 "MatchTrees$Order" "arm" "[I", Cond.methodLink RX10 86 yX10_countBranches, Cond.instanceMethod yX10_countBranches, Cond.selects RX10 yX10_countBranches yX10_countBranches, Cond.code yX10_countBranches cX10_countBranches 5 (some .int), Cond.fieldLink RX10 37 "MatchTrees$Trees" "marks" "LMatchTrees$Marks;", Cond.fieldLink RX10 11 "MatchTrees$Trees" "column" "[LMatchTrees$Groups;", Cond.methodLink RX10 98 yX4_renew, Cond.instanceMethod yX4_renew, Cond.selects RX4 yX4_renew yX4_renew, Cond.initialized RX4, Cond.code yX4_renew cX4_renew 1 none, Cond.fieldLink RX4 18 "MatchTrees$Marks" "now" "I", Cond.methodLink RX10 107 yX4_isNew, Cond.instanceMethod yX4_isNew, Cond.selects RX4 yX4_isNew yX4_isNew, Cond.code yX4_isNew cX4_isNew 2 (some .boolean), Cond.fieldLink RX4 9 "MatchTrees$Marks" "time" "[I", Cond.methodLink RX10 89 yX10_mostArms, Cond.instanceMethod yX10_mostArms, Cond.selects RX10 yX10_mostArms yX10_mostArms]
def wsX11_best_r5 : List Cond := [Cond.code yX10_mostArms cX10_mostArms 5 (some .int), Cond.methodLink RX10 111 yJ6_bitCount_0f7a4, Cond.static yJ6_bitCount_0f7a4, Cond.initialized RJ6, Cond.code yJ6_bitCount_0f7a4 cJ6_bitCount_0f7a4 1 (some .int), Cond.constant RJ6 265 (1431655765), Cond.constant RJ6 266 (858993459), Cond.constant RJ6 267 (252645135), Cond.methodLink RX10 148 yX9_guardOf, Cond.instanceMethod yX9_guardOf, Cond.selects RX9 yX9_guardOf yX9_guardOf, Cond.initialized RX9, Cond.code yX9_guardOf cX9_guardOf 2 (some .int), Cond.fieldLink RX9 46 "MatchTrees$Table" "arms" "I", Cond.fieldLink RX9 28 "MatchTrees$Table" "guard" "[I", Cond.methodLink RX10 151 yX10_rowsOf, Cond.instanceMethod yX10_rowsOf, Cond.selects RX10 yX10_rowsOf yX10_rowsOf, Cond.code yX10_rowsOf cX10_rowsOf 4 (some .int), Cond.fieldLink RX10 53 "MatchTrees$Table" "size" "[I", Cond.methodLink RX10 154 yX10_split, Cond.instanceMethod yX10_split, Cond.selects RX10 yX10_split yX10_split, Cond.code yX10_split cX10_split 6 (some (.object "MatchTrees$Groups"))]
def wsX11_best_r6 : List Cond := [Cond.fieldLink RX10 17 "MatchTrees$Trees" "branch" "[LMatchTrees$Groups;", Cond.methodLink RX10 50 yX2_begin, Cond.instanceMethod yX2_begin, Cond.selects RX2 yX2_begin yX2_begin, Cond.initialized RX2, Cond.code yX2_begin cX2_begin 1 none, Cond.fieldLink RX2 28 "MatchTrees$Groups" "count" "I", Cond.fieldLink RX2 24 "MatchTrees$Groups" "marks" "LMatchTrees$Marks;", Cond.methodLink RX2 32 yX4_renew, Cond.methodLink RX10 124 yX2_addParts, Cond.instanceMethod yX2_addParts, Cond.selects RX2 yX2_addParts yX2_addParts, Cond.code yX2_addParts cX2_addParts 4 none, Cond.fieldLink RX2 15 "MatchTrees$Groups" "arms" "[I", Cond.fieldLink RX2 21 "MatchTrees$Groups" "size" "[I", Cond.methodLink RX2 44 yX2_add, Cond.instanceMethod yX2_add, Cond.selects RX2 yX2_add yX2_add, Cond.code yX2_add cX2_add 4 none, Cond.fieldLink RX2 41 "MatchTrees$Marks" "spot" "[I", Cond.methodLink RX2 37 yX4_isNew, Cond.methodLink RX10 159 yX10_nodesIn, Cond.static yX10_nodesIn, Cond.code yX10_nodesIn cX10_nodesIn 2 (some .int)]
def wsX11_best_r7 : List Cond := [Cond.constantLong RX10 173 (1048575), Cond.methodLink RX10 164 yX10_testsIn, Cond.static yX10_testsIn, Cond.code yX10_testsIn cX10_testsIn 2 (some .int), Cond.constantLong RX10 175 (131071), Cond.methodLink RX10 167 yX10_longestIn, Cond.static yX10_longestIn, Cond.code yX10_longestIn cX10_longestIn 2 (some .int), Cond.constantLong RX10 177 (7), Cond.methodLink RX11 320 yX10_testsIn, Cond.methodLink RX11 347 yX5_copy, Cond.instanceMethod yX5_copy, Cond.selects RX5 yX5_copy yX5_copy, Cond.code yX5_copy cX5_copy 3 none, Cond.fieldLink RX5 28 "MatchTrees$Order" "on" "I", Cond.fieldLink RX5 31 "MatchTrees$Order" "rule" "I", Cond.methodLink RX11 350 yX5_exchange, Cond.instanceMethod yX5_exchange, Cond.selects RX5 yX5_exchange yX5_exchange, Cond.code yX5_exchange cX5_exchange 4 none, Cond.methodLink RX5 34 yX5_isPlace, Cond.instanceMethod yX5_isPlace, Cond.selects RX5 yX5_isPlace yX5_isPlace, Cond.code yX5_isPlace cX5_isPlace 2 (some .boolean)]
def wsX11_best_r8 : List Cond := [Cond.methodLink RX11 353 yX11_trialTakesAlike, Cond.instanceMethod yX11_trialTakesAlike, Cond.selects RX11 yX11_trialTakesAlike yX11_trialTakesAlike, Cond.code yX11_trialTakesAlike cX11_trialTakesAlike 3 (some .boolean), Cond.fieldLink RX11 33 "MatchTrees" "rowGroups" "LMatchTrees$Groups;", Cond.fieldLink RX11 231 "MatchTrees$Groups" "count" "I", Cond.fieldLink RX11 232 "MatchTrees$Groups" "arms" "[I", Cond.methodLink RX11 356 yX5_takings, Cond.instanceMethod yX5_takings, Cond.selects RX5 yX5_takings yX5_takings, Cond.code yX5_takings cX5_takings 9 (some .long), Cond.constantLong RX5 48 (13), Cond.methodLink RX5 42 yX9_guardOf]
def wsX11_best : List Cond := .code yX11_best cX11_best 6 (some .int) :: ((wsX11_best_r1 ++ (wsX11_best_r2 ++ (wsX11_best_r3 ++ (wsX11_best_r4 ++ (wsX11_best_r5 ++ (wsX11_best_r6 ++ (wsX11_best_r7 ++ wsX11_best_r8))))))) ++ wsX110 ++ wsX50 ++ wsX90 ++ wsX100 ++ wsX20 ++ wsX40)
def wsX11_see_r1 : List Cond := [Cond.fieldLink RX11 60 "MatchTrees" "seen" "LMatchTrees$Seen;", Cond.fieldLink RX11 14 "MatchTrees" "tape" "LMatchTrees$Bytes;", Cond.fieldLink RX11 71 "MatchTrees" "table" "LMatchTrees$Table;", Cond.fieldLink RX11 43 "MatchTrees" "order" "LMatchTrees$Order;", Cond.fieldLink RX11 100 "MatchTrees$Bytes" "length" "I", Cond.fieldLink RX11 153 "MatchTrees$Seen" "count" "I", Cond.methodLink RX11 204 yX11_matched, Cond.instanceMethod yX11_matched, Cond.selects RX11 yX11_matched yX11_matched, Cond.initialized RX11, Cond.code yX11_matched cX11_matched 1 (some .boolean), Cond.fieldLink RX11 130 "MatchTrees$Table" "columns" "I", Cond.methodLink RX11 364 yX8_read, Cond.instanceMethod yX8_read, Cond.selects RX8 yX8_read yX8_read, Cond.initialized RX8, Cond.code yX8_read cX8_read 7 (some .boolean), Cond.fieldLink RX8 24 "MatchTrees$Bytes" "length" "I", Cond.fieldLink RX8 49 "MatchTrees$Seen" "count" "I", Cond.fieldLink RX8 9 "MatchTrees$Seen" "row" "[I", Cond.fieldLink RX8 15 "MatchTrees$Seen" "arm" "[I", Cond.methodLink RX8 30 yX1_byteAt, Cond.instanceMethod yX1_byteAt, Cond.selects RX1 yX1_byteAt yX1_byteAt]
def wsX11_see_r2 : List Cond := [Cond.initialized RX1, Cond.code yX1_byteAt cX1_byteAt 2 (some .int), Cond.fieldLink RX1 21 "MatchTrees$Bytes" "length" "I", Cond.fieldLink RX1 15 "MatchTrees$Bytes" "bytes" "[I", Cond.methodLink RX8 34 yX8_rowOn, Cond.static yX8_rowOn, Cond.code yX8_rowOn cX8_rowOn 2 (some .int), Cond.methodLink RX8 38 yX9_isRow, Cond.instanceMethod yX9_isRow, Cond.selects RX9 yX9_isRow yX9_isRow, Cond.initialized RX9, Cond.code yX9_isRow cX9_isRow 2 (some .boolean), Cond.fieldLink RX9 43 "MatchTrees$Table" "rows" "I", Cond.methodLink RX8 44 yX5_isPlace, Cond.instanceMethod yX5_isPlace, Cond.selects RX5 yX5_isPlace yX5_isPlace, Cond.initialized RX5, Cond.code yX5_isPlace cX5_isPlace 2 (some .boolean), Cond.fieldLink RX5 24 "MatchTrees$Order" "count" "I", Cond.methodLink RX8 52 yX5_armAt, Cond.instanceMethod yX5_armAt, Cond.selects RX5 yX5_armAt yX5_armAt, Cond.code yX5_armAt cX5_armAt 2 (some .int), Cond.fieldLink RX5 9 "MatchTrees$Order" "arm" "[I"]
def wsX11_see_r3 : List Cond := [Cond.methodLink RX5 34 yX5_isPlace, Cond.methodLink RX11 103 yX11_refuse, Cond.instanceMethod yX11_refuse, Cond.selects RX11 yX11_refuse yX11_refuse, Cond.code yX11_refuse cX11_refuse 2 (some .boolean), Cond.fieldLink RX11 64 "MatchTrees" "refused" "[I"]
def wsX11_see : List Cond := .code yX11_see cX11_see 2 (some .int) :: ((wsX11_see_r1 ++ (wsX11_see_r2 ++ wsX11_see_r3)) ++ wsX110 ++ wsX10 ++ wsX80 ++ wsX90 ++ wsX50)
def wsX11_sets_r1 : List Cond := [Cond.fieldLink RX11 60 "MatchTrees" "seen" "LMatchTrees$Seen;", Cond.fieldLink RX11 71 "MatchTrees" "table" "LMatchTrees$Table;", Cond.fieldLink RX11 43 "MatchTrees" "order" "LMatchTrees$Order;", Cond.fieldLink RX11 372 "MatchTrees$Seen" "sets" "I", Cond.fieldLink RX11 375 "MatchTrees$Seen" "set" "[I", Cond.methodLink RX11 204 yX11_matched, Cond.instanceMethod yX11_matched, Cond.selects RX11 yX11_matched yX11_matched, Cond.initialized RX11, Cond.code yX11_matched cX11_matched 1 (some .boolean), Cond.fieldLink RX11 130 "MatchTrees$Table" "columns" "I", Cond.methodLink RX11 368 yX8_findSets, Cond.instanceMethod yX8_findSets, Cond.selects RX8 yX8_findSets yX8_findSets, Cond.initialized RX8, Cond.code yX8_findSets cX8_findSets 4 none, Cond.fieldLink RX8 55 "MatchTrees$Seen" "sets" "I", Cond.fieldLink RX8 18 "MatchTrees$Seen" "set" "[I", Cond.methodLink RX8 58 yX8_agrees, Cond.instanceMethod yX8_agrees, Cond.selects RX8 yX8_agrees yX8_agrees, Cond.code yX8_agrees cX8_agrees 6 (some .boolean), Cond.fieldLink RX8 49 "MatchTrees$Seen" "count" "I", Cond.fieldLink RX8 9 "MatchTrees$Seen" "row" "[I"]
def wsX11_sets_r2 : List Cond := [Cond.fieldLink RX8 15 "MatchTrees$Seen" "arm" "[I", Cond.methodLink RX8 62 yX9_armsOf, Cond.instanceMethod yX9_armsOf, Cond.selects RX9 yX9_armsOf yX9_armsOf, Cond.initialized RX9, Cond.code yX9_armsOf cX9_armsOf 6 (some .int), Cond.fieldLink RX9 46 "MatchTrees$Table" "arms" "I", Cond.fieldLink RX9 39 "MatchTrees$Table" "columns" "I", Cond.fieldLink RX9 22 "MatchTrees$Table" "size" "[I", Cond.methodLink RX9 59 Lib.Math.max.name, Cond.static Lib.Math.max.name, Cond.initialized "java/lang/Math", Cond.code Lib.Math.max.name Lib.Math.max.code 2 (some .int), Cond.methodLink RX9 65 yX9_armsFitting, Cond.instanceMethod yX9_armsFitting, Cond.selects RX9 yX9_armsFitting yX9_armsFitting, Cond.code yX9_armsFitting cX9_armsFitting 3 (some .int), Cond.fieldLink RX9 33 "MatchTrees$Table" "fitting" "[[I", Cond.methodLink RX8 65 yX5_placeTaking, Cond.instanceMethod yX5_placeTaking, Cond.selects RX5 yX5_placeTaking yX5_placeTaking, Cond.initialized RX5, Cond.code yX5_placeTaking cX5_placeTaking 6 (some .int), Cond.fieldLink RX5 24 "MatchTrees$Order" "count" "I"]
def wsX11_sets_r3 : List Cond := [Cond.fieldLink RX5 9 "MatchTrees$Order" "arm" "[I", Cond.static yX11_isIn, Cond.code yX11_isIn cX11_isIn 2 (some .boolean), Cond.methodLink RX5 42 yX9_guardOf, Cond.instanceMethod yX9_guardOf, Cond.selects RX9 yX9_guardOf yX9_guardOf, Cond.code yX9_guardOf cX9_guardOf 2 (some .int), Cond.fieldLink RX9 28 "MatchTrees$Table" "guard" "[I", Cond.methodLink RX8 52 yX5_armAt, Cond.instanceMethod yX5_armAt, Cond.selects RX5 yX5_armAt yX5_armAt, Cond.code yX5_armAt cX5_armAt 2 (some .int), Cond.methodLink RX5 34 yX5_isPlace, Cond.instanceMethod yX5_isPlace, Cond.selects RX5 yX5_isPlace yX5_isPlace, Cond.code yX5_isPlace cX5_isPlace 2 (some .boolean)]
def wsX11_sets : List Cond := .code yX11_sets cX11_sets 2 (some .int) :: ((wsX11_sets_r1 ++ (wsX11_sets_r2 ++ wsX11_sets_r3)) ++ wsX110 ++ wsX80 ++ wsX90 ++ wsX50)
def wsX11_tells_r1 : List Cond := [Cond.fieldLink RX11 60 "MatchTrees" "seen" "LMatchTrees$Seen;", Cond.fieldLink RX11 71 "MatchTrees" "table" "LMatchTrees$Table;", Cond.fieldLink RX11 43 "MatchTrees" "order" "LMatchTrees$Order;", Cond.fieldLink RX11 372 "MatchTrees$Seen" "sets" "I", Cond.fieldLink RX11 24 "MatchTrees" "marks" "LMatchTrees$Marks;", Cond.fieldLink RX11 173 "MatchTrees$Table" "rows" "I", Cond.methodLink RX11 204 yX11_matched, Cond.instanceMethod yX11_matched, Cond.selects RX11 yX11_matched yX11_matched, Cond.initialized RX11, Cond.code yX11_matched cX11_matched 1 (some .boolean), Cond.fieldLink RX11 130 "MatchTrees$Table" "columns" "I", Cond.methodLink RX11 368 yX8_findSets, Cond.instanceMethod yX8_findSets, Cond.selects RX8 yX8_findSets yX8_findSets, Cond.initialized RX8, Cond.code yX8_findSets cX8_findSets 4 none, Cond.fieldLink RX8 55 "MatchTrees$Seen" "sets" "I", Cond.fieldLink RX8 18 "MatchTrees$Seen" "set" "[I", Cond.methodLink RX8 58 yX8_agrees, Cond.instanceMethod yX8_agrees, Cond.selects RX8 yX8_agrees yX8_agrees, Cond.code yX8_agrees cX8_agrees 6 (some .boolean), Cond.fieldLink RX8 49 "MatchTrees$Seen" "count" "I"]
def wsX11_tells_r2 : List Cond := [Cond.fieldLink RX8 9 "MatchTrees$Seen" "row" "[I", Cond.fieldLink RX8 15 "MatchTrees$Seen" "arm" "[I", Cond.methodLink RX8 62 yX9_armsOf, Cond.instanceMethod yX9_armsOf, Cond.selects RX9 yX9_armsOf yX9_armsOf, Cond.initialized RX9, Cond.code yX9_armsOf cX9_armsOf 6 (some .int), Cond.fieldLink RX9 46 "MatchTrees$Table" "arms" "I", Cond.fieldLink RX9 39 "MatchTrees$Table" "columns" "I", Cond.fieldLink RX9 22 "MatchTrees$Table" "size" "[I", Cond.methodLink RX9 59 Lib.Math.max.name, Cond.static Lib.Math.max.name, Cond.initialized "java/lang/Math", Cond.code Lib.Math.max.name Lib.Math.max.code 2 (some .int), Cond.methodLink RX9 65 yX9_armsFitting, Cond.instanceMethod yX9_armsFitting, Cond.selects RX9 yX9_armsFitting yX9_armsFitting, Cond.code yX9_armsFitting cX9_armsFitting 3 (some .int), Cond.fieldLink RX9 33 "MatchTrees$Table" "fitting" "[[I", Cond.methodLink RX8 65 yX5_placeTaking, Cond.instanceMethod yX5_placeTaking, Cond.selects RX5 yX5_placeTaking yX5_placeTaking, Cond.initialized RX5, Cond.code yX5_placeTaking cX5_placeTaking 6 (some .int)]
def wsX11_tells_r3 : List Cond := [Cond.fieldLink RX5 24 "MatchTrees$Order" "count" "I", Cond.fieldLink RX5 9 "MatchTrees$Order" "arm" "[I", Cond.static yX11_isIn, Cond.code yX11_isIn cX11_isIn 2 (some .boolean), Cond.methodLink RX5 42 yX9_guardOf, Cond.instanceMethod yX9_guardOf, Cond.selects RX9 yX9_guardOf yX9_guardOf, Cond.code yX9_guardOf cX9_guardOf 2 (some .int), Cond.fieldLink RX9 28 "MatchTrees$Table" "guard" "[I", Cond.methodLink RX8 52 yX5_armAt, Cond.instanceMethod yX5_armAt, Cond.selects RX5 yX5_armAt yX5_armAt, Cond.code yX5_armAt cX5_armAt 2 (some .int), Cond.methodLink RX5 34 yX5_isPlace, Cond.instanceMethod yX5_isPlace, Cond.selects RX5 yX5_isPlace yX5_isPlace, Cond.code yX5_isPlace cX5_isPlace 2 (some .boolean), Cond.methodLink RX11 378 yX4_renew, Cond.instanceMethod yX4_renew, Cond.selects RX4 yX4_renew yX4_renew, Cond.initialized RX4, Cond.code yX4_renew cX4_renew 1 none, Cond.fieldLink RX4 18 "MatchTrees$Marks" "now" "I", Cond.methodLink RX11 255 yX9_armsOf]
def wsX11_tells_r4 : List Cond := [Cond.methodLink RX11 381 yX4_isNew, Cond.instanceMethod yX4_isNew, Cond.selects RX4 yX4_isNew yX4_isNew, Cond.code yX4_isNew cX4_isNew 2 (some .boolean), Cond.fieldLink RX4 9 "MatchTrees$Marks" "time" "[I", Cond.methodLink RX11 384 yX8_mostLeft, Cond.instanceMethod yX8_mostLeft, Cond.selects RX8 yX8_mostLeft yX8_mostLeft, Cond.code yX8_mostLeft cX8_mostLeft 7 (some .int), Cond.fieldLink RX8 21 "MatchTrees$Seen" "tally" "[I", Cond.methodLink RX8 69 Lib.Math.max.name]
def wsX11_tells : List Cond := .code yX11_tells cX11_tells 7 (some .int) :: ((wsX11_tells_r1 ++ (wsX11_tells_r2 ++ (wsX11_tells_r3 ++ wsX11_tells_r4))) ++ wsX110 ++ wsX80 ++ wsX90 ++ wsX50 ++ wsX40)
def wsX11_run_r1 : List Cond := [Cond.fieldLink RX11 71 "MatchTrees" "table" "LMatchTrees$Table;", Cond.methodLink RX11 258 yX9_isRow, Cond.instanceMethod yX9_isRow, Cond.selects RX9 yX9_isRow yX9_isRow, Cond.initialized RX9, Cond.code yX9_isRow cX9_isRow 2 (some .boolean), Cond.fieldLink RX9 43 "MatchTrees$Table" "rows" "I", Cond.methodLink RX11 103 yX11_refuse, Cond.instanceMethod yX11_refuse, Cond.selects RX11 yX11_refuse yX11_refuse, Cond.initialized RX11, Cond.code yX11_refuse cX11_refuse 2 (some .boolean), Cond.fieldLink RX11 64 "MatchTrees" "refused" "[I", Cond.methodLink RX11 388 yX11_remember, Cond.instanceMethod yX11_remember, Cond.selects RX11 yX11_remember yX11_remember, Cond.code yX11_remember cX11_remember 1 none, Cond.fieldLink RX11 53 "MatchTrees" "acts" "LMatchTrees$Acts;", Cond.fieldLink RX11 43 "MatchTrees" "order" "LMatchTrees$Order;", Cond.methodLink RX11 412 yX0_remember, Cond.instanceMethod yX0_remember, Cond.selects RX0 yX0_remember yX0_remember, Cond.initialized RX0, Cond.code yX0_remember cX0_remember 3 none]
def wsX11_run_r2 : List Cond := [Cond.fieldLink RX0 51 "MatchTrees$Acts" "next" "I", Cond.fieldLink RX0 23 "MatchTrees$Acts" "orderAhead" "[LMatchTrees$Order;", Cond.fieldLink RX0 27 "MatchTrees$Acts" "keptAhead" "[I", Cond.fieldLink RX0 31 "MatchTrees$Acts" "keptRows" "I", Cond.fieldLink RX0 35 "MatchTrees$Acts" "undoable" "I", Cond.methodLink RX0 38 Lib.Math.min.name, Cond.static Lib.Math.min.name, Cond.initialized "java/lang/Math", Cond.code Lib.Math.min.name Lib.Math.min.code 2 (some .int), Cond.methodLink RX0 44 yJ9_floorMod_7cf53, Cond.static yJ9_floorMod_7cf53, Cond.initialized RJ9, Cond.code yJ9_floorMod_7cf53 cJ9_floorMod_7cf53 3 (some .int), Cond.methodLink RX0 54 yX5_copy, Cond.instanceMethod yX5_copy, Cond.selects RX5 yX5_copy yX5_copy, Cond.initialized RX5, Cond.code yX5_copy cX5_copy 3 none, Cond.fieldLink RX5 9 "MatchTrees$Order" "arm" "[I", Cond.fieldLink RX5 24 "MatchTrees$Order" "count" "I", Cond.fieldLink RX5 28 "MatchTrees$Order" "on" "I", Cond.fieldLink RX5 31 "MatchTrees$Order" "rule" "I", Cond.methodLink RX11 391 yX11_runRow, Cond.instanceMethod yX11_runRow]
def wsX11_run_r3 : List Cond := [Cond.selects RX11 yX11_runRow yX11_runRow, Cond.code yX11_runRow cX11_runRow 3 (some .int), Cond.fieldLink RX11 177 "MatchTrees$Order" "on" "I", Cond.fieldLink RX11 92 "MatchTrees" "trees" "LMatchTrees$Trees;", Cond.methodLink RX11 255 yX9_armsOf, Cond.instanceMethod yX9_armsOf, Cond.selects RX9 yX9_armsOf yX9_armsOf, Cond.code yX9_armsOf cX9_armsOf 6 (some .int), Cond.fieldLink RX9 46 "MatchTrees$Table" "arms" "I", Cond.fieldLink RX9 39 "MatchTrees$Table" "columns" "I", Cond.fieldLink RX9 22 "MatchTrees$Table" "size" "[I", Cond.methodLink RX9 59 Lib.Math.max.name, Cond.static Lib.Math.max.name, Cond.code Lib.Math.max.name Lib.Math.max.code 2 (some .int), Cond.methodLink RX9 65 yX9_armsFitting, Cond.instanceMethod yX9_armsFitting, Cond.selects RX9 yX9_armsFitting yX9_armsFitting, Cond.code yX9_armsFitting cX9_armsFitting 3 (some .int), Cond.fieldLink RX9 33 "MatchTrees$Table" "fitting" "[[I", Cond.methodLink RX11 241 yX5_placeTaking, Cond.instanceMethod yX5_placeTaking, Cond.selects RX5 yX5_placeTaking yX5_placeTaking, Cond.code yX5_placeTaking cX5_placeTaking 6 (some .int), Cond.static yX11_isIn]
def wsX11_run_r4 : List Cond := [Cond.code yX11_isIn cX11_isIn 2 (some .boolean), Cond.methodLink RX5 42 yX9_guardOf, Cond.instanceMethod yX9_guardOf, Cond.selects RX9 yX9_guardOf yX9_guardOf, Cond.code yX9_guardOf cX9_guardOf 2 (some .int), Cond.fieldLink RX9 28 "MatchTrees$Table" "guard" "[I", Cond.methodLink RX11 212 yX5_armAt, Cond.instanceMethod yX5_armAt, Cond.selects RX5 yX5_armAt yX5_armAt, Cond.code yX5_armAt cX5_armAt 2 (some .int), Cond.methodLink RX5 34 yX5_isPlace, Cond.instanceMethod yX5_isPlace, Cond.selects RX5 yX5_isPlace yX5_isPlace, Cond.code yX5_isPlace cX5_isPlace 2 (some .boolean), Cond.methodLink RX11 394 yX10_columnsAsked, Cond.instanceMethod yX10_columnsAsked, Cond.selects RX10 yX10_columnsAsked yX10_columnsAsked, Cond.initialized RX10, Cond.code yX10_columnsAsked cX10_columnsAsked 10 (some .int), Cond.fieldLink RX10 33 "MatchTrees$Trees" "order" "LMatchTrees$Order;", Cond.fieldLink RX10 179 "MatchTrees$Order" "rule" "I", Cond.fieldLink RX10 80 "MatchTrees$Trees" "rule" "I", Cond.fieldLink RX10 29 "MatchTrees$Trees" "table" "LMatchTrees$Table;", Cond.fieldLink RX10 170 "MatchTrees$Order" "on" "I"]
def wsX11_run_r5 : List Cond := [Cond.methodLink RX10 134 yX5_allArms, Cond.instanceMethod yX5_allArms, Cond.selects RX5 yX5_allArms yX5_allArms, Cond.code yX5_allArms cX5_allArms 3 (some .int), Cond.methodLink RX10 138 yX10_allColumns, Cond.instanceMethod yX10_allColumns, Cond.selects RX10 yX10_allColumns yX10_allColumns, Cond.code yX10_allColumns cX10_allColumns 1 (some .int), Cond.fieldLink RX10 44 "MatchTrees$Table" "columns" "I", Cond.methodLink RX10 145 yX10_columnAsked, Cond.instanceMethod yX10_columnAsked, Cond.selects RX10 yX10_columnAsked yX10_columnAsked, Cond.code yX10_columnAsked cX10_columnAsked 8 (some .int), Cond.fieldLink RX10 74 "MatchTrees$Table" "full" "[I", Cond.methodLink RX10 64 yX5_firstOf, Cond.instanceMethod yX5_firstOf, Cond.selects RX5 yX5_firstOf yX5_firstOf, Cond.code yX5_firstOf cX5_firstOf 3 (some .int), Cond.methodLink RX10 77 yX10_costOf, Cond.instanceMethod yX10_costOf, Cond.selects RX10 yX10_costOf yX10_costOf, Cond.code yX10_costOf cX10_costOf 3 (some .int), Cond.methodLink RX10 83 yX10_notFullInRow, Cond.instanceMethod yX10_notFullInRow]
def wsX11_run_r6 : List Cond := [Cond.selects RX10 yX10_notFullInRow yX10_notFullInRow, Cond.code yX10_notFullInRow cX10_notFullInRow 6 (some .int), Cond.fieldLink RX10 92 "MatchTrees$Order" "count" "I", Cond.fieldLink RX10 95 "MatchTrees$Order" "arm" "[I", Cond.methodLink RX10 86 yX10_countBranches, Cond.instanceMethod yX10_countBranches, Cond.selects RX10 yX10_countBranches yX10_countBranches, Cond.code yX10_countBranches cX10_countBranches 5 (some .int), Cond.fieldLink RX10 37 "MatchTrees$Trees" "marks" "LMatchTrees$Marks;", Cond.fieldLink RX10 11 "MatchTrees$Trees" "column" "[LMatchTrees$Groups;", Cond.fieldLink RX10 103 "MatchTrees$Groups" "count" "I", Cond.fieldLink RX10 104 "MatchTrees$Groups" "arms" "[I", Cond.methodLink RX10 98 yX4_renew, Cond.instanceMethod yX4_renew, Cond.selects RX4 yX4_renew yX4_renew, Cond.initialized RX4, Cond.code yX4_renew cX4_renew 1 none, Cond.fieldLink RX4 18 "MatchTrees$Marks" "now" "I", Cond.methodLink RX10 107 yX4_isNew, Cond.instanceMethod yX4_isNew, Cond.selects RX4 yX4_isNew yX4_isNew, Cond.code yX4_isNew cX4_isNew 2 (some .boolean), Cond.fieldLink RX4 9 "MatchTrees$Marks" "time" "[I", Cond.methodLink RX10 89 yX10_mostArms]
def wsX11_run_r7 : List Cond := [Cond.instanceMethod yX10_mostArms, Cond.selects RX10 yX10_mostArms yX10_mostArms, Cond.code yX10_mostArms cX10_mostArms 5 (some .int), Cond.methodLink RX10 116 Lib.Math.max.name, Cond.methodLink RX10 111 yJ6_bitCount_0f7a4, Cond.static yJ6_bitCount_0f7a4, Cond.initialized RJ6, Cond.code yJ6_bitCount_0f7a4 cJ6_bitCount_0f7a4 1 (some .int), Cond.constant RJ6 265 (1431655765), Cond.constant RJ6 266 (858993459), Cond.constant RJ6 267 (252645135), Cond.methodLink RX10 180 yX9_valueOf, Cond.instanceMethod yX9_valueOf, Cond.selects RX9 yX9_valueOf yX9_valueOf, Cond.code yX9_valueOf cX9_valueOf 5 (some .int), Cond.methodLink RX10 56 yX9_armsFitting, Cond.methodLink RX10 148 yX9_guardOf, Cond.methodLink RX11 397 yX0_keep, Cond.instanceMethod yX0_keep, Cond.selects RX0 yX0_keep yX0_keep, Cond.code yX0_keep cX0_keep 5 none, Cond.fieldLink RX0 9 "MatchTrees$Acts" "row" "[I", Cond.fieldLink RX0 15 "MatchTrees$Acts" "arm" "[I", Cond.fieldLink RX0 18 "MatchTrees$Acts" "asked" "[I"]
def wsX11_run : List Cond := .code yX11_run cX11_run 2 (some .int) :: ((wsX11_run_r1 ++ (wsX11_run_r2 ++ (wsX11_run_r3 ++ (wsX11_run_r4 ++ (wsX11_run_r5 ++ (wsX11_run_r6 ++ wsX11_run_r7)))))) ++ wsX110 ++ wsX90 ++ wsX00 ++ wsX50 ++ wsX100 ++ wsX20 ++ wsX40)
def wsX11_chance_r1 : List Cond := [Cond.fieldLink RX11 71 "MatchTrees" "table" "LMatchTrees$Table;", Cond.fieldLink RX11 173 "MatchTrees$Table" "rows" "I", Cond.methodLink RX11 204 yX11_matched, Cond.instanceMethod yX11_matched, Cond.selects RX11 yX11_matched yX11_matched, Cond.initialized RX11, Cond.code yX11_matched cX11_matched 1 (some .boolean), Cond.fieldLink RX11 130 "MatchTrees$Table" "columns" "I", Cond.methodLink RX11 103 yX11_refuse, Cond.instanceMethod yX11_refuse, Cond.selects RX11 yX11_refuse yX11_refuse, Cond.code yX11_refuse cX11_refuse 2 (some .boolean), Cond.fieldLink RX11 64 "MatchTrees" "refused" "[I", Cond.methodLink RX11 388 yX11_remember, Cond.instanceMethod yX11_remember, Cond.selects RX11 yX11_remember yX11_remember, Cond.code yX11_remember cX11_remember 1 none, Cond.fieldLink RX11 53 "MatchTrees" "acts" "LMatchTrees$Acts;", Cond.fieldLink RX11 43 "MatchTrees" "order" "LMatchTrees$Order;", Cond.methodLink RX11 412 yX0_remember, Cond.instanceMethod yX0_remember, Cond.selects RX0 yX0_remember yX0_remember, Cond.initialized RX0, Cond.code yX0_remember cX0_remember 3 none]
def wsX11_chance_r2 : List Cond := [Cond.fieldLink RX0 51 "MatchTrees$Acts" "next" "I", Cond.fieldLink RX0 23 "MatchTrees$Acts" "orderAhead" "[LMatchTrees$Order;", Cond.fieldLink RX0 27 "MatchTrees$Acts" "keptAhead" "[I", Cond.fieldLink RX0 31 "MatchTrees$Acts" "keptRows" "I", Cond.fieldLink RX0 35 "MatchTrees$Acts" "undoable" "I", Cond.methodLink RX0 38 Lib.Math.min.name, Cond.static Lib.Math.min.name, Cond.initialized "java/lang/Math", Cond.code Lib.Math.min.name Lib.Math.min.code 2 (some .int), Cond.methodLink RX0 44 yJ9_floorMod_7cf53, Cond.static yJ9_floorMod_7cf53, Cond.initialized RJ9, Cond.code yJ9_floorMod_7cf53 cJ9_floorMod_7cf53 3 (some .int), Cond.methodLink RX0 54 yX5_copy, Cond.instanceMethod yX5_copy, Cond.selects RX5 yX5_copy yX5_copy, Cond.initialized RX5, Cond.code yX5_copy cX5_copy 3 none, Cond.fieldLink RX5 9 "MatchTrees$Order" "arm" "[I", Cond.fieldLink RX5 24 "MatchTrees$Order" "count" "I", Cond.fieldLink RX5 28 "MatchTrees$Order" "on" "I", Cond.fieldLink RX5 31 "MatchTrees$Order" "rule" "I", Cond.methodLink RX11 401 yX11_draw, Cond.instanceMethod yX11_draw]
def wsX11_chance_r3 : List Cond := [Cond.selects RX11 yX11_draw yX11_draw, Cond.code yX11_draw cX11_draw 2 (some .int), Cond.constant RX11 404 (1103515245), Cond.fieldLink RX11 96 "MatchTrees" "seedNow" "I", Cond.constant RX11 405 (2147483647), Cond.methodLink RX11 391 yX11_runRow, Cond.instanceMethod yX11_runRow, Cond.selects RX11 yX11_runRow yX11_runRow, Cond.code yX11_runRow cX11_runRow 3 (some .int), Cond.fieldLink RX11 177 "MatchTrees$Order" "on" "I", Cond.fieldLink RX11 92 "MatchTrees" "trees" "LMatchTrees$Trees;", Cond.methodLink RX11 255 yX9_armsOf, Cond.instanceMethod yX9_armsOf, Cond.selects RX9 yX9_armsOf yX9_armsOf, Cond.initialized RX9, Cond.code yX9_armsOf cX9_armsOf 6 (some .int), Cond.fieldLink RX9 46 "MatchTrees$Table" "arms" "I", Cond.fieldLink RX9 39 "MatchTrees$Table" "columns" "I", Cond.fieldLink RX9 22 "MatchTrees$Table" "size" "[I", Cond.methodLink RX9 59 Lib.Math.max.name, Cond.static Lib.Math.max.name, Cond.code Lib.Math.max.name Lib.Math.max.code 2 (some .int), Cond.methodLink RX9 65 yX9_armsFitting, Cond.instanceMethod yX9_armsFitting]
def wsX11_chance_r4 : List Cond := [Cond.selects RX9 yX9_armsFitting yX9_armsFitting, Cond.code yX9_armsFitting cX9_armsFitting 3 (some .int), Cond.fieldLink RX9 33 "MatchTrees$Table" "fitting" "[[I", Cond.methodLink RX11 241 yX5_placeTaking, Cond.instanceMethod yX5_placeTaking, Cond.selects RX5 yX5_placeTaking yX5_placeTaking, Cond.code yX5_placeTaking cX5_placeTaking 6 (some .int), Cond.static yX11_isIn, Cond.code yX11_isIn cX11_isIn 2 (some .boolean), Cond.methodLink RX5 42 yX9_guardOf, Cond.instanceMethod yX9_guardOf, Cond.selects RX9 yX9_guardOf yX9_guardOf, Cond.code yX9_guardOf cX9_guardOf 2 (some .int), Cond.fieldLink RX9 28 "MatchTrees$Table" "guard" "[I", Cond.methodLink RX11 212 yX5_armAt, Cond.instanceMethod yX5_armAt, Cond.selects RX5 yX5_armAt yX5_armAt, Cond.code yX5_armAt cX5_armAt 2 (some .int), Cond.methodLink RX5 34 yX5_isPlace, Cond.instanceMethod yX5_isPlace, Cond.selects RX5 yX5_isPlace yX5_isPlace, Cond.code yX5_isPlace cX5_isPlace 2 (some .boolean), Cond.methodLink RX11 394 yX10_columnsAsked, Cond.instanceMethod yX10_columnsAsked]
def wsX11_chance_r5 : List Cond := [Cond.selects RX10 yX10_columnsAsked yX10_columnsAsked, Cond.initialized RX10, Cond.code yX10_columnsAsked cX10_columnsAsked 10 (some .int), Cond.fieldLink RX10 33 "MatchTrees$Trees" "order" "LMatchTrees$Order;", Cond.fieldLink RX10 179 "MatchTrees$Order" "rule" "I", Cond.fieldLink RX10 80 "MatchTrees$Trees" "rule" "I", Cond.fieldLink RX10 29 "MatchTrees$Trees" "table" "LMatchTrees$Table;", Cond.fieldLink RX10 170 "MatchTrees$Order" "on" "I", Cond.methodLink RX10 134 yX5_allArms, Cond.instanceMethod yX5_allArms, Cond.selects RX5 yX5_allArms yX5_allArms, Cond.code yX5_allArms cX5_allArms 3 (some .int), Cond.methodLink RX10 138 yX10_allColumns, Cond.instanceMethod yX10_allColumns, Cond.selects RX10 yX10_allColumns yX10_allColumns, Cond.code yX10_allColumns cX10_allColumns 1 (some .int), Cond.fieldLink RX10 44 "MatchTrees$Table" "columns" "I", Cond.methodLink RX10 145 yX10_columnAsked, Cond.instanceMethod yX10_columnAsked, Cond.selects RX10 yX10_columnAsked yX10_columnAsked, Cond.code yX10_columnAsked cX10_columnAsked 8 (some .int), Cond.fieldLink RX10 74 "MatchTrees$Table" "full" "[I", Cond.methodLink RX10 64 yX5_firstOf, Cond.instanceMethod yX5_firstOf]
def wsX11_chance_r6 : List Cond := [Cond.selects RX5 yX5_firstOf yX5_firstOf, Cond.code yX5_firstOf cX5_firstOf 3 (some .int), Cond.methodLink RX10 77 yX10_costOf, Cond.instanceMethod yX10_costOf, Cond.selects RX10 yX10_costOf yX10_costOf, Cond.code yX10_costOf cX10_costOf 3 (some .int), Cond.methodLink RX10 83 yX10_notFullInRow, Cond.instanceMethod yX10_notFullInRow, Cond.selects RX10 yX10_notFullInRow yX10_notFullInRow, Cond.code yX10_notFullInRow cX10_notFullInRow 6 (some .int), Cond.fieldLink RX10 92 "MatchTrees$Order" "count" "I", Cond.fieldLink RX10 95 "MatchTrees$Order" "arm" "[I", Cond.methodLink RX10 86 yX10_countBranches, Cond.instanceMethod yX10_countBranches, Cond.selects RX10 yX10_countBranches yX10_countBranches, Cond.code yX10_countBranches cX10_countBranches 5 (some .int), Cond.fieldLink RX10 37 "MatchTrees$Trees" "marks" "LMatchTrees$Marks;", Cond.fieldLink RX10 11 "MatchTrees$Trees" "column" "[LMatchTrees$Groups;", Cond.fieldLink RX10 103 "MatchTrees$Groups" "count" "I", Cond.fieldLink RX10 104 "MatchTrees$Groups" "arms" "[I", Cond.methodLink RX10 98 yX4_renew, Cond.instanceMethod yX4_renew, Cond.selects RX4 yX4_renew yX4_renew, Cond.initialized RX4]
def wsX11_chance_r7 : List Cond := [Cond.code yX4_renew cX4_renew 1 none, Cond.fieldLink RX4 18 "MatchTrees$Marks" "now" "I", Cond.methodLink RX10 107 yX4_isNew, Cond.instanceMethod yX4_isNew, Cond.selects RX4 yX4_isNew yX4_isNew, Cond.code yX4_isNew cX4_isNew 2 (some .boolean), Cond.fieldLink RX4 9 "MatchTrees$Marks" "time" "[I", Cond.methodLink RX10 89 yX10_mostArms, Cond.instanceMethod yX10_mostArms, Cond.selects RX10 yX10_mostArms yX10_mostArms, Cond.code yX10_mostArms cX10_mostArms 5 (some .int), Cond.methodLink RX10 116 Lib.Math.max.name, Cond.methodLink RX10 111 yJ6_bitCount_0f7a4, Cond.static yJ6_bitCount_0f7a4, Cond.initialized RJ6, Cond.code yJ6_bitCount_0f7a4 cJ6_bitCount_0f7a4 1 (some .int), Cond.constant RJ6 265 (1431655765), Cond.constant RJ6 266 (858993459), Cond.constant RJ6 267 (252645135), Cond.methodLink RX10 180 yX9_valueOf, Cond.instanceMethod yX9_valueOf, Cond.selects RX9 yX9_valueOf yX9_valueOf, Cond.code yX9_valueOf cX9_valueOf 5 (some .int), Cond.methodLink RX10 56 yX9_armsFitting]
def wsX11_chance_r8 : List Cond := [Cond.methodLink RX10 148 yX9_guardOf, Cond.methodLink RX11 397 yX0_keep, Cond.instanceMethod yX0_keep, Cond.selects RX0 yX0_keep yX0_keep, Cond.code yX0_keep cX0_keep 5 none, Cond.fieldLink RX0 9 "MatchTrees$Acts" "row" "[I", Cond.fieldLink RX0 15 "MatchTrees$Acts" "arm" "[I", Cond.fieldLink RX0 18 "MatchTrees$Acts" "asked" "[I"]
def wsX11_chance : List Cond := .code yX11_chance cX11_chance 4 (some .int) :: ((wsX11_chance_r1 ++ (wsX11_chance_r2 ++ (wsX11_chance_r3 ++ (wsX11_chance_r4 ++ (wsX11_chance_r5 ++ (wsX11_chance_r6 ++ (wsX11_chance_r7 ++ wsX11_chance_r8))))))) ++ wsX110 ++ wsX90 ++ wsX00 ++ wsX50 ++ wsX100 ++ wsX20 ++ wsX40)
def wsX11_swap_r1 : List Cond := [Cond.fieldLink RX11 43 "MatchTrees" "order" "LMatchTrees$Order;", Cond.methodLink RX11 344 yX5_isPlace, Cond.instanceMethod yX5_isPlace, Cond.selects RX5 yX5_isPlace yX5_isPlace, Cond.initialized RX5, Cond.code yX5_isPlace cX5_isPlace 2 (some .boolean), Cond.fieldLink RX5 24 "MatchTrees$Order" "count" "I", Cond.methodLink RX11 103 yX11_refuse, Cond.instanceMethod yX11_refuse, Cond.selects RX11 yX11_refuse yX11_refuse, Cond.initialized RX11, Cond.code yX11_refuse cX11_refuse 2 (some .boolean), Cond.fieldLink RX11 64 "MatchTrees" "refused" "[I", Cond.methodLink RX11 388 yX11_remember, Cond.instanceMethod yX11_remember, Cond.selects RX11 yX11_remember yX11_remember, Cond.code yX11_remember cX11_remember 1 none, Cond.fieldLink RX11 53 "MatchTrees" "acts" "LMatchTrees$Acts;", Cond.methodLink RX11 412 yX0_remember, Cond.instanceMethod yX0_remember, Cond.selects RX0 yX0_remember yX0_remember, Cond.initialized RX0, Cond.code yX0_remember cX0_remember 3 none, Cond.fieldLink RX0 51 "MatchTrees$Acts" "next" "I"]
def wsX11_swap_r2 : List Cond := [Cond.fieldLink RX0 23 "MatchTrees$Acts" "orderAhead" "[LMatchTrees$Order;", Cond.fieldLink RX0 27 "MatchTrees$Acts" "keptAhead" "[I", Cond.fieldLink RX0 31 "MatchTrees$Acts" "keptRows" "I", Cond.fieldLink RX0 35 "MatchTrees$Acts" "undoable" "I", Cond.methodLink RX0 38 Lib.Math.min.name, Cond.static Lib.Math.min.name, Cond.initialized "java/lang/Math", Cond.code Lib.Math.min.name Lib.Math.min.code 2 (some .int), Cond.methodLink RX0 44 yJ9_floorMod_7cf53, Cond.static yJ9_floorMod_7cf53, Cond.initialized RJ9, Cond.code yJ9_floorMod_7cf53 cJ9_floorMod_7cf53 3 (some .int), Cond.methodLink RX0 54 yX5_copy, Cond.instanceMethod yX5_copy, Cond.selects RX5 yX5_copy yX5_copy, Cond.code yX5_copy cX5_copy 3 none, Cond.fieldLink RX5 9 "MatchTrees$Order" "arm" "[I", Cond.fieldLink RX5 28 "MatchTrees$Order" "on" "I", Cond.fieldLink RX5 31 "MatchTrees$Order" "rule" "I", Cond.methodLink RX11 350 yX5_exchange, Cond.instanceMethod yX5_exchange, Cond.selects RX5 yX5_exchange yX5_exchange, Cond.code yX5_exchange cX5_exchange 4 none, Cond.methodLink RX5 34 yX5_isPlace]
def wsX11_swap : List Cond := .code yX11_swap cX11_swap 3 (some .boolean) :: ((wsX11_swap_r1 ++ wsX11_swap_r2) ++ wsX110 ++ wsX50 ++ wsX00)
def wsX11_drop_r1 : List Cond := [Cond.fieldLink RX11 43 "MatchTrees" "order" "LMatchTrees$Order;", Cond.methodLink RX11 344 yX5_isPlace, Cond.instanceMethod yX5_isPlace, Cond.selects RX5 yX5_isPlace yX5_isPlace, Cond.initialized RX5, Cond.code yX5_isPlace cX5_isPlace 2 (some .boolean), Cond.fieldLink RX5 24 "MatchTrees$Order" "count" "I", Cond.methodLink RX11 103 yX11_refuse, Cond.instanceMethod yX11_refuse, Cond.selects RX11 yX11_refuse yX11_refuse, Cond.initialized RX11, Cond.code yX11_refuse cX11_refuse 2 (some .boolean), Cond.fieldLink RX11 64 "MatchTrees" "refused" "[I", Cond.methodLink RX11 388 yX11_remember, Cond.instanceMethod yX11_remember, Cond.selects RX11 yX11_remember yX11_remember, Cond.code yX11_remember cX11_remember 1 none, Cond.fieldLink RX11 53 "MatchTrees" "acts" "LMatchTrees$Acts;", Cond.methodLink RX11 412 yX0_remember, Cond.instanceMethod yX0_remember, Cond.selects RX0 yX0_remember yX0_remember, Cond.initialized RX0, Cond.code yX0_remember cX0_remember 3 none, Cond.fieldLink RX0 51 "MatchTrees$Acts" "next" "I"]
def wsX11_drop_r2 : List Cond := [Cond.fieldLink RX0 23 "MatchTrees$Acts" "orderAhead" "[LMatchTrees$Order;", Cond.fieldLink RX0 27 "MatchTrees$Acts" "keptAhead" "[I", Cond.fieldLink RX0 31 "MatchTrees$Acts" "keptRows" "I", Cond.fieldLink RX0 35 "MatchTrees$Acts" "undoable" "I", Cond.methodLink RX0 38 Lib.Math.min.name, Cond.static Lib.Math.min.name, Cond.initialized "java/lang/Math", Cond.code Lib.Math.min.name Lib.Math.min.code 2 (some .int), Cond.methodLink RX0 44 yJ9_floorMod_7cf53, Cond.static yJ9_floorMod_7cf53, Cond.initialized RJ9, Cond.code yJ9_floorMod_7cf53 cJ9_floorMod_7cf53 3 (some .int), Cond.methodLink RX0 54 yX5_copy, Cond.instanceMethod yX5_copy, Cond.selects RX5 yX5_copy yX5_copy, Cond.code yX5_copy cX5_copy 3 none, Cond.fieldLink RX5 9 "MatchTrees$Order" "arm" "[I", Cond.fieldLink RX5 28 "MatchTrees$Order" "on" "I", Cond.fieldLink RX5 31 "MatchTrees$Order" "rule" "I", Cond.methodLink RX11 406 yX5_takeOut, Cond.instanceMethod yX5_takeOut, Cond.selects RX5 yX5_takeOut yX5_takeOut, Cond.code yX5_takeOut cX5_takeOut 3 none, Cond.methodLink RX5 34 yX5_isPlace]
def wsX11_drop : List Cond := .code yX11_drop cX11_drop 2 (some .boolean) :: ((wsX11_drop_r1 ++ wsX11_drop_r2) ++ wsX110 ++ wsX50 ++ wsX00)
def wsX11_turn_r1 : List Cond := [Cond.fieldLink RX11 43 "MatchTrees" "order" "LMatchTrees$Order;", Cond.fieldLink RX11 177 "MatchTrees$Order" "on" "I", Cond.methodLink RX11 204 yX11_matched, Cond.instanceMethod yX11_matched, Cond.selects RX11 yX11_matched yX11_matched, Cond.initialized RX11, Cond.code yX11_matched cX11_matched 1 (some .boolean), Cond.fieldLink RX11 71 "MatchTrees" "table" "LMatchTrees$Table;", Cond.fieldLink RX11 130 "MatchTrees$Table" "columns" "I", Cond.methodLink RX11 103 yX11_refuse, Cond.instanceMethod yX11_refuse, Cond.selects RX11 yX11_refuse yX11_refuse, Cond.code yX11_refuse cX11_refuse 2 (some .boolean), Cond.fieldLink RX11 64 "MatchTrees" "refused" "[I", Cond.methodLink RX11 388 yX11_remember, Cond.instanceMethod yX11_remember, Cond.selects RX11 yX11_remember yX11_remember, Cond.code yX11_remember cX11_remember 1 none, Cond.fieldLink RX11 53 "MatchTrees" "acts" "LMatchTrees$Acts;", Cond.methodLink RX11 412 yX0_remember, Cond.instanceMethod yX0_remember, Cond.selects RX0 yX0_remember yX0_remember, Cond.initialized RX0, Cond.code yX0_remember cX0_remember 3 none]
def wsX11_turn_r2 : List Cond := [Cond.fieldLink RX0 51 "MatchTrees$Acts" "next" "I", Cond.fieldLink RX0 23 "MatchTrees$Acts" "orderAhead" "[LMatchTrees$Order;", Cond.fieldLink RX0 27 "MatchTrees$Acts" "keptAhead" "[I", Cond.fieldLink RX0 31 "MatchTrees$Acts" "keptRows" "I", Cond.fieldLink RX0 35 "MatchTrees$Acts" "undoable" "I", Cond.methodLink RX0 38 Lib.Math.min.name, Cond.static Lib.Math.min.name, Cond.initialized "java/lang/Math", Cond.code Lib.Math.min.name Lib.Math.min.code 2 (some .int), Cond.methodLink RX0 44 yJ9_floorMod_7cf53, Cond.static yJ9_floorMod_7cf53, Cond.initialized RJ9, Cond.code yJ9_floorMod_7cf53 cJ9_floorMod_7cf53 3 (some .int), Cond.methodLink RX0 54 yX5_copy, Cond.instanceMethod yX5_copy, Cond.selects RX5 yX5_copy yX5_copy, Cond.initialized RX5, Cond.code yX5_copy cX5_copy 3 none, Cond.fieldLink RX5 9 "MatchTrees$Order" "arm" "[I", Cond.fieldLink RX5 24 "MatchTrees$Order" "count" "I", Cond.fieldLink RX5 28 "MatchTrees$Order" "on" "I", Cond.fieldLink RX5 31 "MatchTrees$Order" "rule" "I", Cond.methodLink RX11 234 yX11_isIn, Cond.static yX11_isIn]
def wsX11_turn_r3 : List Cond := [Cond.code yX11_isIn cX11_isIn 2 (some .boolean)]
def wsX11_turn : List Cond := .code yX11_turn cX11_turn 2 (some .int) :: ((wsX11_turn_r1 ++ (wsX11_turn_r2 ++ wsX11_turn_r3)) ++ wsX110 ++ wsX50 ++ wsX90 ++ wsX00)
def wsX11_choose_r1 : List Cond := [Cond.fieldLink RX11 43 "MatchTrees" "order" "LMatchTrees$Order;", Cond.fieldLink RX11 180 "MatchTrees$Order" "rule" "I", Cond.methodLink RX11 204 yX11_matched, Cond.instanceMethod yX11_matched, Cond.selects RX11 yX11_matched yX11_matched, Cond.initialized RX11, Cond.code yX11_matched cX11_matched 1 (some .boolean), Cond.fieldLink RX11 71 "MatchTrees" "table" "LMatchTrees$Table;", Cond.fieldLink RX11 130 "MatchTrees$Table" "columns" "I", Cond.methodLink RX11 303 yX11_isRule, Cond.static yX11_isRule, Cond.code yX11_isRule cX11_isRule 1 (some .boolean), Cond.methodLink RX11 103 yX11_refuse, Cond.instanceMethod yX11_refuse, Cond.selects RX11 yX11_refuse yX11_refuse, Cond.code yX11_refuse cX11_refuse 2 (some .boolean), Cond.fieldLink RX11 64 "MatchTrees" "refused" "[I", Cond.methodLink RX11 388 yX11_remember, Cond.instanceMethod yX11_remember, Cond.selects RX11 yX11_remember yX11_remember, Cond.code yX11_remember cX11_remember 1 none, Cond.fieldLink RX11 53 "MatchTrees" "acts" "LMatchTrees$Acts;", Cond.methodLink RX11 412 yX0_remember, Cond.instanceMethod yX0_remember]
def wsX11_choose_r2 : List Cond := [Cond.selects RX0 yX0_remember yX0_remember, Cond.initialized RX0, Cond.code yX0_remember cX0_remember 3 none, Cond.fieldLink RX0 51 "MatchTrees$Acts" "next" "I", Cond.fieldLink RX0 23 "MatchTrees$Acts" "orderAhead" "[LMatchTrees$Order;", Cond.fieldLink RX0 27 "MatchTrees$Acts" "keptAhead" "[I", Cond.fieldLink RX0 31 "MatchTrees$Acts" "keptRows" "I", Cond.fieldLink RX0 35 "MatchTrees$Acts" "undoable" "I", Cond.methodLink RX0 38 Lib.Math.min.name, Cond.static Lib.Math.min.name, Cond.initialized "java/lang/Math", Cond.code Lib.Math.min.name Lib.Math.min.code 2 (some .int), Cond.methodLink RX0 44 yJ9_floorMod_7cf53, Cond.static yJ9_floorMod_7cf53, Cond.initialized RJ9, Cond.code yJ9_floorMod_7cf53 cJ9_floorMod_7cf53 3 (some .int), Cond.methodLink RX0 54 yX5_copy, Cond.instanceMethod yX5_copy, Cond.selects RX5 yX5_copy yX5_copy, Cond.initialized RX5, Cond.code yX5_copy cX5_copy 3 none, Cond.fieldLink RX5 9 "MatchTrees$Order" "arm" "[I", Cond.fieldLink RX5 24 "MatchTrees$Order" "count" "I", Cond.fieldLink RX5 28 "MatchTrees$Order" "on" "I"]
def wsX11_choose_r3 : List Cond := [Cond.fieldLink RX5 31 "MatchTrees$Order" "rule" "I"]
def wsX11_choose : List Cond := .code yX11_choose cX11_choose 2 (some .boolean) :: ((wsX11_choose_r1 ++ (wsX11_choose_r2 ++ wsX11_choose_r3)) ++ wsX110 ++ wsX50 ++ wsX90 ++ wsX00)
def wsX11_undo_r1 : List Cond := [Cond.fieldLink RX11 53 "MatchTrees" "acts" "LMatchTrees$Acts;", Cond.fieldLink RX11 185 "MatchTrees$Acts" "undoable" "I", Cond.fieldLink RX11 43 "MatchTrees" "order" "LMatchTrees$Order;", Cond.methodLink RX11 103 yX11_refuse, Cond.instanceMethod yX11_refuse, Cond.selects RX11 yX11_refuse yX11_refuse, Cond.initialized RX11, Cond.code yX11_refuse cX11_refuse 2 (some .boolean), Cond.fieldLink RX11 64 "MatchTrees" "refused" "[I", Cond.methodLink RX11 409 yX0_takeBack, Cond.instanceMethod yX0_takeBack, Cond.selects RX0 yX0_takeBack yX0_takeBack, Cond.initialized RX0, Cond.code yX0_takeBack cX0_takeBack 3 none, Cond.fieldLink RX0 51 "MatchTrees$Acts" "next" "I", Cond.fieldLink RX0 23 "MatchTrees$Acts" "orderAhead" "[LMatchTrees$Order;", Cond.fieldLink RX0 27 "MatchTrees$Acts" "keptAhead" "[I", Cond.fieldLink RX0 31 "MatchTrees$Acts" "keptRows" "I", Cond.fieldLink RX0 35 "MatchTrees$Acts" "undoable" "I", Cond.methodLink RX0 58 Lib.Math.max.name, Cond.static Lib.Math.max.name, Cond.initialized "java/lang/Math", Cond.code Lib.Math.max.name Lib.Math.max.code 2 (some .int), Cond.methodLink RX0 44 yJ9_floorMod_7cf53]
def wsX11_undo_r2 : List Cond := [Cond.static yJ9_floorMod_7cf53, Cond.initialized RJ9, Cond.code yJ9_floorMod_7cf53 cJ9_floorMod_7cf53 3 (some .int), Cond.methodLink RX0 54 yX5_copy, Cond.instanceMethod yX5_copy, Cond.selects RX5 yX5_copy yX5_copy, Cond.initialized RX5, Cond.code yX5_copy cX5_copy 3 none, Cond.fieldLink RX5 9 "MatchTrees$Order" "arm" "[I", Cond.fieldLink RX5 24 "MatchTrees$Order" "count" "I", Cond.fieldLink RX5 28 "MatchTrees$Order" "on" "I", Cond.fieldLink RX5 31 "MatchTrees$Order" "rule" "I"]
def wsX11_undo : List Cond := .code yX11_undo cX11_undo 1 (some .boolean) :: ((wsX11_undo_r1 ++ wsX11_undo_r2) ++ wsX110 ++ wsX00 ++ wsX50)
def wsX11_seed : List Cond := .code yX11_seed cX11_seed 2 (some .boolean) :: ([.fieldLink RX11 96 "MatchTrees" "seedNow" "I", .methodLink RX11 103 yX11_refuse, .instanceMethod yX11_refuse, .selects RX11 yX11_refuse yX11_refuse, .initialized RX11, .code yX11_refuse cX11_refuse 2 (some .boolean), .fieldLink RX11 64 "MatchTrees" "refused" "[I"] ++ wsX110)
def wsX11_kept : List Cond := .code yX11_kept cX11_kept 3 (some .int) :: ([.fieldLink RX11 53 "MatchTrees" "acts" "LMatchTrees$Acts;", .methodLink RX11 414 yX0_tellKept, .instanceMethod yX0_tellKept, .selects RX0 yX0_tellKept yX0_tellKept, .initialized RX0, .code yX0_tellKept cX0_tellKept 4 (some .int), .fieldLink RX0 31 "MatchTrees$Acts" "keptRows" "I", .fieldLink RX0 9 "MatchTrees$Acts" "row" "[I", .fieldLink RX0 15 "MatchTrees$Acts" "arm" "[I", .fieldLink RX0 18 "MatchTrees$Acts" "asked" "[I", .methodLink RX0 47 yX0_keptTold, .instanceMethod yX0_keptTold, .selects RX0 yX0_keptTold yX0_keptTold, .code yX0_keptTold cX0_keptTold 1 (some .int), .methodLink RX0 38 Lib.Math.min.name, .static Lib.Math.min.name, .initialized "java/lang/Math", .code Lib.Math.min.name Lib.Math.min.code 2 (some .int), .methodLink RX0 44 yJ9_floorMod_7cf53, .static yJ9_floorMod_7cf53, .initialized RJ9, .code yJ9_floorMod_7cf53 cJ9_floorMod_7cf53 3 (some .int)] ++ wsX110 ++ wsX00)
def wsX11_image : List Cond := .code yX11_image cX11_image 2 (some .int) :: ([.fieldLink RX11 18 "MatchTrees" "written" "LMatchTrees$Bytes;", .fieldLink RX11 100 "MatchTrees$Bytes" "length" "I", .fieldLink RX11 43 "MatchTrees" "order" "LMatchTrees$Order;", .fieldLink RX11 176 "MatchTrees$Order" "count" "I", .fieldLink RX11 417 "MatchTrees$Order" "arm" "[I", .fieldLink RX11 177 "MatchTrees$Order" "on" "I", .fieldLink RX11 180 "MatchTrees$Order" "rule" "I", .methodLink RX11 264 yX1_add, .instanceMethod yX1_add, .selects RX1 yX1_add yX1_add, .initialized RX1, .code yX1_add cX1_add 2 none, .fieldLink RX1 21 "MatchTrees$Bytes" "length" "I", .fieldLink RX1 15 "MatchTrees$Bytes" "bytes" "[I", .methodLink RX11 420 yX1_checkByte, .instanceMethod yX1_checkByte, .selects RX1 yX1_checkByte yX1_checkByte, .code yX1_checkByte cX1_checkByte 4 (some .int)] ++ wsX110 ++ wsX10 ++ wsX50)
def wsX11_on_r1 : List Cond := [Cond.fieldLink RX11 14 "MatchTrees" "tape" "LMatchTrees$Bytes;", Cond.fieldLink RX11 100 "MatchTrees$Bytes" "length" "I", Cond.methodLink RX11 204 yX11_matched, Cond.instanceMethod yX11_matched, Cond.selects RX11 yX11_matched yX11_matched, Cond.initialized RX11, Cond.code yX11_matched cX11_matched 1 (some .boolean), Cond.fieldLink RX11 71 "MatchTrees" "table" "LMatchTrees$Table;", Cond.fieldLink RX11 130 "MatchTrees$Table" "columns" "I", Cond.methodLink RX11 423 yX11_isImage, Cond.instanceMethod yX11_isImage, Cond.selects RX11 yX11_isImage yX11_isImage, Cond.code yX11_isImage cX11_isImage 5 (some .boolean), Cond.fieldLink RX11 123 "MatchTrees$Table" "arms" "I", Cond.methodLink RX11 300 yX1_byteAt, Cond.instanceMethod yX1_byteAt, Cond.selects RX1 yX1_byteAt yX1_byteAt, Cond.initialized RX1, Cond.code yX1_byteAt cX1_byteAt 2 (some .int), Cond.fieldLink RX1 21 "MatchTrees$Bytes" "length" "I", Cond.fieldLink RX1 15 "MatchTrees$Bytes" "bytes" "[I", Cond.methodLink RX11 234 yX11_isIn, Cond.static yX11_isIn, Cond.code yX11_isIn cX11_isIn 2 (some .boolean)]
def wsX11_on_r2 : List Cond := [Cond.methodLink RX11 303 yX11_isRule, Cond.static yX11_isRule, Cond.code yX11_isRule cX11_isRule 1 (some .boolean), Cond.methodLink RX11 420 yX1_checkByte, Cond.instanceMethod yX1_checkByte, Cond.selects RX1 yX1_checkByte yX1_checkByte, Cond.code yX1_checkByte cX1_checkByte 4 (some .int), Cond.methodLink RX11 426 yX11_takeImage, Cond.instanceMethod yX11_takeImage, Cond.selects RX11 yX11_takeImage yX11_takeImage, Cond.code yX11_takeImage cX11_takeImage 3 none, Cond.methodLink RX11 429 Lib.Math.min.name, Cond.static Lib.Math.min.name, Cond.initialized "java/lang/Math", Cond.code Lib.Math.min.name Lib.Math.min.code 2 (some .int), Cond.fieldLink RX11 43 "MatchTrees" "order" "LMatchTrees$Order;", Cond.fieldLink RX11 417 "MatchTrees$Order" "arm" "[I", Cond.methodLink RX11 434 Lib.Math.max.name, Cond.static Lib.Math.max.name, Cond.code Lib.Math.max.name Lib.Math.max.code 2 (some .int), Cond.fieldLink RX11 176 "MatchTrees$Order" "count" "I", Cond.fieldLink RX11 177 "MatchTrees$Order" "on" "I", Cond.fieldLink RX11 180 "MatchTrees$Order" "rule" "I", Cond.fieldLink RX11 53 "MatchTrees" "acts" "LMatchTrees$Acts;"]
def wsX11_on_r3 : List Cond := [Cond.methodLink RX11 150 yX0_clear, Cond.instanceMethod yX0_clear, Cond.selects RX0 yX0_clear yX0_clear, Cond.initialized RX0, Cond.code yX0_clear cX0_clear 1 none, Cond.fieldLink RX0 31 "MatchTrees$Acts" "keptRows" "I", Cond.fieldLink RX0 35 "MatchTrees$Acts" "undoable" "I", Cond.methodLink RX11 103 yX11_refuse, Cond.instanceMethod yX11_refuse, Cond.selects RX11 yX11_refuse yX11_refuse, Cond.code yX11_refuse cX11_refuse 2 (some .boolean), Cond.fieldLink RX11 64 "MatchTrees" "refused" "[I"]
def wsX11_on : List Cond := .code yX11_on cX11_on 2 (some .boolean) :: ((wsX11_on_r1 ++ (wsX11_on_r2 ++ wsX11_on_r3)) ++ wsX110 ++ wsX10 ++ wsX90 ++ wsX50 ++ wsX00)
def wsX11_status : List Cond := .code yX11_status cX11_status 2 (some .int) :: ([.fieldLink RX11 64 "MatchTrees" "refused" "[I"] ++ wsX110)
def wsX12_begin : List Cond := .code yX12_begin cX12_begin 2 none :: ([.fieldLink RX12 173 "MatchTreesModel" "armsOf" "[I", .fieldLink RX12 87 "MatchTreesModel" "armMany" "[I", .fieldLink RX12 51 "MatchTreesModel" "bank" "I", .fieldLink RX12 176 "MatchTreesModel" "orderOf" "[I", .fieldLink RX12 179 "MatchTreesModel" "guardsOf" "[I", .fieldLink RX12 146 "MatchTreesModel" "isMatch" "Z", .fieldLink RX12 182 "MatchTreesModel" "ruleOf" "[I", .fieldLink RX12 93 "MatchTreesModel" "ruleTold" "[I", .fieldLink RX12 185 "MatchTreesModel" "keptMany" "[I", .fieldLink RX12 194 "MatchTreesModel" "undos" "I", .fieldLink RX12 291 "MatchTreesModel" "seenMany" "I"] ++ wsX120)
def wsX12_init_r1 : List Cond := [Cond.methodLink RX12 1 objectInit, Cond.instanceMethod objectInit, Cond.code objectInit ⟨#[0xb1]⟩ 1 none, Cond.arrayClass .int, Cond.fieldLink RX12 7 "MatchTreesModel" "tape" "[I", Cond.fieldLink RX12 13 "MatchTreesModel" "taped" "I", Cond.fieldLink RX12 17 "MatchTreesModel" "size" "I", Cond.fieldLink RX12 20 "MatchTreesModel" "sign" "I", Cond.fieldLink RX12 23 "MatchTreesModel" "signAt" "I", Cond.fieldLink RX12 26 "MatchTreesModel" "signEnd" "I", Cond.fieldLink RX12 29 "MatchTreesModel" "value" "I", Cond.fieldLink RX12 32 "MatchTreesModel" "word" "J", Cond.fieldLink RX12 36 "MatchTreesModel" "faultKind" "I", Cond.fieldLink RX12 39 "MatchTreesModel" "faultPlace" "I", Cond.fieldLink RX12 42 "MatchTreesModel" "toldKind" "I", Cond.fieldLink RX12 45 "MatchTreesModel" "toldPlace" "I", Cond.fieldLink RX12 48 "MatchTreesModel" "lexAt" "I", Cond.fieldLink RX12 51 "MatchTreesModel" "bank" "I", Cond.fieldLink RX12 54 "MatchTreesModel" "kindMany" "[I", Cond.fieldLink RX12 57 "MatchTreesModel" "kindValues" "[I", Cond.fieldLink RX12 60 "MatchTreesModel" "kindCons" "[I", Cond.fieldLink RX12 63 "MatchTreesModel" "conMany" "[I", Cond.fieldLink RX12 66 "MatchTreesModel" "conKind" "[I", Cond.fieldLink RX12 69 "MatchTreesModel" "conFields" "[I"]
def wsX12_init_r2 : List Cond := [Cond.fieldLink RX12 72 "MatchTreesModel" "conField" "[I", Cond.fieldLink RX12 75 "MatchTreesModel" "conFrom" "[I", Cond.fieldLink RX12 78 "MatchTreesModel" "conValues" "[I", Cond.fieldLink RX12 81 "MatchTreesModel" "columnMany" "[I", Cond.fieldLink RX12 84 "MatchTreesModel" "columnKind" "[I", Cond.fieldLink RX12 87 "MatchTreesModel" "armMany" "[I", Cond.fieldLink RX12 90 "MatchTreesModel" "armGuard" "[I", Cond.fieldLink RX12 93 "MatchTreesModel" "ruleTold" "[I", Cond.fieldLink RX12 96 "MatchTreesModel" "budgetTold" "[I", Cond.fieldLink RX12 99 "MatchTreesModel" "patFrom" "[I", Cond.fieldLink RX12 102 "MatchTreesModel" "patBehind" "[I", Cond.fieldLink RX12 105 "MatchTreesModel" "codeOp" "[I", Cond.fieldLink RX12 108 "MatchTreesModel" "codeA" "[I", Cond.fieldLink RX12 111 "MatchTreesModel" "codeB" "[I", Cond.arrayClass .long, Cond.fieldLink RX12 114 "MatchTreesModel" "kindName" "[J", Cond.fieldLink RX12 118 "MatchTreesModel" "conName" "[J", Cond.fieldLink RX12 121 "MatchTreesModel" "codes" "I", Cond.fieldLink RX12 124 "MatchTreesModel" "in" "I", Cond.fieldLink RX12 127 "MatchTreesModel" "isMatched" "Z", Cond.fieldLink RX12 131 "MatchTreesModel" "openKind" "[I", Cond.fieldLink RX12 134 "MatchTreesModel" "openAlts" "[I", Cond.fieldLink RX12 137 "MatchTreesModel" "openCon" "[I", Cond.fieldLink RX12 140 "MatchTreesModel" "openField" "[I"]
def wsX12_init_r3 : List Cond := [Cond.fieldLink RX12 143 "MatchTreesModel" "open" "I", Cond.fieldLink RX12 146 "MatchTreesModel" "isMatch" "Z", Cond.fieldLink RX12 149 "MatchTreesModel" "refused" "[I", Cond.fieldLink RX12 152 "MatchTreesModel" "gone" "[I", Cond.fieldLink RX12 155 "MatchTreesModel" "truth" "[I", Cond.fieldLink RX12 158 "MatchTreesModel" "setOf" "[I", Cond.fieldLink RX12 161 "MatchTreesModel" "toldSet" "[I", Cond.fieldLink RX12 164 "MatchTreesModel" "setMany" "[I", Cond.fieldLink RX12 167 "MatchTreesModel" "setNumber" "[I", Cond.fieldLink RX12 170 "MatchTreesModel" "rowMany" "I", Cond.fieldLink RX12 173 "MatchTreesModel" "armsOf" "[I", Cond.fieldLink RX12 176 "MatchTreesModel" "orderOf" "[I", Cond.fieldLink RX12 179 "MatchTreesModel" "guardsOf" "[I", Cond.fieldLink RX12 182 "MatchTreesModel" "ruleOf" "[I", Cond.fieldLink RX12 185 "MatchTreesModel" "keptMany" "[I", Cond.fieldLink RX12 188 "MatchTreesModel" "keptRow" "[I", Cond.fieldLink RX12 191 "MatchTreesModel" "undoFirst" "I", Cond.fieldLink RX12 194 "MatchTreesModel" "undos" "I", Cond.fieldLink RX12 197 "MatchTreesModel" "seeds" "J", Cond.fieldLink RX12 200 "MatchTreesModel" "places" "I", Cond.fieldLink RX12 203 "MatchTreesModel" "placeSet" "[I", Cond.fieldLink RX12 206 "MatchTreesModel" "fullIn" "[I", Cond.fieldLink RX12 209 "MatchTreesModel" "guardAt" "[I", Cond.fieldLink RX12 212 "MatchTreesModel" "unguarded" "I"]
def wsX12_init_r4 : List Cond := [Cond.fieldLink RX12 215 "MatchTreesModel" "valueAt" "[I", Cond.fieldLink RX12 218 "MatchTreesModel" "manyBy" "[I", Cond.fieldLink RX12 221 "MatchTreesModel" "out" "[I", Cond.fieldLink RX12 224 "MatchTreesModel" "outs" "I", Cond.fieldLink RX12 227 "MatchTreesModel" "todoKind" "[I", Cond.fieldLink RX12 230 "MatchTreesModel" "todo" "[I", Cond.fieldLink RX12 233 "MatchTreesModel" "todos" "I", Cond.fieldLink RX12 236 "MatchTreesModel" "stamp" "I", Cond.constant RX12 239 (65536), Cond.fieldLink RX12 240 "MatchTreesModel" "chosen" "[I", Cond.fieldLink RX12 243 "MatchTreesModel" "ruleNow" "I", Cond.fieldLink RX12 246 "MatchTreesModel" "metBy" "[I", Cond.fieldLink RX12 249 "MatchTreesModel" "meeting" "I", Cond.fieldLink RX12 252 "MatchTreesModel" "reached" "[I", Cond.fieldLink RX12 255 "MatchTreesModel" "states" "[I", Cond.fieldLink RX12 258 "MatchTreesModel" "stateMany" "I", Cond.fieldLink RX12 261 "MatchTreesModel" "below" "[I", Cond.fieldLink RX12 264 "MatchTreesModel" "openLeft" "[I", Cond.fieldLink RX12 267 "MatchTreesModel" "openNext" "[I", Cond.fieldLink RX12 270 "MatchTreesModel" "openScope" "[I", Cond.fieldLink RX12 273 "MatchTreesModel" "shut" "[I", Cond.fieldLink RX12 276 "MatchTreesModel" "scopeMany" "I", Cond.fieldLink RX12 279 "MatchTreesModel" "shutMany" "I", Cond.fieldLink RX12 282 "MatchTreesModel" "mostOpen" "I"]
def wsX12_init_r5 : List Cond := [Cond.fieldLink RX12 285 "MatchTreesModel" "isStopped" "Z", Cond.fieldLink RX12 288 "MatchTreesModel" "isFair" "[I", Cond.fieldLink RX12 291 "MatchTreesModel" "seenMany" "I", Cond.fieldLink RX12 294 "MatchTreesModel" "seenRow" "[I", Cond.fieldLink RX12 297 "MatchTreesModel" "seenArm" "[I", Cond.fieldLink RX12 300 "MatchTreesModel" "isLeft" "[I", Cond.fieldLink RX12 303 "MatchTreesModel" "openOf" "[I", Cond.fieldLink RX12 306 "MatchTreesModel" "manyArm" "[I", Cond.methodLink RX12 309 yX12_begin, Cond.instanceMethod yX12_begin, Cond.selects RX12 yX12_begin yX12_begin, Cond.initialized RX12, Cond.code yX12_begin cX12_begin 2 none]
def wsX12_init : List Cond := .code yX12_init cX12_init 1 none :: ((wsX12_init_r1 ++ (wsX12_init_r2 ++ (wsX12_init_r3 ++ (wsX12_init_r4 ++ wsX12_init_r5)))) ++ wsX120)
def wsX12_is : List Cond := .code yX12_is cX12_is 3 (some .boolean) :: ([])
def wsX12_put : List Cond := .code yX12_put cX12_put 3 none :: ([.fieldLink RX12 7 "MatchTreesModel" "tape" "[I", .fieldLink RX12 13 "MatchTreesModel" "taped" "I"] ++ wsX120)
def wsX12_refuses : List Cond := .code yX12_refuses cX12_refuses 2 (some .int) :: ([.fieldLink RX12 149 "MatchTreesModel" "refused" "[I"] ++ wsX120)
def wsX12_feed : List Cond := .code yX12_feed cX12_feed 6 (some .int) :: ([.fieldLink RX12 13 "MatchTreesModel" "taped" "I", .methodLink RX12 312 yX12_refuses, .instanceMethod yX12_refuses, .selects RX12 yX12_refuses yX12_refuses, .initialized RX12, .code yX12_refuses cX12_refuses 2 (some .int), .fieldLink RX12 149 "MatchTreesModel" "refused" "[I", .methodLink RX12 316 yX12_put, .instanceMethod yX12_put, .selects RX12 yX12_put yX12_put, .code yX12_put cX12_put 3 none, .fieldLink RX12 7 "MatchTreesModel" "tape" "[I"] ++ wsX120)
def wsX12_end : List Cond := .code yX12_end cX12_end 2 (some .boolean) :: ([.fieldLink RX12 13 "MatchTreesModel" "taped" "I", .methodLink RX12 312 yX12_refuses, .instanceMethod yX12_refuses, .selects RX12 yX12_refuses yX12_refuses, .initialized RX12, .code yX12_refuses cX12_refuses 2 (some .int), .fieldLink RX12 149 "MatchTreesModel" "refused" "[I"] ++ wsX120)
def wsX12_blame : List Cond := .code yX12_blame cX12_blame 3 none :: ([.fieldLink RX12 36 "MatchTreesModel" "faultKind" "I", .fieldLink RX12 39 "MatchTreesModel" "faultPlace" "I"] ++ wsX120)
def wsX12_ahead : List Cond := .code yX12_ahead cX12_ahead 6 none :: ([.fieldLink RX12 26 "MatchTreesModel" "signEnd" "I", .fieldLink RX12 17 "MatchTreesModel" "size" "I", .fieldLink RX12 7 "MatchTreesModel" "tape" "[I", .fieldLink RX12 23 "MatchTreesModel" "signAt" "I", .fieldLink RX12 20 "MatchTreesModel" "sign" "I", .fieldLink RX12 48 "MatchTreesModel" "lexAt" "I", .fieldLink RX12 29 "MatchTreesModel" "value" "I", .fieldLink RX12 32 "MatchTreesModel" "word" "J", .methodLink RX12 324 yX12_isLetter, .static yX12_isLetter, .initialized RX12, .code yX12_isLetter cX12_isLetter 1 (some .boolean), .methodLink RX12 328 yX12_isDigit, .static yX12_isDigit, .code yX12_isDigit cX12_isDigit 1 (some .boolean)] ++ wsX120)
def wsX12_columns : List Cond := .code yX12_columns cX12_columns 1 (some .int) :: ([.fieldLink RX12 81 "MatchTreesModel" "columnMany" "[I", .fieldLink RX12 51 "MatchTreesModel" "bank" "I"] ++ wsX120)
def wsX12_match_r1 : List Cond := [Cond.fieldLink RX12 13 "MatchTreesModel" "taped" "I", Cond.fieldLink RX12 17 "MatchTreesModel" "size" "I", Cond.fieldLink RX12 26 "MatchTreesModel" "signEnd" "I", Cond.fieldLink RX12 36 "MatchTreesModel" "faultKind" "I", Cond.fieldLink RX12 39 "MatchTreesModel" "faultPlace" "I", Cond.fieldLink RX12 51 "MatchTreesModel" "bank" "I", Cond.fieldLink RX12 124 "MatchTreesModel" "in" "I", Cond.fieldLink RX12 54 "MatchTreesModel" "kindMany" "[I", Cond.fieldLink RX12 63 "MatchTreesModel" "conMany" "[I", Cond.fieldLink RX12 81 "MatchTreesModel" "columnMany" "[I", Cond.fieldLink RX12 87 "MatchTreesModel" "armMany" "[I", Cond.fieldLink RX12 93 "MatchTreesModel" "ruleTold" "[I", Cond.fieldLink RX12 96 "MatchTreesModel" "budgetTold" "[I", Cond.fieldLink RX12 127 "MatchTreesModel" "isMatched" "Z", Cond.fieldLink RX12 121 "MatchTreesModel" "codes" "I", Cond.fieldLink RX12 20 "MatchTreesModel" "sign" "I", Cond.fieldLink RX12 42 "MatchTreesModel" "toldKind" "I", Cond.fieldLink RX12 45 "MatchTreesModel" "toldPlace" "I", Cond.fieldLink RX12 146 "MatchTreesModel" "isMatch" "Z", Cond.methodLink RX12 337 yX12_ahead, Cond.instanceMethod yX12_ahead, Cond.selects RX12 yX12_ahead yX12_ahead, Cond.initialized RX12, Cond.code yX12_ahead cX12_ahead 6 none]
def wsX12_match_r2 : List Cond := [Cond.fieldLink RX12 7 "MatchTreesModel" "tape" "[I", Cond.fieldLink RX12 23 "MatchTreesModel" "signAt" "I", Cond.fieldLink RX12 48 "MatchTreesModel" "lexAt" "I", Cond.fieldLink RX12 29 "MatchTreesModel" "value" "I", Cond.fieldLink RX12 32 "MatchTreesModel" "word" "J", Cond.methodLink RX12 324 yX12_isLetter, Cond.static yX12_isLetter, Cond.code yX12_isLetter cX12_isLetter 1 (some .boolean), Cond.methodLink RX12 328 yX12_isDigit, Cond.static yX12_isDigit, Cond.code yX12_isDigit cX12_isDigit 1 (some .boolean), Cond.methodLink RX12 446 yX12_statement, Cond.instanceMethod yX12_statement, Cond.selects RX12 yX12_statement yX12_statement, Cond.code yX12_statement cX12_statement 1 none, Cond.constantLong RX12 340 (1802071652), Cond.constantLong RX12 342 (6516590), Cond.constantLong RX12 344 (469786452840), Cond.constantLong RX12 346 (6386285), Cond.constantLong RX12 350 (1920298085), Cond.constantLong RX12 352 (108256335193460), Cond.methodLink RX12 331 yX12_lex, Cond.instanceMethod yX12_lex, Cond.selects RX12 yX12_lex yX12_lex]
def wsX12_match_r3 : List Cond := [Cond.code yX12_lex cX12_lex 1 none, Cond.methodLink RX12 320 yX12_blame, Cond.instanceMethod yX12_blame, Cond.selects RX12 yX12_blame yX12_blame, Cond.code yX12_blame cX12_blame 3 none, Cond.methodLink RX12 386 yX12_isWord, Cond.instanceMethod yX12_isWord, Cond.selects RX12 yX12_isWord yX12_isWord, Cond.code yX12_isWord cX12_isWord 3 (some .boolean), Cond.methodLink RX12 428 yX12_kindIs, Cond.instanceMethod yX12_kindIs, Cond.selects RX12 yX12_kindIs yX12_kindIs, Cond.code yX12_kindIs cX12_kindIs 4 none, Cond.fieldLink RX12 114 "MatchTreesModel" "kindName" "[J", Cond.fieldLink RX12 57 "MatchTreesModel" "kindValues" "[I", Cond.fieldLink RX12 60 "MatchTreesModel" "kindCons" "[I", Cond.methodLink RX12 378 yX12_isCounted, Cond.instanceMethod yX12_isCounted, Cond.selects RX12 yX12_isCounted yX12_isCounted, Cond.code yX12_isCounted cX12_isCounted 2 (some .boolean), Cond.methodLink RX12 382 yX12_fresh, Cond.instanceMethod yX12_fresh, Cond.selects RX12 yX12_fresh yX12_fresh, Cond.code yX12_fresh cX12_fresh 3 (some .long)]
def wsX12_match_r4 : List Cond := [Cond.methodLink RX12 366 yX12_isOwn, Cond.instanceMethod yX12_isOwn, Cond.selects RX12 yX12_isOwn yX12_isOwn, Cond.code yX12_isOwn cX12_isOwn 3 (some .boolean), Cond.constantLong RX12 348 (2003330414), Cond.constantLong RX12 354 (7239021), Cond.constantLong RX12 356 (6385273), Cond.constantLong RX12 358 (28530), Cond.constantLong RX12 360 (29807), Cond.methodLink RX12 370 yX12_kindNamed, Cond.instanceMethod yX12_kindNamed, Cond.selects RX12 yX12_kindNamed yX12_kindNamed, Cond.code yX12_kindNamed cX12_kindNamed 4 (some .int), Cond.methodLink RX12 374 yX12_conNamed, Cond.instanceMethod yX12_conNamed, Cond.selects RX12 yX12_conNamed yX12_conNamed, Cond.code yX12_conNamed cX12_conNamed 5 (some .int), Cond.fieldLink RX12 118 "MatchTreesModel" "conName" "[J", Cond.methodLink RX12 431 yX12_conIs, Cond.instanceMethod yX12_conIs, Cond.selects RX12 yX12_conIs yX12_conIs, Cond.code yX12_conIs cX12_conIs 7 none, Cond.fieldLink RX12 66 "MatchTreesModel" "conKind" "[I", Cond.fieldLink RX12 69 "MatchTreesModel" "conFields" "[I"]
def wsX12_match_r5 : List Cond := [Cond.fieldLink RX12 75 "MatchTreesModel" "conFrom" "[I", Cond.fieldLink RX12 78 "MatchTreesModel" "conValues" "[I", Cond.fieldLink RX12 72 "MatchTreesModel" "conField" "[I", Cond.methodLink RX12 389 yX12_isKindHere, Cond.instanceMethod yX12_isKindHere, Cond.selects RX12 yX12_isKindHere yX12_isKindHere, Cond.code yX12_isKindHere cX12_isKindHere 1 (some .boolean), Cond.methodLink RX12 393 yX12_known, Cond.instanceMethod yX12_known, Cond.selects RX12 yX12_known yX12_known, Cond.code yX12_known cX12_known 4 (some .int), Cond.methodLink RX12 396 yX12_valuesOf, Cond.instanceMethod yX12_valuesOf, Cond.selects RX12 yX12_valuesOf yX12_valuesOf, Cond.code yX12_valuesOf cX12_valuesOf 3 (some .int), Cond.methodLink RX12 434 yX12_matchIs, Cond.instanceMethod yX12_matchIs, Cond.selects RX12 yX12_matchIs yX12_matchIs, Cond.code yX12_matchIs cX12_matchIs 3 none, Cond.fieldLink RX12 84 "MatchTreesModel" "columnKind" "[I", Cond.methodLink RX12 437 yX12_armIs, Cond.instanceMethod yX12_armIs, Cond.selects RX12 yX12_armIs yX12_armIs, Cond.code yX12_armIs cX12_armIs 3 none]
def wsX12_match_r6 : List Cond := [Cond.fieldLink RX12 99 "MatchTreesModel" "patFrom" "[I", Cond.fieldLink RX12 102 "MatchTreesModel" "patBehind" "[I", Cond.fieldLink RX12 90 "MatchTreesModel" "armGuard" "[I", Cond.methodLink RX12 413 yX12_must, Cond.instanceMethod yX12_must, Cond.selects RX12 yX12_must yX12_must, Cond.code yX12_must cX12_must 2 none, Cond.methodLink RX12 334 yX12_isSign, Cond.instanceMethod yX12_isSign, Cond.selects RX12 yX12_isSign yX12_isSign, Cond.code yX12_isSign cX12_isSign 2 (some .boolean), Cond.methodLink RX12 425 yX12_pattern, Cond.instanceMethod yX12_pattern, Cond.selects RX12 yX12_pattern yX12_pattern, Cond.code yX12_pattern cX12_pattern 3 none, Cond.fieldLink RX12 143 "MatchTreesModel" "open" "I", Cond.methodLink RX12 404 yX12_opensPattern, Cond.instanceMethod yX12_opensPattern, Cond.selects RX12 yX12_opensPattern yX12_opensPattern, Cond.code yX12_opensPattern cX12_opensPattern 2 none, Cond.fieldLink RX12 131 "MatchTreesModel" "openKind" "[I", Cond.fieldLink RX12 134 "MatchTreesModel" "openAlts" "[I", Cond.methodLink RX12 419 yX12_alternative, Cond.instanceMethod yX12_alternative]
def wsX12_match_r7 : List Cond := [Cond.selects RX12 yX12_alternative yX12_alternative, Cond.code yX12_alternative cX12_alternative 3 (some .boolean), Cond.methodLink RX12 400 yX12_emits, Cond.instanceMethod yX12_emits, Cond.selects RX12 yX12_emits yX12_emits, Cond.code yX12_emits cX12_emits 5 none, Cond.fieldLink RX12 105 "MatchTreesModel" "codeOp" "[I", Cond.fieldLink RX12 108 "MatchTreesModel" "codeA" "[I", Cond.fieldLink RX12 111 "MatchTreesModel" "codeB" "[I", Cond.methodLink RX12 410 yX12_range, Cond.instanceMethod yX12_range, Cond.selects RX12 yX12_range yX12_range, Cond.code yX12_range cX12_range 3 none, Cond.methodLink RX12 407 yX12_number, Cond.instanceMethod yX12_number, Cond.selects RX12 yX12_number yX12_number, Cond.code yX12_number cX12_number 4 (some .int), Cond.methodLink RX12 362 yX12_is, Cond.static yX12_is, Cond.code yX12_is cX12_is 3 (some .boolean), Cond.methodLink RX12 416 yX12_fieldBegins, Cond.instanceMethod yX12_fieldBegins, Cond.selects RX12 yX12_fieldBegins yX12_fieldBegins, Cond.code yX12_fieldBegins cX12_fieldBegins 3 none]
def wsX12_match_r8 : List Cond := [Cond.fieldLink RX12 137 "MatchTreesModel" "openCon" "[I", Cond.fieldLink RX12 140 "MatchTreesModel" "openField" "[I", Cond.methodLink RX12 422 yX12_goesOn, Cond.instanceMethod yX12_goesOn, Cond.selects RX12 yX12_goesOn yX12_goesOn, Cond.code yX12_goesOn cX12_goesOn 3 (some .boolean), Cond.methodLink RX12 440 yX12_ruleIs, Cond.instanceMethod yX12_ruleIs, Cond.selects RX12 yX12_ruleIs yX12_ruleIs, Cond.code yX12_ruleIs cX12_ruleIs 1 none, Cond.methodLink RX12 443 yX12_budgetIs, Cond.instanceMethod yX12_budgetIs, Cond.selects RX12 yX12_budgetIs yX12_budgetIs, Cond.code yX12_budgetIs cX12_budgetIs 1 none, Cond.methodLink RX12 449 yX12_finishes, Cond.instanceMethod yX12_finishes, Cond.selects RX12 yX12_finishes yX12_finishes, Cond.code yX12_finishes cX12_finishes 3 none, Cond.methodLink RX12 312 yX12_refuses, Cond.instanceMethod yX12_refuses, Cond.selects RX12 yX12_refuses yX12_refuses, Cond.code yX12_refuses cX12_refuses 2 (some .int), Cond.fieldLink RX12 149 "MatchTreesModel" "refused" "[I", Cond.methodLink RX12 452 yX12_lays]
def wsX12_match_r9 : List Cond := [Cond.instanceMethod yX12_lays, Cond.selects RX12 yX12_lays yX12_lays, Cond.code yX12_lays cX12_lays 5 none, Cond.fieldLink RX12 170 "MatchTreesModel" "rowMany" "I", Cond.fieldLink RX12 167 "MatchTreesModel" "setNumber" "[I", Cond.fieldLink RX12 164 "MatchTreesModel" "setMany" "[I", Cond.fieldLink RX12 161 "MatchTreesModel" "toldSet" "[I", Cond.fieldLink RX12 158 "MatchTreesModel" "setOf" "[I", Cond.methodLink RX12 459 yX12_columns, Cond.instanceMethod yX12_columns, Cond.selects RX12 yX12_columns yX12_columns, Cond.code yX12_columns cX12_columns 1 (some .int), Cond.methodLink RX12 463 yX12_columnValues, Cond.instanceMethod yX12_columnValues, Cond.selects RX12 yX12_columnValues yX12_columnValues, Cond.code yX12_columnValues cX12_columnValues 2 (some .int), Cond.methodLink RX12 466 yX12_isFitting, Cond.instanceMethod yX12_isFitting, Cond.selects RX12 yX12_isFitting yX12_isFitting, Cond.code yX12_isFitting cX12_isFitting 9 (some .boolean), Cond.fieldLink RX12 152 "MatchTreesModel" "gone" "[I", Cond.fieldLink RX12 155 "MatchTreesModel" "truth" "[I", Cond.methodLink RX12 455 yX12_fieldOf, Cond.instanceMethod yX12_fieldOf]
def wsX12_match_r10 : List Cond := [Cond.selects RX12 yX12_fieldOf yX12_fieldOf, Cond.code yX12_fieldOf cX12_fieldOf 7 (some .int), Cond.methodLink RX12 309 yX12_begin, Cond.instanceMethod yX12_begin, Cond.selects RX12 yX12_begin yX12_begin, Cond.code yX12_begin cX12_begin 2 none, Cond.fieldLink RX12 173 "MatchTreesModel" "armsOf" "[I", Cond.fieldLink RX12 176 "MatchTreesModel" "orderOf" "[I", Cond.fieldLink RX12 179 "MatchTreesModel" "guardsOf" "[I", Cond.fieldLink RX12 182 "MatchTreesModel" "ruleOf" "[I", Cond.fieldLink RX12 185 "MatchTreesModel" "keptMany" "[I", Cond.fieldLink RX12 194 "MatchTreesModel" "undos" "I", Cond.fieldLink RX12 291 "MatchTreesModel" "seenMany" "I"]
def wsX12_match : List Cond := .code yX12_match cX12_match 2 (some .int) :: ((wsX12_match_r1 ++ (wsX12_match_r2 ++ (wsX12_match_r3 ++ (wsX12_match_r4 ++ (wsX12_match_r5 ++ (wsX12_match_r6 ++ (wsX12_match_r7 ++ (wsX12_match_r8 ++ (wsX12_match_r9 ++ wsX12_match_r10))))))))) ++ wsX120)
def wsX12_fault : List Cond := .code yX12_fault cX12_fault 2 (some .int) :: ([.fieldLink RX12 42 "MatchTreesModel" "toldKind" "I", .fieldLink RX12 45 "MatchTreesModel" "toldPlace" "I"] ++ wsX120)
def wsX12_status : List Cond := .code yX12_status cX12_status 2 (some .int) :: ([.fieldLink RX12 149 "MatchTreesModel" "refused" "[I", .methodLink RX12 362 yX12_is, .static yX12_is, .initialized RX12, .code yX12_is cX12_is 3 (some .boolean)] ++ wsX120)
def wsX12_undo : List Cond := .code yX12_undo cX12_undo 1 (some .boolean) :: ([.fieldLink RX12 194 "MatchTreesModel" "undos" "I", .methodLink RX12 312 yX12_refuses, .instanceMethod yX12_refuses, .selects RX12 yX12_refuses yX12_refuses, .initialized RX12, .code yX12_refuses cX12_refuses 2 (some .int), .fieldLink RX12 149 "MatchTreesModel" "refused" "[I", .methodLink RX12 469 yX12_slot, .instanceMethod yX12_slot, .selects RX12 yX12_slot yX12_slot, .code yX12_slot cX12_slot 2 (some .int), .fieldLink RX12 191 "MatchTreesModel" "undoFirst" "I", .methodLink RX12 472 yX12_copies, .instanceMethod yX12_copies, .selects RX12 yX12_copies yX12_copies, .code yX12_copies cX12_copies 4 none, .fieldLink RX12 173 "MatchTreesModel" "armsOf" "[I", .fieldLink RX12 176 "MatchTreesModel" "orderOf" "[I", .fieldLink RX12 179 "MatchTreesModel" "guardsOf" "[I", .fieldLink RX12 182 "MatchTreesModel" "ruleOf" "[I", .fieldLink RX12 185 "MatchTreesModel" "keptMany" "[I", .fieldLink RX12 188 "MatchTreesModel" "keptRow" "[I"] ++ wsX120)
def wsX12_has : List Cond := .code yX12_has cX12_has 2 (some .int) :: ([.fieldLink RX12 54 "MatchTreesModel" "kindMany" "[I", .fieldLink RX12 51 "MatchTreesModel" "bank" "I", .fieldLink RX12 63 "MatchTreesModel" "conMany" "[I", .fieldLink RX12 146 "MatchTreesModel" "isMatch" "Z", .fieldLink RX12 170 "MatchTreesModel" "rowMany" "I", .fieldLink RX12 173 "MatchTreesModel" "armsOf" "[I", .fieldLink RX12 179 "MatchTreesModel" "guardsOf" "[I", .fieldLink RX12 182 "MatchTreesModel" "ruleOf" "[I", .fieldLink RX12 185 "MatchTreesModel" "keptMany" "[I", .fieldLink RX12 291 "MatchTreesModel" "seenMany" "I", .fieldLink RX12 194 "MatchTreesModel" "undos" "I", .fieldLink RX12 197 "MatchTreesModel" "seeds" "J", .methodLink RX12 459 yX12_columns, .instanceMethod yX12_columns, .selects RX12 yX12_columns yX12_columns, .initialized RX12, .code yX12_columns cX12_columns 1 (some .int), .fieldLink RX12 81 "MatchTreesModel" "columnMany" "[I"] ++ wsX120)
def wsX12_letter : List Cond := .code yX12_letter cX12_letter 7 (some .int) :: ([.fieldLink RX12 54 "MatchTreesModel" "kindMany" "[I", .fieldLink RX12 51 "MatchTreesModel" "bank" "I", .fieldLink RX12 63 "MatchTreesModel" "conMany" "[I", .fieldLink RX12 114 "MatchTreesModel" "kindName" "[J", .fieldLink RX12 118 "MatchTreesModel" "conName" "[J", .constantLong RX12 490 (255), .methodLink RX12 362 yX12_is, .static yX12_is, .initialized RX12, .code yX12_is cX12_is 3 (some .boolean), .methodLink RX12 487 yX12_lettersOf, .static yX12_lettersOf, .code yX12_lettersOf cX12_lettersOf 5 (some .int)] ++ wsX120)
def wsX12_values : List Cond := .code yX12_values cX12_values 2 (some .int) :: ([.fieldLink RX12 146 "MatchTreesModel" "isMatch" "Z", .fieldLink RX12 54 "MatchTreesModel" "kindMany" "[I", .fieldLink RX12 51 "MatchTreesModel" "bank" "I", .fieldLink RX12 57 "MatchTreesModel" "kindValues" "[I", .methodLink RX12 362 yX12_is, .static yX12_is, .initialized RX12, .code yX12_is cX12_is 3 (some .boolean)] ++ wsX120)
def wsX12_isPlace : List Cond := .code yX12_isPlace cX12_isPlace 2 (some .boolean) :: ([.fieldLink RX12 146 "MatchTreesModel" "isMatch" "Z", .fieldLink RX12 173 "MatchTreesModel" "armsOf" "[I", .methodLink RX12 362 yX12_is, .static yX12_is, .initialized RX12, .code yX12_is cX12_is 3 (some .boolean)] ++ wsX120)
def wsX12_arm_r1 : List Cond := [Cond.fieldLink RX12 176 "MatchTreesModel" "orderOf" "[I", Cond.fieldLink RX12 209 "MatchTreesModel" "guardAt" "[I", Cond.methodLink RX12 498 yX12_isPlace, Cond.instanceMethod yX12_isPlace, Cond.selects RX12 yX12_isPlace yX12_isPlace, Cond.initialized RX12, Cond.code yX12_isPlace cX12_isPlace 2 (some .boolean), Cond.fieldLink RX12 146 "MatchTreesModel" "isMatch" "Z", Cond.fieldLink RX12 173 "MatchTreesModel" "armsOf" "[I", Cond.methodLink RX12 362 yX12_is, Cond.static yX12_is, Cond.code yX12_is cX12_is 3 (some .boolean), Cond.methodLink RX12 501 yX12_arranges, Cond.instanceMethod yX12_arranges, Cond.selects RX12 yX12_arranges yX12_arranges, Cond.code yX12_arranges cX12_arranges 4 none, Cond.fieldLink RX12 200 "MatchTreesModel" "places" "I", Cond.fieldLink RX12 212 "MatchTreesModel" "unguarded" "I", Cond.fieldLink RX12 90 "MatchTreesModel" "armGuard" "[I", Cond.fieldLink RX12 51 "MatchTreesModel" "bank" "I", Cond.fieldLink RX12 206 "MatchTreesModel" "fullIn" "[I", Cond.fieldLink RX12 164 "MatchTreesModel" "setMany" "[I", Cond.fieldLink RX12 203 "MatchTreesModel" "placeSet" "[I", Cond.fieldLink RX12 161 "MatchTreesModel" "toldSet" "[I"]
def wsX12_arm_r2 : List Cond := [Cond.fieldLink RX12 236 "MatchTreesModel" "stamp" "I", Cond.methodLink RX12 459 yX12_columns, Cond.instanceMethod yX12_columns, Cond.selects RX12 yX12_columns yX12_columns, Cond.code yX12_columns cX12_columns 1 (some .int), Cond.fieldLink RX12 81 "MatchTreesModel" "columnMany" "[I", Cond.methodLink RX12 475 yX12_placed, Cond.instanceMethod yX12_placed, Cond.selects RX12 yX12_placed yX12_placed, Cond.code yX12_placed cX12_placed 5 (some .int), Cond.methodLink RX12 504 yX12_countsRows, Cond.instanceMethod yX12_countsRows, Cond.selects RX12 yX12_countsRows yX12_countsRows, Cond.code yX12_countsRows cX12_countsRows 2 none, Cond.fieldLink RX12 218 "MatchTreesModel" "manyBy" "[I", Cond.fieldLink RX12 170 "MatchTreesModel" "rowMany" "I", Cond.methodLink RX12 484 yX12_fitting, Cond.instanceMethod yX12_fitting, Cond.selects RX12 yX12_fitting yX12_fitting, Cond.code yX12_fitting cX12_fitting 4 (some .int), Cond.fieldLink RX12 215 "MatchTreesModel" "valueAt" "[I", Cond.methodLink RX12 478 yX12_valuesIn, Cond.instanceMethod yX12_valuesIn, Cond.selects RX12 yX12_valuesIn yX12_valuesIn]
def wsX12_arm_r3 : List Cond := [Cond.code yX12_valuesIn cX12_valuesIn 4 none, Cond.methodLink RX12 463 yX12_columnValues, Cond.instanceMethod yX12_columnValues, Cond.selects RX12 yX12_columnValues yX12_columnValues, Cond.code yX12_columnValues cX12_columnValues 2 (some .int), Cond.fieldLink RX12 84 "MatchTreesModel" "columnKind" "[I", Cond.methodLink RX12 396 yX12_valuesOf, Cond.instanceMethod yX12_valuesOf, Cond.selects RX12 yX12_valuesOf yX12_valuesOf, Cond.code yX12_valuesOf cX12_valuesOf 3 (some .int), Cond.fieldLink RX12 57 "MatchTreesModel" "kindValues" "[I", Cond.methodLink RX12 481 yX12_setIn, Cond.instanceMethod yX12_setIn, Cond.selects RX12 yX12_setIn yX12_setIn, Cond.code yX12_setIn cX12_setIn 3 (some .int), Cond.fieldLink RX12 158 "MatchTreesModel" "setOf" "[I", Cond.methodLink RX12 507 yX12_isUseful, Cond.instanceMethod yX12_isUseful, Cond.selects RX12 yX12_isUseful yX12_isUseful, Cond.code yX12_isUseful cX12_isUseful 4 (some .int), Cond.methodLink RX12 510 yX12_fittingRows, Cond.instanceMethod yX12_fittingRows, Cond.selects RX12 yX12_fittingRows yX12_fittingRows, Cond.code yX12_fittingRows cX12_fittingRows 4 (some .int)]
def wsX12_arm_r4 : List Cond := [Cond.methodLink RX12 513 yX12_takenRows, Cond.instanceMethod yX12_takenRows, Cond.selects RX12 yX12_takenRows yX12_takenRows, Cond.code yX12_takenRows cX12_takenRows 5 (some .int), Cond.fieldLink RX12 179 "MatchTreesModel" "guardsOf" "[I", Cond.methodLink RX12 492 yX12_openBy, Cond.instanceMethod yX12_openBy, Cond.selects RX12 yX12_openBy yX12_openBy, Cond.code yX12_openBy cX12_openBy 4 (some .int), Cond.methodLink RX12 495 yX12_lowest, Cond.static yX12_lowest, Cond.code yX12_lowest cX12_lowest 2 (some .int)]
def wsX12_arm : List Cond := .code yX12_arm cX12_arm 3 (some .int) :: ((wsX12_arm_r1 ++ (wsX12_arm_r2 ++ (wsX12_arm_r3 ++ wsX12_arm_r4))) ++ wsX120)
def wsX12_fits_r1 : List Cond := [Cond.methodLink RX12 498 yX12_isPlace, Cond.instanceMethod yX12_isPlace, Cond.selects RX12 yX12_isPlace yX12_isPlace, Cond.initialized RX12, Cond.code yX12_isPlace cX12_isPlace 2 (some .boolean), Cond.fieldLink RX12 146 "MatchTreesModel" "isMatch" "Z", Cond.fieldLink RX12 173 "MatchTreesModel" "armsOf" "[I", Cond.methodLink RX12 362 yX12_is, Cond.static yX12_is, Cond.code yX12_is cX12_is 3 (some .boolean), Cond.methodLink RX12 459 yX12_columns, Cond.instanceMethod yX12_columns, Cond.selects RX12 yX12_columns yX12_columns, Cond.code yX12_columns cX12_columns 1 (some .int), Cond.fieldLink RX12 81 "MatchTreesModel" "columnMany" "[I", Cond.fieldLink RX12 51 "MatchTreesModel" "bank" "I", Cond.methodLink RX12 463 yX12_columnValues, Cond.instanceMethod yX12_columnValues, Cond.selects RX12 yX12_columnValues yX12_columnValues, Cond.code yX12_columnValues cX12_columnValues 2 (some .int), Cond.fieldLink RX12 84 "MatchTreesModel" "columnKind" "[I", Cond.methodLink RX12 396 yX12_valuesOf, Cond.instanceMethod yX12_valuesOf, Cond.selects RX12 yX12_valuesOf yX12_valuesOf]
def wsX12_fits_r2 : List Cond := [Cond.code yX12_valuesOf cX12_valuesOf 3 (some .int), Cond.fieldLink RX12 57 "MatchTreesModel" "kindValues" "[I", Cond.methodLink RX12 501 yX12_arranges, Cond.instanceMethod yX12_arranges, Cond.selects RX12 yX12_arranges yX12_arranges, Cond.code yX12_arranges cX12_arranges 4 none, Cond.fieldLink RX12 200 "MatchTreesModel" "places" "I", Cond.fieldLink RX12 212 "MatchTreesModel" "unguarded" "I", Cond.fieldLink RX12 209 "MatchTreesModel" "guardAt" "[I", Cond.fieldLink RX12 90 "MatchTreesModel" "armGuard" "[I", Cond.fieldLink RX12 176 "MatchTreesModel" "orderOf" "[I", Cond.fieldLink RX12 206 "MatchTreesModel" "fullIn" "[I", Cond.fieldLink RX12 164 "MatchTreesModel" "setMany" "[I", Cond.fieldLink RX12 203 "MatchTreesModel" "placeSet" "[I", Cond.fieldLink RX12 161 "MatchTreesModel" "toldSet" "[I", Cond.fieldLink RX12 236 "MatchTreesModel" "stamp" "I", Cond.methodLink RX12 475 yX12_placed, Cond.instanceMethod yX12_placed, Cond.selects RX12 yX12_placed yX12_placed, Cond.code yX12_placed cX12_placed 5 (some .int), Cond.methodLink RX12 481 yX12_setIn, Cond.instanceMethod yX12_setIn, Cond.selects RX12 yX12_setIn yX12_setIn, Cond.code yX12_setIn cX12_setIn 3 (some .int)]
def wsX12_fits_r3 : List Cond := [Cond.fieldLink RX12 158 "MatchTreesModel" "setOf" "[I"]
def wsX12_fits : List Cond := .code yX12_fits cX12_fits 4 (some .int) :: ((wsX12_fits_r1 ++ (wsX12_fits_r2 ++ wsX12_fits_r3)) ++ wsX120)
def wsX12_holds_r1 : List Cond := [Cond.fieldLink RX12 218 "MatchTreesModel" "manyBy" "[I", Cond.methodLink RX12 498 yX12_isPlace, Cond.instanceMethod yX12_isPlace, Cond.selects RX12 yX12_isPlace yX12_isPlace, Cond.initialized RX12, Cond.code yX12_isPlace cX12_isPlace 2 (some .boolean), Cond.fieldLink RX12 146 "MatchTreesModel" "isMatch" "Z", Cond.fieldLink RX12 173 "MatchTreesModel" "armsOf" "[I", Cond.methodLink RX12 362 yX12_is, Cond.static yX12_is, Cond.code yX12_is cX12_is 3 (some .boolean), Cond.methodLink RX12 501 yX12_arranges, Cond.instanceMethod yX12_arranges, Cond.selects RX12 yX12_arranges yX12_arranges, Cond.code yX12_arranges cX12_arranges 4 none, Cond.fieldLink RX12 200 "MatchTreesModel" "places" "I", Cond.fieldLink RX12 212 "MatchTreesModel" "unguarded" "I", Cond.fieldLink RX12 209 "MatchTreesModel" "guardAt" "[I", Cond.fieldLink RX12 90 "MatchTreesModel" "armGuard" "[I", Cond.fieldLink RX12 51 "MatchTreesModel" "bank" "I", Cond.fieldLink RX12 176 "MatchTreesModel" "orderOf" "[I", Cond.fieldLink RX12 206 "MatchTreesModel" "fullIn" "[I", Cond.fieldLink RX12 164 "MatchTreesModel" "setMany" "[I", Cond.fieldLink RX12 203 "MatchTreesModel" "placeSet" "[I"]
def wsX12_holds_r2 : List Cond := [Cond.fieldLink RX12 161 "MatchTreesModel" "toldSet" "[I", Cond.fieldLink RX12 236 "MatchTreesModel" "stamp" "I", Cond.methodLink RX12 459 yX12_columns, Cond.instanceMethod yX12_columns, Cond.selects RX12 yX12_columns yX12_columns, Cond.code yX12_columns cX12_columns 1 (some .int), Cond.fieldLink RX12 81 "MatchTreesModel" "columnMany" "[I", Cond.methodLink RX12 475 yX12_placed, Cond.instanceMethod yX12_placed, Cond.selects RX12 yX12_placed yX12_placed, Cond.code yX12_placed cX12_placed 5 (some .int), Cond.methodLink RX12 504 yX12_countsRows, Cond.instanceMethod yX12_countsRows, Cond.selects RX12 yX12_countsRows yX12_countsRows, Cond.code yX12_countsRows cX12_countsRows 2 none, Cond.fieldLink RX12 170 "MatchTreesModel" "rowMany" "I", Cond.methodLink RX12 484 yX12_fitting, Cond.instanceMethod yX12_fitting, Cond.selects RX12 yX12_fitting yX12_fitting, Cond.code yX12_fitting cX12_fitting 4 (some .int), Cond.fieldLink RX12 215 "MatchTreesModel" "valueAt" "[I", Cond.methodLink RX12 478 yX12_valuesIn, Cond.instanceMethod yX12_valuesIn, Cond.selects RX12 yX12_valuesIn yX12_valuesIn]
def wsX12_holds_r3 : List Cond := [Cond.code yX12_valuesIn cX12_valuesIn 4 none, Cond.methodLink RX12 463 yX12_columnValues, Cond.instanceMethod yX12_columnValues, Cond.selects RX12 yX12_columnValues yX12_columnValues, Cond.code yX12_columnValues cX12_columnValues 2 (some .int), Cond.fieldLink RX12 84 "MatchTreesModel" "columnKind" "[I", Cond.methodLink RX12 396 yX12_valuesOf, Cond.instanceMethod yX12_valuesOf, Cond.selects RX12 yX12_valuesOf yX12_valuesOf, Cond.code yX12_valuesOf cX12_valuesOf 3 (some .int), Cond.fieldLink RX12 57 "MatchTreesModel" "kindValues" "[I", Cond.methodLink RX12 481 yX12_setIn, Cond.instanceMethod yX12_setIn, Cond.selects RX12 yX12_setIn yX12_setIn, Cond.code yX12_setIn cX12_setIn 3 (some .int), Cond.fieldLink RX12 158 "MatchTreesModel" "setOf" "[I"]
def wsX12_holds : List Cond := .code yX12_holds cX12_holds 4 (some .int) :: ((wsX12_holds_r1 ++ (wsX12_holds_r2 ++ wsX12_holds_r3)) ++ wsX120)
def wsX12_missing_r1 : List Cond := [Cond.fieldLink RX12 146 "MatchTreesModel" "isMatch" "Z", Cond.fieldLink RX12 170 "MatchTreesModel" "rowMany" "I", Cond.fieldLink RX12 212 "MatchTreesModel" "unguarded" "I", Cond.methodLink RX12 501 yX12_arranges, Cond.instanceMethod yX12_arranges, Cond.selects RX12 yX12_arranges yX12_arranges, Cond.initialized RX12, Cond.code yX12_arranges cX12_arranges 4 none, Cond.fieldLink RX12 173 "MatchTreesModel" "armsOf" "[I", Cond.fieldLink RX12 200 "MatchTreesModel" "places" "I", Cond.fieldLink RX12 209 "MatchTreesModel" "guardAt" "[I", Cond.fieldLink RX12 90 "MatchTreesModel" "armGuard" "[I", Cond.fieldLink RX12 51 "MatchTreesModel" "bank" "I", Cond.fieldLink RX12 176 "MatchTreesModel" "orderOf" "[I", Cond.fieldLink RX12 206 "MatchTreesModel" "fullIn" "[I", Cond.fieldLink RX12 164 "MatchTreesModel" "setMany" "[I", Cond.fieldLink RX12 203 "MatchTreesModel" "placeSet" "[I", Cond.fieldLink RX12 161 "MatchTreesModel" "toldSet" "[I", Cond.fieldLink RX12 236 "MatchTreesModel" "stamp" "I", Cond.methodLink RX12 459 yX12_columns, Cond.instanceMethod yX12_columns, Cond.selects RX12 yX12_columns yX12_columns, Cond.code yX12_columns cX12_columns 1 (some .int), Cond.fieldLink RX12 81 "MatchTreesModel" "columnMany" "[I"]
def wsX12_missing_r2 : List Cond := [Cond.methodLink RX12 475 yX12_placed, Cond.instanceMethod yX12_placed, Cond.selects RX12 yX12_placed yX12_placed, Cond.code yX12_placed cX12_placed 5 (some .int), Cond.methodLink RX12 484 yX12_fitting, Cond.instanceMethod yX12_fitting, Cond.selects RX12 yX12_fitting yX12_fitting, Cond.code yX12_fitting cX12_fitting 4 (some .int), Cond.fieldLink RX12 215 "MatchTreesModel" "valueAt" "[I", Cond.methodLink RX12 478 yX12_valuesIn, Cond.instanceMethod yX12_valuesIn, Cond.selects RX12 yX12_valuesIn yX12_valuesIn, Cond.code yX12_valuesIn cX12_valuesIn 4 none, Cond.methodLink RX12 463 yX12_columnValues, Cond.instanceMethod yX12_columnValues, Cond.selects RX12 yX12_columnValues yX12_columnValues, Cond.code yX12_columnValues cX12_columnValues 2 (some .int), Cond.fieldLink RX12 84 "MatchTreesModel" "columnKind" "[I", Cond.methodLink RX12 396 yX12_valuesOf, Cond.instanceMethod yX12_valuesOf, Cond.selects RX12 yX12_valuesOf yX12_valuesOf, Cond.code yX12_valuesOf cX12_valuesOf 3 (some .int), Cond.fieldLink RX12 57 "MatchTreesModel" "kindValues" "[I", Cond.methodLink RX12 481 yX12_setIn]
def wsX12_missing_r3 : List Cond := [Cond.instanceMethod yX12_setIn, Cond.selects RX12 yX12_setIn yX12_setIn, Cond.code yX12_setIn cX12_setIn 3 (some .int), Cond.fieldLink RX12 158 "MatchTreesModel" "setOf" "[I"]
def wsX12_missing : List Cond := .code yX12_missing cX12_missing 4 (some .int) :: ((wsX12_missing_r1 ++ (wsX12_missing_r2 ++ wsX12_missing_r3)) ++ wsX120)
def wsX12_isRow : List Cond := .code yX12_isRow cX12_isRow 2 (some .boolean) :: ([.fieldLink RX12 146 "MatchTreesModel" "isMatch" "Z", .fieldLink RX12 170 "MatchTreesModel" "rowMany" "I", .methodLink RX12 362 yX12_is, .static yX12_is, .initialized RX12, .code yX12_is cX12_is 3 (some .boolean)] ++ wsX120)
def wsX12_taken_r1 : List Cond := [Cond.fieldLink RX12 179 "MatchTreesModel" "guardsOf" "[I", Cond.methodLink RX12 516 yX12_isRow, Cond.instanceMethod yX12_isRow, Cond.selects RX12 yX12_isRow yX12_isRow, Cond.initialized RX12, Cond.code yX12_isRow cX12_isRow 2 (some .boolean), Cond.fieldLink RX12 146 "MatchTreesModel" "isMatch" "Z", Cond.fieldLink RX12 170 "MatchTreesModel" "rowMany" "I", Cond.methodLink RX12 362 yX12_is, Cond.static yX12_is, Cond.code yX12_is cX12_is 3 (some .boolean), Cond.methodLink RX12 501 yX12_arranges, Cond.instanceMethod yX12_arranges, Cond.selects RX12 yX12_arranges yX12_arranges, Cond.code yX12_arranges cX12_arranges 4 none, Cond.fieldLink RX12 173 "MatchTreesModel" "armsOf" "[I", Cond.fieldLink RX12 200 "MatchTreesModel" "places" "I", Cond.fieldLink RX12 212 "MatchTreesModel" "unguarded" "I", Cond.fieldLink RX12 209 "MatchTreesModel" "guardAt" "[I", Cond.fieldLink RX12 90 "MatchTreesModel" "armGuard" "[I", Cond.fieldLink RX12 51 "MatchTreesModel" "bank" "I", Cond.fieldLink RX12 176 "MatchTreesModel" "orderOf" "[I", Cond.fieldLink RX12 206 "MatchTreesModel" "fullIn" "[I", Cond.fieldLink RX12 164 "MatchTreesModel" "setMany" "[I"]
def wsX12_taken_r2 : List Cond := [Cond.fieldLink RX12 203 "MatchTreesModel" "placeSet" "[I", Cond.fieldLink RX12 161 "MatchTreesModel" "toldSet" "[I", Cond.fieldLink RX12 236 "MatchTreesModel" "stamp" "I", Cond.methodLink RX12 459 yX12_columns, Cond.instanceMethod yX12_columns, Cond.selects RX12 yX12_columns yX12_columns, Cond.code yX12_columns cX12_columns 1 (some .int), Cond.fieldLink RX12 81 "MatchTreesModel" "columnMany" "[I", Cond.methodLink RX12 475 yX12_placed, Cond.instanceMethod yX12_placed, Cond.selects RX12 yX12_placed yX12_placed, Cond.code yX12_placed cX12_placed 5 (some .int), Cond.methodLink RX12 484 yX12_fitting, Cond.instanceMethod yX12_fitting, Cond.selects RX12 yX12_fitting yX12_fitting, Cond.code yX12_fitting cX12_fitting 4 (some .int), Cond.fieldLink RX12 215 "MatchTreesModel" "valueAt" "[I", Cond.methodLink RX12 478 yX12_valuesIn, Cond.instanceMethod yX12_valuesIn, Cond.selects RX12 yX12_valuesIn yX12_valuesIn, Cond.code yX12_valuesIn cX12_valuesIn 4 none, Cond.methodLink RX12 463 yX12_columnValues, Cond.instanceMethod yX12_columnValues, Cond.selects RX12 yX12_columnValues yX12_columnValues]
def wsX12_taken_r3 : List Cond := [Cond.code yX12_columnValues cX12_columnValues 2 (some .int), Cond.fieldLink RX12 84 "MatchTreesModel" "columnKind" "[I", Cond.methodLink RX12 396 yX12_valuesOf, Cond.instanceMethod yX12_valuesOf, Cond.selects RX12 yX12_valuesOf yX12_valuesOf, Cond.code yX12_valuesOf cX12_valuesOf 3 (some .int), Cond.fieldLink RX12 57 "MatchTreesModel" "kindValues" "[I", Cond.methodLink RX12 481 yX12_setIn, Cond.instanceMethod yX12_setIn, Cond.selects RX12 yX12_setIn yX12_setIn, Cond.code yX12_setIn cX12_setIn 3 (some .int), Cond.fieldLink RX12 158 "MatchTreesModel" "setOf" "[I", Cond.methodLink RX12 492 yX12_openBy, Cond.instanceMethod yX12_openBy, Cond.selects RX12 yX12_openBy yX12_openBy, Cond.code yX12_openBy cX12_openBy 4 (some .int), Cond.methodLink RX12 495 yX12_lowest, Cond.static yX12_lowest, Cond.code yX12_lowest cX12_lowest 2 (some .int)]
def wsX12_taken : List Cond := .code yX12_taken cX12_taken 2 (some .int) :: ((wsX12_taken_r1 ++ (wsX12_taken_r2 ++ wsX12_taken_r3)) ++ wsX120)
def wsX12_row_r1 : List Cond := [Cond.fieldLink RX12 13 "MatchTreesModel" "taped" "I", Cond.fieldLink RX12 17 "MatchTreesModel" "size" "I", Cond.fieldLink RX12 26 "MatchTreesModel" "signEnd" "I", Cond.fieldLink RX12 36 "MatchTreesModel" "faultKind" "I", Cond.fieldLink RX12 39 "MatchTreesModel" "faultPlace" "I", Cond.fieldLink RX12 146 "MatchTreesModel" "isMatch" "Z", Cond.fieldLink RX12 84 "MatchTreesModel" "columnKind" "[I", Cond.fieldLink RX12 51 "MatchTreesModel" "bank" "I", Cond.fieldLink RX12 20 "MatchTreesModel" "sign" "I", Cond.fieldLink RX12 23 "MatchTreesModel" "signAt" "I", Cond.fieldLink RX12 42 "MatchTreesModel" "toldKind" "I", Cond.fieldLink RX12 45 "MatchTreesModel" "toldPlace" "I", Cond.methodLink RX12 320 yX12_blame, Cond.instanceMethod yX12_blame, Cond.selects RX12 yX12_blame yX12_blame, Cond.initialized RX12, Cond.code yX12_blame cX12_blame 3 none, Cond.methodLink RX12 337 yX12_ahead, Cond.instanceMethod yX12_ahead, Cond.selects RX12 yX12_ahead yX12_ahead, Cond.code yX12_ahead cX12_ahead 6 none, Cond.fieldLink RX12 7 "MatchTreesModel" "tape" "[I", Cond.fieldLink RX12 48 "MatchTreesModel" "lexAt" "I", Cond.fieldLink RX12 29 "MatchTreesModel" "value" "I"]
def wsX12_row_r2 : List Cond := [Cond.fieldLink RX12 32 "MatchTreesModel" "word" "J", Cond.methodLink RX12 324 yX12_isLetter, Cond.static yX12_isLetter, Cond.code yX12_isLetter cX12_isLetter 1 (some .boolean), Cond.methodLink RX12 328 yX12_isDigit, Cond.static yX12_isDigit, Cond.code yX12_isDigit cX12_isDigit 1 (some .boolean), Cond.methodLink RX12 459 yX12_columns, Cond.instanceMethod yX12_columns, Cond.selects RX12 yX12_columns yX12_columns, Cond.code yX12_columns cX12_columns 1 (some .int), Cond.fieldLink RX12 81 "MatchTreesModel" "columnMany" "[I", Cond.methodLink RX12 331 yX12_lex, Cond.instanceMethod yX12_lex, Cond.selects RX12 yX12_lex yX12_lex, Cond.code yX12_lex cX12_lex 1 none, Cond.methodLink RX12 413 yX12_must, Cond.instanceMethod yX12_must, Cond.selects RX12 yX12_must yX12_must, Cond.code yX12_must cX12_must 2 none, Cond.methodLink RX12 334 yX12_isSign, Cond.instanceMethod yX12_isSign, Cond.selects RX12 yX12_isSign yX12_isSign, Cond.code yX12_isSign cX12_isSign 2 (some .boolean)]
def wsX12_row_r3 : List Cond := [Cond.methodLink RX12 463 yX12_columnValues, Cond.instanceMethod yX12_columnValues, Cond.selects RX12 yX12_columnValues yX12_columnValues, Cond.code yX12_columnValues cX12_columnValues 2 (some .int), Cond.methodLink RX12 396 yX12_valuesOf, Cond.instanceMethod yX12_valuesOf, Cond.selects RX12 yX12_valuesOf yX12_valuesOf, Cond.code yX12_valuesOf cX12_valuesOf 3 (some .int), Cond.fieldLink RX12 57 "MatchTreesModel" "kindValues" "[I", Cond.methodLink RX12 525 yX12_valueRead, Cond.instanceMethod yX12_valueRead, Cond.selects RX12 yX12_valueRead yX12_valueRead, Cond.code yX12_valueRead cX12_valueRead 5 (some .int), Cond.fieldLink RX12 143 "MatchTreesModel" "open" "I", Cond.fieldLink RX12 131 "MatchTreesModel" "openKind" "[I", Cond.fieldLink RX12 69 "MatchTreesModel" "conFields" "[I", Cond.fieldLink RX12 75 "MatchTreesModel" "conFrom" "[I", Cond.fieldLink RX12 137 "MatchTreesModel" "openCon" "[I", Cond.fieldLink RX12 140 "MatchTreesModel" "openField" "[I", Cond.fieldLink RX12 134 "MatchTreesModel" "openAlts" "[I", Cond.fieldLink RX12 72 "MatchTreesModel" "conField" "[I", Cond.methodLink RX12 404 yX12_opensPattern, Cond.instanceMethod yX12_opensPattern, Cond.selects RX12 yX12_opensPattern yX12_opensPattern]
def wsX12_row_r4 : List Cond := [Cond.code yX12_opensPattern cX12_opensPattern 2 none, Cond.methodLink RX12 407 yX12_number, Cond.instanceMethod yX12_number, Cond.selects RX12 yX12_number yX12_number, Cond.code yX12_number cX12_number 4 (some .int), Cond.methodLink RX12 362 yX12_is, Cond.static yX12_is, Cond.code yX12_is cX12_is 3 (some .boolean), Cond.methodLink RX12 519 yX12_isMoreOf, Cond.instanceMethod yX12_isMoreOf, Cond.selects RX12 yX12_isMoreOf yX12_isMoreOf, Cond.code yX12_isMoreOf cX12_isMoreOf 5 (some .boolean), Cond.methodLink RX12 522 yX12_conRead, Cond.instanceMethod yX12_conRead, Cond.selects RX12 yX12_conRead yX12_conRead, Cond.code yX12_conRead cX12_conRead 3 (some .int), Cond.fieldLink RX12 66 "MatchTreesModel" "conKind" "[I", Cond.methodLink RX12 366 yX12_isOwn, Cond.instanceMethod yX12_isOwn, Cond.selects RX12 yX12_isOwn yX12_isOwn, Cond.code yX12_isOwn cX12_isOwn 3 (some .boolean), Cond.constantLong RX12 340 (1802071652), Cond.constantLong RX12 342 (6516590), Cond.constantLong RX12 344 (469786452840)]
def wsX12_row_r5 : List Cond := [Cond.constantLong RX12 346 (6386285), Cond.constantLong RX12 348 (2003330414), Cond.constantLong RX12 350 (1920298085), Cond.constantLong RX12 352 (108256335193460), Cond.constantLong RX12 354 (7239021), Cond.constantLong RX12 356 (6385273), Cond.constantLong RX12 358 (28530), Cond.constantLong RX12 360 (29807), Cond.methodLink RX12 374 yX12_conNamed, Cond.instanceMethod yX12_conNamed, Cond.selects RX12 yX12_conNamed yX12_conNamed, Cond.code yX12_conNamed cX12_conNamed 5 (some .int), Cond.fieldLink RX12 63 "MatchTreesModel" "conMany" "[I", Cond.fieldLink RX12 118 "MatchTreesModel" "conName" "[J", Cond.methodLink RX12 312 yX12_refuses, Cond.instanceMethod yX12_refuses, Cond.selects RX12 yX12_refuses yX12_refuses, Cond.code yX12_refuses cX12_refuses 2 (some .int), Cond.fieldLink RX12 149 "MatchTreesModel" "refused" "[I"]
def wsX12_row : List Cond := .code yX12_row cX12_row 3 (some .int) :: ((wsX12_row_r1 ++ (wsX12_row_r2 ++ (wsX12_row_r3 ++ (wsX12_row_r4 ++ wsX12_row_r5)))) ++ wsX120)
def wsX12_writes : List Cond := .code yX12_writes cX12_writes 2 none :: ([.fieldLink RX12 221 "MatchTreesModel" "out" "[I", .fieldLink RX12 224 "MatchTreesModel" "outs" "I"] ++ wsX120)
def wsX12_text_r1 : List Cond := [Cond.fieldLink RX12 224 "MatchTreesModel" "outs" "I", Cond.fieldLink RX12 233 "MatchTreesModel" "todos" "I", Cond.fieldLink RX12 84 "MatchTreesModel" "columnKind" "[I", Cond.fieldLink RX12 51 "MatchTreesModel" "bank" "I", Cond.fieldLink RX12 215 "MatchTreesModel" "valueAt" "[I", Cond.fieldLink RX12 227 "MatchTreesModel" "todoKind" "[I", Cond.fieldLink RX12 230 "MatchTreesModel" "todo" "[I", Cond.methodLink RX12 516 yX12_isRow, Cond.instanceMethod yX12_isRow, Cond.selects RX12 yX12_isRow yX12_isRow, Cond.initialized RX12, Cond.code yX12_isRow cX12_isRow 2 (some .boolean), Cond.fieldLink RX12 146 "MatchTreesModel" "isMatch" "Z", Cond.fieldLink RX12 170 "MatchTreesModel" "rowMany" "I", Cond.methodLink RX12 362 yX12_is, Cond.static yX12_is, Cond.code yX12_is cX12_is 3 (some .boolean), Cond.methodLink RX12 478 yX12_valuesIn, Cond.instanceMethod yX12_valuesIn, Cond.selects RX12 yX12_valuesIn yX12_valuesIn, Cond.code yX12_valuesIn cX12_valuesIn 4 none, Cond.methodLink RX12 459 yX12_columns, Cond.instanceMethod yX12_columns, Cond.selects RX12 yX12_columns yX12_columns]
def wsX12_text_r2 : List Cond := [Cond.code yX12_columns cX12_columns 1 (some .int), Cond.fieldLink RX12 81 "MatchTreesModel" "columnMany" "[I", Cond.methodLink RX12 463 yX12_columnValues, Cond.instanceMethod yX12_columnValues, Cond.selects RX12 yX12_columnValues yX12_columnValues, Cond.code yX12_columnValues cX12_columnValues 2 (some .int), Cond.methodLink RX12 396 yX12_valuesOf, Cond.instanceMethod yX12_valuesOf, Cond.selects RX12 yX12_valuesOf yX12_valuesOf, Cond.code yX12_valuesOf cX12_valuesOf 3 (some .int), Cond.fieldLink RX12 57 "MatchTreesModel" "kindValues" "[I", Cond.methodLink RX12 538 yX12_later, Cond.instanceMethod yX12_later, Cond.selects RX12 yX12_later yX12_later, Cond.code yX12_later cX12_later 3 none, Cond.methodLink RX12 528 yX12_writes, Cond.instanceMethod yX12_writes, Cond.selects RX12 yX12_writes yX12_writes, Cond.code yX12_writes cX12_writes 2 none, Cond.fieldLink RX12 221 "MatchTreesModel" "out" "[I", Cond.methodLink RX12 541 yX12_writesValue, Cond.instanceMethod yX12_writesValue, Cond.selects RX12 yX12_writesValue yX12_writesValue, Cond.code yX12_writesValue cX12_writesValue 6 none]
def wsX12_text_r3 : List Cond := [Cond.fieldLink RX12 118 "MatchTreesModel" "conName" "[J", Cond.fieldLink RX12 69 "MatchTreesModel" "conFields" "[I", Cond.fieldLink RX12 72 "MatchTreesModel" "conField" "[I", Cond.methodLink RX12 531 yX12_conOf, Cond.instanceMethod yX12_conOf, Cond.selects RX12 yX12_conOf yX12_conOf, Cond.code yX12_conOf cX12_conOf 5 (some .int), Cond.fieldLink RX12 63 "MatchTreesModel" "conMany" "[I", Cond.fieldLink RX12 66 "MatchTreesModel" "conKind" "[I", Cond.fieldLink RX12 75 "MatchTreesModel" "conFrom" "[I", Cond.fieldLink RX12 78 "MatchTreesModel" "conValues" "[I", Cond.methodLink RX12 534 yX12_writesName, Cond.instanceMethod yX12_writesName, Cond.selects RX12 yX12_writesName yX12_writesName, Cond.code yX12_writesName cX12_writesName 4 none, Cond.constantLong RX12 490 (255), Cond.methodLink RX12 487 yX12_lettersOf, Cond.static yX12_lettersOf, Cond.code yX12_lettersOf cX12_lettersOf 5 (some .int), Cond.methodLink RX12 455 yX12_fieldOf, Cond.instanceMethod yX12_fieldOf, Cond.selects RX12 yX12_fieldOf yX12_fieldOf, Cond.code yX12_fieldOf cX12_fieldOf 7 (some .int)]
def wsX12_text : List Cond := .code yX12_text cX12_text 4 (some .int) :: ((wsX12_text_r1 ++ (wsX12_text_r2 ++ wsX12_text_r3)) ++ wsX120)
def wsX12_octet : List Cond := .code yX12_octet cX12_octet 2 (some .int) :: ([.fieldLink RX12 224 "MatchTreesModel" "outs" "I", .fieldLink RX12 221 "MatchTreesModel" "out" "[I", .methodLink RX12 362 yX12_is, .static yX12_is, .initialized RX12, .code yX12_is cX12_is 3 (some .boolean)] ++ wsX120)
def wsX12_tree_r1 : List Cond := [Cond.fieldLink RX12 146 "MatchTreesModel" "isMatch" "Z", Cond.fieldLink RX12 258 "MatchTreesModel" "stateMany" "I", Cond.fieldLink RX12 255 "MatchTreesModel" "states" "[I", Cond.fieldLink RX12 261 "MatchTreesModel" "below" "[I", Cond.methodLink RX12 362 yX12_is, Cond.static yX12_is, Cond.initialized RX12, Cond.code yX12_is cX12_is 3 (some .boolean), Cond.methodLink RX12 581 yX12_plants, Cond.instanceMethod yX12_plants, Cond.selects RX12 yX12_plants yX12_plants, Cond.code yX12_plants cX12_plants 3 none, Cond.fieldLink RX12 243 "MatchTreesModel" "ruleNow" "I", Cond.methodLink RX12 501 yX12_arranges, Cond.instanceMethod yX12_arranges, Cond.selects RX12 yX12_arranges yX12_arranges, Cond.code yX12_arranges cX12_arranges 4 none, Cond.fieldLink RX12 173 "MatchTreesModel" "armsOf" "[I", Cond.fieldLink RX12 200 "MatchTreesModel" "places" "I", Cond.fieldLink RX12 212 "MatchTreesModel" "unguarded" "I", Cond.fieldLink RX12 209 "MatchTreesModel" "guardAt" "[I", Cond.fieldLink RX12 90 "MatchTreesModel" "armGuard" "[I", Cond.fieldLink RX12 51 "MatchTreesModel" "bank" "I", Cond.fieldLink RX12 176 "MatchTreesModel" "orderOf" "[I"]
def wsX12_tree_r2 : List Cond := [Cond.fieldLink RX12 206 "MatchTreesModel" "fullIn" "[I", Cond.fieldLink RX12 164 "MatchTreesModel" "setMany" "[I", Cond.fieldLink RX12 203 "MatchTreesModel" "placeSet" "[I", Cond.fieldLink RX12 161 "MatchTreesModel" "toldSet" "[I", Cond.fieldLink RX12 236 "MatchTreesModel" "stamp" "I", Cond.methodLink RX12 459 yX12_columns, Cond.instanceMethod yX12_columns, Cond.selects RX12 yX12_columns yX12_columns, Cond.code yX12_columns cX12_columns 1 (some .int), Cond.fieldLink RX12 81 "MatchTreesModel" "columnMany" "[I", Cond.methodLink RX12 475 yX12_placed, Cond.instanceMethod yX12_placed, Cond.selects RX12 yX12_placed yX12_placed, Cond.code yX12_placed cX12_placed 5 (some .int), Cond.methodLink RX12 584 yX12_allTests, Cond.instanceMethod yX12_allTests, Cond.selects RX12 yX12_allTests yX12_allTests, Cond.code yX12_allTests cX12_allTests 5 (some .int), Cond.fieldLink RX12 179 "MatchTreesModel" "guardsOf" "[I", Cond.fieldLink RX12 170 "MatchTreesModel" "rowMany" "I", Cond.methodLink RX12 492 yX12_openBy, Cond.instanceMethod yX12_openBy, Cond.selects RX12 yX12_openBy yX12_openBy, Cond.code yX12_openBy cX12_openBy 4 (some .int)]
def wsX12_tree_r3 : List Cond := [Cond.methodLink RX12 571 yX12_testsFor, Cond.instanceMethod yX12_testsFor, Cond.selects RX12 yX12_testsFor yX12_testsFor, Cond.code yX12_testsFor cX12_testsFor 6 (some .int), Cond.fieldLink RX12 215 "MatchTreesModel" "valueAt" "[I", Cond.methodLink RX12 478 yX12_valuesIn, Cond.instanceMethod yX12_valuesIn, Cond.selects RX12 yX12_valuesIn yX12_valuesIn, Cond.code yX12_valuesIn cX12_valuesIn 4 none, Cond.methodLink RX12 463 yX12_columnValues, Cond.instanceMethod yX12_columnValues, Cond.selects RX12 yX12_columnValues yX12_columnValues, Cond.code yX12_columnValues cX12_columnValues 2 (some .int), Cond.fieldLink RX12 84 "MatchTreesModel" "columnKind" "[I", Cond.methodLink RX12 396 yX12_valuesOf, Cond.instanceMethod yX12_valuesOf, Cond.selects RX12 yX12_valuesOf yX12_valuesOf, Cond.code yX12_valuesOf cX12_valuesOf 3 (some .int), Cond.fieldLink RX12 57 "MatchTreesModel" "kindValues" "[I", Cond.methodLink RX12 562 yX12_root, Cond.instanceMethod yX12_root, Cond.selects RX12 yX12_root yX12_root, Cond.code yX12_root cX12_root 1 (some .int), Cond.methodLink RX12 559 yX12_leftOf]
def wsX12_tree_r4 : List Cond := [Cond.static yX12_leftOf, Cond.code yX12_leftOf cX12_leftOf 2 (some .int), Cond.methodLink RX12 547 yX12_armsIn, Cond.static yX12_armsIn, Cond.code yX12_armsIn cX12_armsIn 1 (some .int), Cond.methodLink RX12 556 yX12_asksFor, Cond.instanceMethod yX12_asksFor, Cond.selects RX12 yX12_asksFor yX12_asksFor, Cond.code yX12_asksFor cX12_asksFor 8 (some .int), Cond.fieldLink RX12 240 "MatchTreesModel" "chosen" "[I", Cond.methodLink RX12 495 yX12_lowest, Cond.static yX12_lowest, Cond.code yX12_lowest cX12_lowest 2 (some .int), Cond.methodLink RX12 550 yX12_columnsIn, Cond.static yX12_columnsIn, Cond.code yX12_columnsIn cX12_columnsIn 1 (some .int), Cond.methodLink RX12 553 yX12_worthOf, Cond.instanceMethod yX12_worthOf, Cond.selects RX12 yX12_worthOf yX12_worthOf, Cond.code yX12_worthOf cX12_worthOf 7 (some .int), Cond.fieldLink RX12 249 "MatchTreesModel" "meeting" "I", Cond.fieldLink RX12 246 "MatchTreesModel" "metBy" "[I", Cond.methodLink RX12 544 yX12_bitsOf, Cond.static yX12_bitsOf]
def wsX12_tree_r5 : List Cond := [Cond.code yX12_bitsOf cX12_bitsOf 3 (some .int), Cond.methodLink RX12 565 yX12_throughDoor, Cond.static yX12_throughDoor, Cond.code yX12_throughDoor cX12_throughDoor 1 (some .int), Cond.methodLink RX12 481 yX12_setIn, Cond.instanceMethod yX12_setIn, Cond.selects RX12 yX12_setIn yX12_setIn, Cond.code yX12_setIn cX12_setIn 3 (some .int), Cond.fieldLink RX12 158 "MatchTreesModel" "setOf" "[I", Cond.methodLink RX12 568 yX12_branchOf, Cond.instanceMethod yX12_branchOf, Cond.selects RX12 yX12_branchOf yX12_branchOf, Cond.code yX12_branchOf cX12_branchOf 4 (some .int), Cond.methodLink RX12 587 yX12_grows, Cond.instanceMethod yX12_grows, Cond.selects RX12 yX12_grows yX12_grows, Cond.code yX12_grows cX12_grows 5 none, Cond.methodLink RX12 574 yX12_reaches, Cond.instanceMethod yX12_reaches, Cond.selects RX12 yX12_reaches yX12_reaches, Cond.code yX12_reaches cX12_reaches 2 none, Cond.fieldLink RX12 252 "MatchTreesModel" "reached" "[I", Cond.methodLink RX12 577 yX12_isDoor, Cond.instanceMethod yX12_isDoor]
def wsX12_tree_r6 : List Cond := [Cond.selects RX12 yX12_isDoor yX12_isDoor, Cond.code yX12_isDoor cX12_isDoor 2 (some .boolean), Cond.methodLink RX12 590 yX12_sizeOf, Cond.static yX12_sizeOf, Cond.code yX12_sizeOf cX12_sizeOf 1 (some .int), Cond.methodLink RX12 593 yX12_weighs, Cond.instanceMethod yX12_weighs, Cond.selects RX12 yX12_weighs yX12_weighs, Cond.code yX12_weighs cX12_weighs 8 none, Cond.constant RX12 580 (1000000)]
def wsX12_tree : List Cond := .code yX12_tree cX12_tree 5 (some .int) :: ((wsX12_tree_r1 ++ (wsX12_tree_r2 ++ (wsX12_tree_r3 ++ (wsX12_tree_r4 ++ (wsX12_tree_r5 ++ wsX12_tree_r6))))) ++ wsX120)
def wsX12_first_r1 : List Cond := [Cond.fieldLink RX12 146 "MatchTreesModel" "isMatch" "Z", Cond.methodLink RX12 362 yX12_is, Cond.static yX12_is, Cond.initialized RX12, Cond.code yX12_is cX12_is 3 (some .boolean), Cond.methodLink RX12 581 yX12_plants, Cond.instanceMethod yX12_plants, Cond.selects RX12 yX12_plants yX12_plants, Cond.code yX12_plants cX12_plants 3 none, Cond.fieldLink RX12 243 "MatchTreesModel" "ruleNow" "I", Cond.methodLink RX12 501 yX12_arranges, Cond.instanceMethod yX12_arranges, Cond.selects RX12 yX12_arranges yX12_arranges, Cond.code yX12_arranges cX12_arranges 4 none, Cond.fieldLink RX12 173 "MatchTreesModel" "armsOf" "[I", Cond.fieldLink RX12 200 "MatchTreesModel" "places" "I", Cond.fieldLink RX12 212 "MatchTreesModel" "unguarded" "I", Cond.fieldLink RX12 209 "MatchTreesModel" "guardAt" "[I", Cond.fieldLink RX12 90 "MatchTreesModel" "armGuard" "[I", Cond.fieldLink RX12 51 "MatchTreesModel" "bank" "I", Cond.fieldLink RX12 176 "MatchTreesModel" "orderOf" "[I", Cond.fieldLink RX12 206 "MatchTreesModel" "fullIn" "[I", Cond.fieldLink RX12 164 "MatchTreesModel" "setMany" "[I", Cond.fieldLink RX12 203 "MatchTreesModel" "placeSet" "[I"]
def wsX12_first_r2 : List Cond := [Cond.fieldLink RX12 161 "MatchTreesModel" "toldSet" "[I", Cond.fieldLink RX12 236 "MatchTreesModel" "stamp" "I", Cond.methodLink RX12 459 yX12_columns, Cond.instanceMethod yX12_columns, Cond.selects RX12 yX12_columns yX12_columns, Cond.code yX12_columns cX12_columns 1 (some .int), Cond.fieldLink RX12 81 "MatchTreesModel" "columnMany" "[I", Cond.methodLink RX12 475 yX12_placed, Cond.instanceMethod yX12_placed, Cond.selects RX12 yX12_placed yX12_placed, Cond.code yX12_placed cX12_placed 5 (some .int), Cond.methodLink RX12 562 yX12_root, Cond.instanceMethod yX12_root, Cond.selects RX12 yX12_root yX12_root, Cond.code yX12_root cX12_root 1 (some .int), Cond.methodLink RX12 559 yX12_leftOf, Cond.static yX12_leftOf, Cond.code yX12_leftOf cX12_leftOf 2 (some .int), Cond.methodLink RX12 577 yX12_isDoor, Cond.instanceMethod yX12_isDoor, Cond.selects RX12 yX12_isDoor yX12_isDoor, Cond.code yX12_isDoor cX12_isDoor 2 (some .boolean), Cond.methodLink RX12 547 yX12_armsIn, Cond.static yX12_armsIn]
def wsX12_first_r3 : List Cond := [Cond.code yX12_armsIn cX12_armsIn 1 (some .int), Cond.methodLink RX12 556 yX12_asksFor, Cond.instanceMethod yX12_asksFor, Cond.selects RX12 yX12_asksFor yX12_asksFor, Cond.code yX12_asksFor cX12_asksFor 8 (some .int), Cond.fieldLink RX12 240 "MatchTreesModel" "chosen" "[I", Cond.methodLink RX12 495 yX12_lowest, Cond.static yX12_lowest, Cond.code yX12_lowest cX12_lowest 2 (some .int), Cond.methodLink RX12 550 yX12_columnsIn, Cond.static yX12_columnsIn, Cond.code yX12_columnsIn cX12_columnsIn 1 (some .int), Cond.methodLink RX12 553 yX12_worthOf, Cond.instanceMethod yX12_worthOf, Cond.selects RX12 yX12_worthOf yX12_worthOf, Cond.code yX12_worthOf cX12_worthOf 7 (some .int), Cond.fieldLink RX12 249 "MatchTreesModel" "meeting" "I", Cond.fieldLink RX12 246 "MatchTreesModel" "metBy" "[I", Cond.methodLink RX12 544 yX12_bitsOf, Cond.static yX12_bitsOf, Cond.code yX12_bitsOf cX12_bitsOf 3 (some .int), Cond.methodLink RX12 565 yX12_throughDoor, Cond.static yX12_throughDoor, Cond.code yX12_throughDoor cX12_throughDoor 1 (some .int)]
def wsX12_first : List Cond := .code yX12_first cX12_first 4 (some .int) :: ((wsX12_first_r1 ++ (wsX12_first_r2 ++ wsX12_first_r3)) ++ wsX120)
def wsX12_scopes_r1 : List Cond := [Cond.fieldLink RX12 146 "MatchTreesModel" "isMatch" "Z", Cond.fieldLink RX12 279 "MatchTreesModel" "shutMany" "I", Cond.fieldLink RX12 273 "MatchTreesModel" "shut" "[I", Cond.fieldLink RX12 276 "MatchTreesModel" "scopeMany" "I", Cond.fieldLink RX12 282 "MatchTreesModel" "mostOpen" "I", Cond.fieldLink RX12 285 "MatchTreesModel" "isStopped" "Z", Cond.methodLink RX12 362 yX12_is, Cond.static yX12_is, Cond.initialized RX12, Cond.code yX12_is cX12_is 3 (some .boolean), Cond.methodLink RX12 581 yX12_plants, Cond.instanceMethod yX12_plants, Cond.selects RX12 yX12_plants yX12_plants, Cond.code yX12_plants cX12_plants 3 none, Cond.fieldLink RX12 243 "MatchTreesModel" "ruleNow" "I", Cond.methodLink RX12 501 yX12_arranges, Cond.instanceMethod yX12_arranges, Cond.selects RX12 yX12_arranges yX12_arranges, Cond.code yX12_arranges cX12_arranges 4 none, Cond.fieldLink RX12 173 "MatchTreesModel" "armsOf" "[I", Cond.fieldLink RX12 200 "MatchTreesModel" "places" "I", Cond.fieldLink RX12 212 "MatchTreesModel" "unguarded" "I", Cond.fieldLink RX12 209 "MatchTreesModel" "guardAt" "[I", Cond.fieldLink RX12 90 "MatchTreesModel" "armGuard" "[I"]
def wsX12_scopes_r2 : List Cond := [Cond.fieldLink RX12 51 "MatchTreesModel" "bank" "I", Cond.fieldLink RX12 176 "MatchTreesModel" "orderOf" "[I", Cond.fieldLink RX12 206 "MatchTreesModel" "fullIn" "[I", Cond.fieldLink RX12 164 "MatchTreesModel" "setMany" "[I", Cond.fieldLink RX12 203 "MatchTreesModel" "placeSet" "[I", Cond.fieldLink RX12 161 "MatchTreesModel" "toldSet" "[I", Cond.fieldLink RX12 236 "MatchTreesModel" "stamp" "I", Cond.methodLink RX12 459 yX12_columns, Cond.instanceMethod yX12_columns, Cond.selects RX12 yX12_columns yX12_columns, Cond.code yX12_columns cX12_columns 1 (some .int), Cond.fieldLink RX12 81 "MatchTreesModel" "columnMany" "[I", Cond.methodLink RX12 475 yX12_placed, Cond.instanceMethod yX12_placed, Cond.selects RX12 yX12_placed yX12_placed, Cond.code yX12_placed cX12_placed 5 (some .int), Cond.methodLink RX12 605 yX12_builds, Cond.instanceMethod yX12_builds, Cond.selects RX12 yX12_builds yX12_builds, Cond.code yX12_builds cX12_builds 3 none, Cond.fieldLink RX12 96 "MatchTreesModel" "budgetTold" "[I", Cond.fieldLink RX12 270 "MatchTreesModel" "openScope" "[I", Cond.methodLink RX12 562 yX12_root, Cond.instanceMethod yX12_root]
def wsX12_scopes_r3 : List Cond := [Cond.selects RX12 yX12_root yX12_root, Cond.code yX12_root cX12_root 1 (some .int), Cond.methodLink RX12 559 yX12_leftOf, Cond.static yX12_leftOf, Cond.code yX12_leftOf cX12_leftOf 2 (some .int), Cond.methodLink RX12 599 yX12_opensScope, Cond.instanceMethod yX12_opensScope, Cond.selects RX12 yX12_opensScope yX12_opensScope, Cond.code yX12_opensScope cX12_opensScope 3 none, Cond.fieldLink RX12 264 "MatchTreesModel" "openLeft" "[I", Cond.fieldLink RX12 267 "MatchTreesModel" "openNext" "[I", Cond.methodLink RX12 602 yX12_nextBranch, Cond.instanceMethod yX12_nextBranch, Cond.selects RX12 yX12_nextBranch yX12_nextBranch, Cond.code yX12_nextBranch cX12_nextBranch 5 (some .int), Cond.methodLink RX12 556 yX12_asksFor, Cond.instanceMethod yX12_asksFor, Cond.selects RX12 yX12_asksFor yX12_asksFor, Cond.code yX12_asksFor cX12_asksFor 8 (some .int), Cond.fieldLink RX12 240 "MatchTreesModel" "chosen" "[I", Cond.methodLink RX12 547 yX12_armsIn, Cond.static yX12_armsIn, Cond.code yX12_armsIn cX12_armsIn 1 (some .int), Cond.methodLink RX12 495 yX12_lowest]
def wsX12_scopes_r4 : List Cond := [Cond.static yX12_lowest, Cond.code yX12_lowest cX12_lowest 2 (some .int), Cond.methodLink RX12 550 yX12_columnsIn, Cond.static yX12_columnsIn, Cond.code yX12_columnsIn cX12_columnsIn 1 (some .int), Cond.methodLink RX12 553 yX12_worthOf, Cond.instanceMethod yX12_worthOf, Cond.selects RX12 yX12_worthOf yX12_worthOf, Cond.code yX12_worthOf cX12_worthOf 7 (some .int), Cond.fieldLink RX12 249 "MatchTreesModel" "meeting" "I", Cond.fieldLink RX12 246 "MatchTreesModel" "metBy" "[I", Cond.methodLink RX12 544 yX12_bitsOf, Cond.static yX12_bitsOf, Cond.code yX12_bitsOf cX12_bitsOf 3 (some .int), Cond.methodLink RX12 577 yX12_isDoor, Cond.instanceMethod yX12_isDoor, Cond.selects RX12 yX12_isDoor yX12_isDoor, Cond.code yX12_isDoor cX12_isDoor 2 (some .boolean), Cond.methodLink RX12 565 yX12_throughDoor, Cond.static yX12_throughDoor, Cond.code yX12_throughDoor cX12_throughDoor 1 (some .int), Cond.methodLink RX12 596 yX12_isNewSet, Cond.instanceMethod yX12_isNewSet, Cond.selects RX12 yX12_isNewSet yX12_isNewSet]
def wsX12_scopes_r5 : List Cond := [Cond.code yX12_isNewSet cX12_isNewSet 5 (some .boolean), Cond.methodLink RX12 568 yX12_branchOf, Cond.instanceMethod yX12_branchOf, Cond.selects RX12 yX12_branchOf yX12_branchOf, Cond.code yX12_branchOf cX12_branchOf 4 (some .int)]
def wsX12_scopes : List Cond := .code yX12_scopes cX12_scopes 4 (some .int) :: ((wsX12_scopes_r1 ++ (wsX12_scopes_r2 ++ (wsX12_scopes_r3 ++ (wsX12_scopes_r4 ++ wsX12_scopes_r5)))) ++ wsX120)
def wsX12_safe_r1 : List Cond := [Cond.methodLink RX12 498 yX12_isPlace, Cond.instanceMethod yX12_isPlace, Cond.selects RX12 yX12_isPlace yX12_isPlace, Cond.initialized RX12, Cond.code yX12_isPlace cX12_isPlace 2 (some .boolean), Cond.fieldLink RX12 146 "MatchTreesModel" "isMatch" "Z", Cond.fieldLink RX12 173 "MatchTreesModel" "armsOf" "[I", Cond.methodLink RX12 362 yX12_is, Cond.static yX12_is, Cond.code yX12_is cX12_is 3 (some .boolean), Cond.methodLink RX12 501 yX12_arranges, Cond.instanceMethod yX12_arranges, Cond.selects RX12 yX12_arranges yX12_arranges, Cond.code yX12_arranges cX12_arranges 4 none, Cond.fieldLink RX12 200 "MatchTreesModel" "places" "I", Cond.fieldLink RX12 212 "MatchTreesModel" "unguarded" "I", Cond.fieldLink RX12 209 "MatchTreesModel" "guardAt" "[I", Cond.fieldLink RX12 90 "MatchTreesModel" "armGuard" "[I", Cond.fieldLink RX12 51 "MatchTreesModel" "bank" "I", Cond.fieldLink RX12 176 "MatchTreesModel" "orderOf" "[I", Cond.fieldLink RX12 206 "MatchTreesModel" "fullIn" "[I", Cond.fieldLink RX12 164 "MatchTreesModel" "setMany" "[I", Cond.fieldLink RX12 203 "MatchTreesModel" "placeSet" "[I", Cond.fieldLink RX12 161 "MatchTreesModel" "toldSet" "[I"]
def wsX12_safe_r2 : List Cond := [Cond.fieldLink RX12 236 "MatchTreesModel" "stamp" "I", Cond.methodLink RX12 459 yX12_columns, Cond.instanceMethod yX12_columns, Cond.selects RX12 yX12_columns yX12_columns, Cond.code yX12_columns cX12_columns 1 (some .int), Cond.fieldLink RX12 81 "MatchTreesModel" "columnMany" "[I", Cond.methodLink RX12 475 yX12_placed, Cond.instanceMethod yX12_placed, Cond.selects RX12 yX12_placed yX12_placed, Cond.code yX12_placed cX12_placed 5 (some .int), Cond.methodLink RX12 504 yX12_countsRows, Cond.instanceMethod yX12_countsRows, Cond.selects RX12 yX12_countsRows yX12_countsRows, Cond.code yX12_countsRows cX12_countsRows 2 none, Cond.fieldLink RX12 218 "MatchTreesModel" "manyBy" "[I", Cond.fieldLink RX12 170 "MatchTreesModel" "rowMany" "I", Cond.methodLink RX12 484 yX12_fitting, Cond.instanceMethod yX12_fitting, Cond.selects RX12 yX12_fitting yX12_fitting, Cond.code yX12_fitting cX12_fitting 4 (some .int), Cond.fieldLink RX12 215 "MatchTreesModel" "valueAt" "[I", Cond.methodLink RX12 478 yX12_valuesIn, Cond.instanceMethod yX12_valuesIn, Cond.selects RX12 yX12_valuesIn yX12_valuesIn]
def wsX12_safe_r3 : List Cond := [Cond.code yX12_valuesIn cX12_valuesIn 4 none, Cond.methodLink RX12 463 yX12_columnValues, Cond.instanceMethod yX12_columnValues, Cond.selects RX12 yX12_columnValues yX12_columnValues, Cond.code yX12_columnValues cX12_columnValues 2 (some .int), Cond.fieldLink RX12 84 "MatchTreesModel" "columnKind" "[I", Cond.methodLink RX12 396 yX12_valuesOf, Cond.instanceMethod yX12_valuesOf, Cond.selects RX12 yX12_valuesOf yX12_valuesOf, Cond.code yX12_valuesOf cX12_valuesOf 3 (some .int), Cond.fieldLink RX12 57 "MatchTreesModel" "kindValues" "[I", Cond.methodLink RX12 481 yX12_setIn, Cond.instanceMethod yX12_setIn, Cond.selects RX12 yX12_setIn yX12_setIn, Cond.code yX12_setIn cX12_setIn 3 (some .int), Cond.fieldLink RX12 158 "MatchTreesModel" "setOf" "[I", Cond.methodLink RX12 614 yX12_isSafe, Cond.instanceMethod yX12_isSafe, Cond.selects RX12 yX12_isSafe yX12_isSafe, Cond.code yX12_isSafe cX12_isSafe 8 (some .boolean), Cond.methodLink RX12 492 yX12_openBy, Cond.instanceMethod yX12_openBy, Cond.selects RX12 yX12_openBy yX12_openBy, Cond.code yX12_openBy cX12_openBy 4 (some .int)]
def wsX12_safe_r4 : List Cond := [Cond.methodLink RX12 495 yX12_lowest, Cond.static yX12_lowest, Cond.code yX12_lowest cX12_lowest 2 (some .int), Cond.methodLink RX12 608 yX12_swapped, Cond.static yX12_swapped, Cond.code yX12_swapped cX12_swapped 3 (some .int), Cond.methodLink RX12 611 yX12_moved, Cond.static yX12_moved, Cond.code yX12_moved cX12_moved 3 (some .int)]
def wsX12_safe : List Cond := .code yX12_safe cX12_safe 3 (some .int) :: ((wsX12_safe_r1 ++ (wsX12_safe_r2 ++ (wsX12_safe_r3 ++ wsX12_safe_r4))) ++ wsX120)
def wsX12_best_r1 : List Cond := [Cond.fieldLink RX12 146 "MatchTreesModel" "isMatch" "Z", Cond.fieldLink RX12 173 "MatchTreesModel" "armsOf" "[I", Cond.fieldLink RX12 288 "MatchTreesModel" "isFair" "[I", Cond.fieldLink RX12 182 "MatchTreesModel" "ruleOf" "[I", Cond.methodLink RX12 362 yX12_is, Cond.static yX12_is, Cond.initialized RX12, Cond.code yX12_is cX12_is 3 (some .boolean), Cond.methodLink RX12 501 yX12_arranges, Cond.instanceMethod yX12_arranges, Cond.selects RX12 yX12_arranges yX12_arranges, Cond.code yX12_arranges cX12_arranges 4 none, Cond.fieldLink RX12 200 "MatchTreesModel" "places" "I", Cond.fieldLink RX12 212 "MatchTreesModel" "unguarded" "I", Cond.fieldLink RX12 209 "MatchTreesModel" "guardAt" "[I", Cond.fieldLink RX12 90 "MatchTreesModel" "armGuard" "[I", Cond.fieldLink RX12 51 "MatchTreesModel" "bank" "I", Cond.fieldLink RX12 176 "MatchTreesModel" "orderOf" "[I", Cond.fieldLink RX12 206 "MatchTreesModel" "fullIn" "[I", Cond.fieldLink RX12 164 "MatchTreesModel" "setMany" "[I", Cond.fieldLink RX12 203 "MatchTreesModel" "placeSet" "[I", Cond.fieldLink RX12 161 "MatchTreesModel" "toldSet" "[I", Cond.fieldLink RX12 236 "MatchTreesModel" "stamp" "I", Cond.methodLink RX12 459 yX12_columns]
def wsX12_best_r2 : List Cond := [Cond.instanceMethod yX12_columns, Cond.selects RX12 yX12_columns yX12_columns, Cond.code yX12_columns cX12_columns 1 (some .int), Cond.fieldLink RX12 81 "MatchTreesModel" "columnMany" "[I", Cond.methodLink RX12 475 yX12_placed, Cond.instanceMethod yX12_placed, Cond.selects RX12 yX12_placed yX12_placed, Cond.code yX12_placed cX12_placed 5 (some .int), Cond.methodLink RX12 504 yX12_countsRows, Cond.instanceMethod yX12_countsRows, Cond.selects RX12 yX12_countsRows yX12_countsRows, Cond.code yX12_countsRows cX12_countsRows 2 none, Cond.fieldLink RX12 218 "MatchTreesModel" "manyBy" "[I", Cond.fieldLink RX12 170 "MatchTreesModel" "rowMany" "I", Cond.methodLink RX12 484 yX12_fitting, Cond.instanceMethod yX12_fitting, Cond.selects RX12 yX12_fitting yX12_fitting, Cond.code yX12_fitting cX12_fitting 4 (some .int), Cond.fieldLink RX12 215 "MatchTreesModel" "valueAt" "[I", Cond.methodLink RX12 478 yX12_valuesIn, Cond.instanceMethod yX12_valuesIn, Cond.selects RX12 yX12_valuesIn yX12_valuesIn, Cond.code yX12_valuesIn cX12_valuesIn 4 none, Cond.methodLink RX12 463 yX12_columnValues]
def wsX12_best_r3 : List Cond := [Cond.instanceMethod yX12_columnValues, Cond.selects RX12 yX12_columnValues yX12_columnValues, Cond.code yX12_columnValues cX12_columnValues 2 (some .int), Cond.fieldLink RX12 84 "MatchTreesModel" "columnKind" "[I", Cond.methodLink RX12 396 yX12_valuesOf, Cond.instanceMethod yX12_valuesOf, Cond.selects RX12 yX12_valuesOf yX12_valuesOf, Cond.code yX12_valuesOf cX12_valuesOf 3 (some .int), Cond.fieldLink RX12 57 "MatchTreesModel" "kindValues" "[I", Cond.methodLink RX12 481 yX12_setIn, Cond.instanceMethod yX12_setIn, Cond.selects RX12 yX12_setIn yX12_setIn, Cond.code yX12_setIn cX12_setIn 3 (some .int), Cond.fieldLink RX12 158 "MatchTreesModel" "setOf" "[I", Cond.methodLink RX12 614 yX12_isSafe, Cond.instanceMethod yX12_isSafe, Cond.selects RX12 yX12_isSafe yX12_isSafe, Cond.code yX12_isSafe cX12_isSafe 8 (some .boolean), Cond.methodLink RX12 492 yX12_openBy, Cond.instanceMethod yX12_openBy, Cond.selects RX12 yX12_openBy yX12_openBy, Cond.code yX12_openBy cX12_openBy 4 (some .int), Cond.methodLink RX12 495 yX12_lowest, Cond.static yX12_lowest]
def wsX12_best_r4 : List Cond := [Cond.code yX12_lowest cX12_lowest 2 (some .int), Cond.methodLink RX12 608 yX12_swapped, Cond.static yX12_swapped, Cond.code yX12_swapped cX12_swapped 3 (some .int), Cond.methodLink RX12 611 yX12_moved, Cond.static yX12_moved, Cond.code yX12_moved cX12_moved 3 (some .int), Cond.methodLink RX12 581 yX12_plants, Cond.instanceMethod yX12_plants, Cond.selects RX12 yX12_plants yX12_plants, Cond.code yX12_plants cX12_plants 3 none, Cond.fieldLink RX12 243 "MatchTreesModel" "ruleNow" "I", Cond.methodLink RX12 584 yX12_allTests, Cond.instanceMethod yX12_allTests, Cond.selects RX12 yX12_allTests yX12_allTests, Cond.code yX12_allTests cX12_allTests 5 (some .int), Cond.fieldLink RX12 179 "MatchTreesModel" "guardsOf" "[I", Cond.methodLink RX12 571 yX12_testsFor, Cond.instanceMethod yX12_testsFor, Cond.selects RX12 yX12_testsFor yX12_testsFor, Cond.code yX12_testsFor cX12_testsFor 6 (some .int), Cond.methodLink RX12 562 yX12_root, Cond.instanceMethod yX12_root, Cond.selects RX12 yX12_root yX12_root]
def wsX12_best_r5 : List Cond := [Cond.code yX12_root cX12_root 1 (some .int), Cond.methodLink RX12 559 yX12_leftOf, Cond.static yX12_leftOf, Cond.code yX12_leftOf cX12_leftOf 2 (some .int), Cond.methodLink RX12 547 yX12_armsIn, Cond.static yX12_armsIn, Cond.code yX12_armsIn cX12_armsIn 1 (some .int), Cond.methodLink RX12 556 yX12_asksFor, Cond.instanceMethod yX12_asksFor, Cond.selects RX12 yX12_asksFor yX12_asksFor, Cond.code yX12_asksFor cX12_asksFor 8 (some .int), Cond.fieldLink RX12 240 "MatchTreesModel" "chosen" "[I", Cond.methodLink RX12 550 yX12_columnsIn, Cond.static yX12_columnsIn, Cond.code yX12_columnsIn cX12_columnsIn 1 (some .int), Cond.methodLink RX12 553 yX12_worthOf, Cond.instanceMethod yX12_worthOf, Cond.selects RX12 yX12_worthOf yX12_worthOf, Cond.code yX12_worthOf cX12_worthOf 7 (some .int), Cond.fieldLink RX12 249 "MatchTreesModel" "meeting" "I", Cond.fieldLink RX12 246 "MatchTreesModel" "metBy" "[I", Cond.methodLink RX12 544 yX12_bitsOf, Cond.static yX12_bitsOf, Cond.code yX12_bitsOf cX12_bitsOf 3 (some .int)]
def wsX12_best_r6 : List Cond := [Cond.methodLink RX12 565 yX12_throughDoor, Cond.static yX12_throughDoor, Cond.code yX12_throughDoor cX12_throughDoor 1 (some .int), Cond.methodLink RX12 568 yX12_branchOf, Cond.instanceMethod yX12_branchOf, Cond.selects RX12 yX12_branchOf yX12_branchOf, Cond.code yX12_branchOf cX12_branchOf 4 (some .int), Cond.methodLink RX12 472 yX12_copies, Cond.instanceMethod yX12_copies, Cond.selects RX12 yX12_copies yX12_copies, Cond.code yX12_copies cX12_copies 4 none, Cond.fieldLink RX12 185 "MatchTreesModel" "keptMany" "[I", Cond.fieldLink RX12 188 "MatchTreesModel" "keptRow" "[I", Cond.methodLink RX12 618 yX12_exchanges, Cond.instanceMethod yX12_exchanges, Cond.selects RX12 yX12_exchanges yX12_exchanges, Cond.code yX12_exchanges cX12_exchanges 5 none]
def wsX12_best : List Cond := .code yX12_best cX12_best 6 (some .int) :: ((wsX12_best_r1 ++ (wsX12_best_r2 ++ (wsX12_best_r3 ++ (wsX12_best_r4 ++ (wsX12_best_r5 ++ wsX12_best_r6))))) ++ wsX120)
def wsX12_see : List Cond := .code yX12_see cX12_see 4 (some .int) :: ([.fieldLink RX12 13 "MatchTreesModel" "taped" "I", .fieldLink RX12 146 "MatchTreesModel" "isMatch" "Z", .fieldLink RX12 7 "MatchTreesModel" "tape" "[I", .fieldLink RX12 170 "MatchTreesModel" "rowMany" "I", .fieldLink RX12 173 "MatchTreesModel" "armsOf" "[I", .fieldLink RX12 291 "MatchTreesModel" "seenMany" "I", .fieldLink RX12 294 "MatchTreesModel" "seenRow" "[I", .fieldLink RX12 297 "MatchTreesModel" "seenArm" "[I", .methodLink RX12 312 yX12_refuses, .instanceMethod yX12_refuses, .selects RX12 yX12_refuses yX12_refuses, .initialized RX12, .code yX12_refuses cX12_refuses 2 (some .int), .fieldLink RX12 149 "MatchTreesModel" "refused" "[I"] ++ wsX120)
def wsX12_sets_r1 : List Cond := [Cond.fieldLink RX12 146 "MatchTreesModel" "isMatch" "Z", Cond.fieldLink RX12 300 "MatchTreesModel" "isLeft" "[I", Cond.methodLink RX12 621 yX12_leaves, Cond.instanceMethod yX12_leaves, Cond.selects RX12 yX12_leaves yX12_leaves, Cond.initialized RX12, Cond.code yX12_leaves cX12_leaves 5 (some .int), Cond.fieldLink RX12 303 "MatchTreesModel" "openOf" "[I", Cond.fieldLink RX12 291 "MatchTreesModel" "seenMany" "I", Cond.fieldLink RX12 294 "MatchTreesModel" "seenRow" "[I", Cond.fieldLink RX12 297 "MatchTreesModel" "seenArm" "[I", Cond.methodLink RX12 501 yX12_arranges, Cond.instanceMethod yX12_arranges, Cond.selects RX12 yX12_arranges yX12_arranges, Cond.code yX12_arranges cX12_arranges 4 none, Cond.fieldLink RX12 173 "MatchTreesModel" "armsOf" "[I", Cond.fieldLink RX12 200 "MatchTreesModel" "places" "I", Cond.fieldLink RX12 212 "MatchTreesModel" "unguarded" "I", Cond.fieldLink RX12 209 "MatchTreesModel" "guardAt" "[I", Cond.fieldLink RX12 90 "MatchTreesModel" "armGuard" "[I", Cond.fieldLink RX12 51 "MatchTreesModel" "bank" "I", Cond.fieldLink RX12 176 "MatchTreesModel" "orderOf" "[I", Cond.fieldLink RX12 206 "MatchTreesModel" "fullIn" "[I", Cond.fieldLink RX12 164 "MatchTreesModel" "setMany" "[I"]
def wsX12_sets_r2 : List Cond := [Cond.fieldLink RX12 203 "MatchTreesModel" "placeSet" "[I", Cond.fieldLink RX12 161 "MatchTreesModel" "toldSet" "[I", Cond.fieldLink RX12 236 "MatchTreesModel" "stamp" "I", Cond.methodLink RX12 459 yX12_columns, Cond.instanceMethod yX12_columns, Cond.selects RX12 yX12_columns yX12_columns, Cond.code yX12_columns cX12_columns 1 (some .int), Cond.fieldLink RX12 81 "MatchTreesModel" "columnMany" "[I", Cond.methodLink RX12 475 yX12_placed, Cond.instanceMethod yX12_placed, Cond.selects RX12 yX12_placed yX12_placed, Cond.code yX12_placed cX12_placed 5 (some .int), Cond.methodLink RX12 492 yX12_openBy, Cond.instanceMethod yX12_openBy, Cond.selects RX12 yX12_openBy yX12_openBy, Cond.code yX12_openBy cX12_openBy 4 (some .int), Cond.methodLink RX12 484 yX12_fitting, Cond.instanceMethod yX12_fitting, Cond.selects RX12 yX12_fitting yX12_fitting, Cond.code yX12_fitting cX12_fitting 4 (some .int), Cond.fieldLink RX12 215 "MatchTreesModel" "valueAt" "[I", Cond.methodLink RX12 478 yX12_valuesIn, Cond.instanceMethod yX12_valuesIn, Cond.selects RX12 yX12_valuesIn yX12_valuesIn]
def wsX12_sets_r3 : List Cond := [Cond.code yX12_valuesIn cX12_valuesIn 4 none, Cond.methodLink RX12 463 yX12_columnValues, Cond.instanceMethod yX12_columnValues, Cond.selects RX12 yX12_columnValues yX12_columnValues, Cond.code yX12_columnValues cX12_columnValues 2 (some .int), Cond.fieldLink RX12 84 "MatchTreesModel" "columnKind" "[I", Cond.methodLink RX12 396 yX12_valuesOf, Cond.instanceMethod yX12_valuesOf, Cond.selects RX12 yX12_valuesOf yX12_valuesOf, Cond.code yX12_valuesOf cX12_valuesOf 3 (some .int), Cond.fieldLink RX12 57 "MatchTreesModel" "kindValues" "[I", Cond.methodLink RX12 481 yX12_setIn, Cond.instanceMethod yX12_setIn, Cond.selects RX12 yX12_setIn yX12_setIn, Cond.code yX12_setIn cX12_setIn 3 (some .int), Cond.fieldLink RX12 158 "MatchTreesModel" "setOf" "[I", Cond.methodLink RX12 495 yX12_lowest, Cond.static yX12_lowest, Cond.code yX12_lowest cX12_lowest 2 (some .int)]
def wsX12_sets : List Cond := .code yX12_sets cX12_sets 5 (some .int) :: ((wsX12_sets_r1 ++ (wsX12_sets_r2 ++ wsX12_sets_r3)) ++ wsX120)
def wsX12_tells_r1 : List Cond := [Cond.fieldLink RX12 146 "MatchTreesModel" "isMatch" "Z", Cond.constant RX12 624 (100000000), Cond.fieldLink RX12 170 "MatchTreesModel" "rowMany" "I", Cond.methodLink RX12 362 yX12_is, Cond.static yX12_is, Cond.initialized RX12, Cond.code yX12_is cX12_is 3 (some .boolean), Cond.methodLink RX12 621 yX12_leaves, Cond.instanceMethod yX12_leaves, Cond.selects RX12 yX12_leaves yX12_leaves, Cond.code yX12_leaves cX12_leaves 5 (some .int), Cond.fieldLink RX12 300 "MatchTreesModel" "isLeft" "[I", Cond.fieldLink RX12 303 "MatchTreesModel" "openOf" "[I", Cond.fieldLink RX12 291 "MatchTreesModel" "seenMany" "I", Cond.fieldLink RX12 294 "MatchTreesModel" "seenRow" "[I", Cond.fieldLink RX12 297 "MatchTreesModel" "seenArm" "[I", Cond.methodLink RX12 501 yX12_arranges, Cond.instanceMethod yX12_arranges, Cond.selects RX12 yX12_arranges yX12_arranges, Cond.code yX12_arranges cX12_arranges 4 none, Cond.fieldLink RX12 173 "MatchTreesModel" "armsOf" "[I", Cond.fieldLink RX12 200 "MatchTreesModel" "places" "I", Cond.fieldLink RX12 212 "MatchTreesModel" "unguarded" "I", Cond.fieldLink RX12 209 "MatchTreesModel" "guardAt" "[I"]
def wsX12_tells_r2 : List Cond := [Cond.fieldLink RX12 90 "MatchTreesModel" "armGuard" "[I", Cond.fieldLink RX12 51 "MatchTreesModel" "bank" "I", Cond.fieldLink RX12 176 "MatchTreesModel" "orderOf" "[I", Cond.fieldLink RX12 206 "MatchTreesModel" "fullIn" "[I", Cond.fieldLink RX12 164 "MatchTreesModel" "setMany" "[I", Cond.fieldLink RX12 203 "MatchTreesModel" "placeSet" "[I", Cond.fieldLink RX12 161 "MatchTreesModel" "toldSet" "[I", Cond.fieldLink RX12 236 "MatchTreesModel" "stamp" "I", Cond.methodLink RX12 459 yX12_columns, Cond.instanceMethod yX12_columns, Cond.selects RX12 yX12_columns yX12_columns, Cond.code yX12_columns cX12_columns 1 (some .int), Cond.fieldLink RX12 81 "MatchTreesModel" "columnMany" "[I", Cond.methodLink RX12 475 yX12_placed, Cond.instanceMethod yX12_placed, Cond.selects RX12 yX12_placed yX12_placed, Cond.code yX12_placed cX12_placed 5 (some .int), Cond.methodLink RX12 492 yX12_openBy, Cond.instanceMethod yX12_openBy, Cond.selects RX12 yX12_openBy yX12_openBy, Cond.code yX12_openBy cX12_openBy 4 (some .int), Cond.methodLink RX12 484 yX12_fitting, Cond.instanceMethod yX12_fitting, Cond.selects RX12 yX12_fitting yX12_fitting]
def wsX12_tells_r3 : List Cond := [Cond.code yX12_fitting cX12_fitting 4 (some .int), Cond.fieldLink RX12 215 "MatchTreesModel" "valueAt" "[I", Cond.methodLink RX12 478 yX12_valuesIn, Cond.instanceMethod yX12_valuesIn, Cond.selects RX12 yX12_valuesIn yX12_valuesIn, Cond.code yX12_valuesIn cX12_valuesIn 4 none, Cond.methodLink RX12 463 yX12_columnValues, Cond.instanceMethod yX12_columnValues, Cond.selects RX12 yX12_columnValues yX12_columnValues, Cond.code yX12_columnValues cX12_columnValues 2 (some .int), Cond.fieldLink RX12 84 "MatchTreesModel" "columnKind" "[I", Cond.methodLink RX12 396 yX12_valuesOf, Cond.instanceMethod yX12_valuesOf, Cond.selects RX12 yX12_valuesOf yX12_valuesOf, Cond.code yX12_valuesOf cX12_valuesOf 3 (some .int), Cond.fieldLink RX12 57 "MatchTreesModel" "kindValues" "[I", Cond.methodLink RX12 481 yX12_setIn, Cond.instanceMethod yX12_setIn, Cond.selects RX12 yX12_setIn yX12_setIn, Cond.code yX12_setIn cX12_setIn 3 (some .int), Cond.fieldLink RX12 158 "MatchTreesModel" "setOf" "[I", Cond.methodLink RX12 495 yX12_lowest, Cond.static yX12_lowest, Cond.code yX12_lowest cX12_lowest 2 (some .int)]
def wsX12_tells_r4 : List Cond := [Cond.methodLink RX12 625 yX12_mostBy, Cond.instanceMethod yX12_mostBy, Cond.selects RX12 yX12_mostBy yX12_mostBy, Cond.code yX12_mostBy cX12_mostBy 6 (some .int), Cond.fieldLink RX12 306 "MatchTreesModel" "manyArm" "[I"]
def wsX12_tells : List Cond := .code yX12_tells cX12_tells 7 (some .int) :: ((wsX12_tells_r1 ++ (wsX12_tells_r2 ++ (wsX12_tells_r3 ++ wsX12_tells_r4))) ++ wsX120)
def wsX12_run_r1 : List Cond := [Cond.methodLink RX12 516 yX12_isRow, Cond.instanceMethod yX12_isRow, Cond.selects RX12 yX12_isRow yX12_isRow, Cond.initialized RX12, Cond.code yX12_isRow cX12_isRow 2 (some .boolean), Cond.fieldLink RX12 146 "MatchTreesModel" "isMatch" "Z", Cond.fieldLink RX12 170 "MatchTreesModel" "rowMany" "I", Cond.methodLink RX12 362 yX12_is, Cond.static yX12_is, Cond.code yX12_is cX12_is 3 (some .boolean), Cond.methodLink RX12 312 yX12_refuses, Cond.instanceMethod yX12_refuses, Cond.selects RX12 yX12_refuses yX12_refuses, Cond.code yX12_refuses cX12_refuses 2 (some .int), Cond.fieldLink RX12 149 "MatchTreesModel" "refused" "[I", Cond.methodLink RX12 628 yX12_keeps, Cond.instanceMethod yX12_keeps, Cond.selects RX12 yX12_keeps yX12_keeps, Cond.code yX12_keeps cX12_keeps 1 none, Cond.fieldLink RX12 194 "MatchTreesModel" "undos" "I", Cond.fieldLink RX12 191 "MatchTreesModel" "undoFirst" "I", Cond.methodLink RX12 469 yX12_slot, Cond.instanceMethod yX12_slot, Cond.selects RX12 yX12_slot yX12_slot]
def wsX12_run_r2 : List Cond := [Cond.code yX12_slot cX12_slot 2 (some .int), Cond.methodLink RX12 472 yX12_copies, Cond.instanceMethod yX12_copies, Cond.selects RX12 yX12_copies yX12_copies, Cond.code yX12_copies cX12_copies 4 none, Cond.fieldLink RX12 173 "MatchTreesModel" "armsOf" "[I", Cond.fieldLink RX12 176 "MatchTreesModel" "orderOf" "[I", Cond.fieldLink RX12 179 "MatchTreesModel" "guardsOf" "[I", Cond.fieldLink RX12 182 "MatchTreesModel" "ruleOf" "[I", Cond.fieldLink RX12 185 "MatchTreesModel" "keptMany" "[I", Cond.fieldLink RX12 188 "MatchTreesModel" "keptRow" "[I", Cond.methodLink RX12 631 yX12_runs, Cond.instanceMethod yX12_runs, Cond.selects RX12 yX12_runs yX12_runs, Cond.code yX12_runs cX12_runs 6 (some .int), Cond.methodLink RX12 581 yX12_plants, Cond.instanceMethod yX12_plants, Cond.selects RX12 yX12_plants yX12_plants, Cond.code yX12_plants cX12_plants 3 none, Cond.fieldLink RX12 243 "MatchTreesModel" "ruleNow" "I", Cond.methodLink RX12 501 yX12_arranges, Cond.instanceMethod yX12_arranges, Cond.selects RX12 yX12_arranges yX12_arranges, Cond.code yX12_arranges cX12_arranges 4 none]
def wsX12_run_r3 : List Cond := [Cond.fieldLink RX12 200 "MatchTreesModel" "places" "I", Cond.fieldLink RX12 212 "MatchTreesModel" "unguarded" "I", Cond.fieldLink RX12 209 "MatchTreesModel" "guardAt" "[I", Cond.fieldLink RX12 90 "MatchTreesModel" "armGuard" "[I", Cond.fieldLink RX12 51 "MatchTreesModel" "bank" "I", Cond.fieldLink RX12 206 "MatchTreesModel" "fullIn" "[I", Cond.fieldLink RX12 164 "MatchTreesModel" "setMany" "[I", Cond.fieldLink RX12 203 "MatchTreesModel" "placeSet" "[I", Cond.fieldLink RX12 161 "MatchTreesModel" "toldSet" "[I", Cond.fieldLink RX12 236 "MatchTreesModel" "stamp" "I", Cond.methodLink RX12 459 yX12_columns, Cond.instanceMethod yX12_columns, Cond.selects RX12 yX12_columns yX12_columns, Cond.code yX12_columns cX12_columns 1 (some .int), Cond.fieldLink RX12 81 "MatchTreesModel" "columnMany" "[I", Cond.methodLink RX12 475 yX12_placed, Cond.instanceMethod yX12_placed, Cond.selects RX12 yX12_placed yX12_placed, Cond.code yX12_placed cX12_placed 5 (some .int), Cond.methodLink RX12 492 yX12_openBy, Cond.instanceMethod yX12_openBy, Cond.selects RX12 yX12_openBy yX12_openBy, Cond.code yX12_openBy cX12_openBy 4 (some .int), Cond.methodLink RX12 484 yX12_fitting]
def wsX12_run_r4 : List Cond := [Cond.instanceMethod yX12_fitting, Cond.selects RX12 yX12_fitting yX12_fitting, Cond.code yX12_fitting cX12_fitting 4 (some .int), Cond.fieldLink RX12 215 "MatchTreesModel" "valueAt" "[I", Cond.methodLink RX12 478 yX12_valuesIn, Cond.instanceMethod yX12_valuesIn, Cond.selects RX12 yX12_valuesIn yX12_valuesIn, Cond.code yX12_valuesIn cX12_valuesIn 4 none, Cond.methodLink RX12 463 yX12_columnValues, Cond.instanceMethod yX12_columnValues, Cond.selects RX12 yX12_columnValues yX12_columnValues, Cond.code yX12_columnValues cX12_columnValues 2 (some .int), Cond.fieldLink RX12 84 "MatchTreesModel" "columnKind" "[I", Cond.methodLink RX12 396 yX12_valuesOf, Cond.instanceMethod yX12_valuesOf, Cond.selects RX12 yX12_valuesOf yX12_valuesOf, Cond.code yX12_valuesOf cX12_valuesOf 3 (some .int), Cond.fieldLink RX12 57 "MatchTreesModel" "kindValues" "[I", Cond.methodLink RX12 481 yX12_setIn, Cond.instanceMethod yX12_setIn, Cond.selects RX12 yX12_setIn yX12_setIn, Cond.code yX12_setIn cX12_setIn 3 (some .int), Cond.fieldLink RX12 158 "MatchTreesModel" "setOf" "[I", Cond.methodLink RX12 495 yX12_lowest]
def wsX12_run_r5 : List Cond := [Cond.static yX12_lowest, Cond.code yX12_lowest cX12_lowest 2 (some .int), Cond.methodLink RX12 571 yX12_testsFor, Cond.instanceMethod yX12_testsFor, Cond.selects RX12 yX12_testsFor yX12_testsFor, Cond.code yX12_testsFor cX12_testsFor 6 (some .int), Cond.methodLink RX12 562 yX12_root, Cond.instanceMethod yX12_root, Cond.selects RX12 yX12_root yX12_root, Cond.code yX12_root cX12_root 1 (some .int), Cond.methodLink RX12 559 yX12_leftOf, Cond.static yX12_leftOf, Cond.code yX12_leftOf cX12_leftOf 2 (some .int), Cond.methodLink RX12 547 yX12_armsIn, Cond.static yX12_armsIn, Cond.code yX12_armsIn cX12_armsIn 1 (some .int), Cond.methodLink RX12 556 yX12_asksFor, Cond.instanceMethod yX12_asksFor, Cond.selects RX12 yX12_asksFor yX12_asksFor, Cond.code yX12_asksFor cX12_asksFor 8 (some .int), Cond.fieldLink RX12 240 "MatchTreesModel" "chosen" "[I", Cond.methodLink RX12 550 yX12_columnsIn, Cond.static yX12_columnsIn, Cond.code yX12_columnsIn cX12_columnsIn 1 (some .int)]
def wsX12_run_r6 : List Cond := [Cond.methodLink RX12 553 yX12_worthOf, Cond.instanceMethod yX12_worthOf, Cond.selects RX12 yX12_worthOf yX12_worthOf, Cond.code yX12_worthOf cX12_worthOf 7 (some .int), Cond.fieldLink RX12 249 "MatchTreesModel" "meeting" "I", Cond.fieldLink RX12 246 "MatchTreesModel" "metBy" "[I", Cond.methodLink RX12 544 yX12_bitsOf, Cond.static yX12_bitsOf, Cond.code yX12_bitsOf cX12_bitsOf 3 (some .int), Cond.methodLink RX12 565 yX12_throughDoor, Cond.static yX12_throughDoor, Cond.code yX12_throughDoor cX12_throughDoor 1 (some .int), Cond.methodLink RX12 568 yX12_branchOf, Cond.instanceMethod yX12_branchOf, Cond.selects RX12 yX12_branchOf yX12_branchOf, Cond.code yX12_branchOf cX12_branchOf 4 (some .int)]
def wsX12_run : List Cond := .code yX12_run cX12_run 2 (some .int) :: ((wsX12_run_r1 ++ (wsX12_run_r2 ++ (wsX12_run_r3 ++ (wsX12_run_r4 ++ (wsX12_run_r5 ++ wsX12_run_r6))))) ++ wsX120)
def wsX12_chance_r1 : List Cond := [Cond.fieldLink RX12 146 "MatchTreesModel" "isMatch" "Z", Cond.fieldLink RX12 170 "MatchTreesModel" "rowMany" "I", Cond.methodLink RX12 362 yX12_is, Cond.static yX12_is, Cond.initialized RX12, Cond.code yX12_is cX12_is 3 (some .boolean), Cond.methodLink RX12 312 yX12_refuses, Cond.instanceMethod yX12_refuses, Cond.selects RX12 yX12_refuses yX12_refuses, Cond.code yX12_refuses cX12_refuses 2 (some .int), Cond.fieldLink RX12 149 "MatchTreesModel" "refused" "[I", Cond.methodLink RX12 628 yX12_keeps, Cond.instanceMethod yX12_keeps, Cond.selects RX12 yX12_keeps yX12_keeps, Cond.code yX12_keeps cX12_keeps 1 none, Cond.fieldLink RX12 194 "MatchTreesModel" "undos" "I", Cond.fieldLink RX12 191 "MatchTreesModel" "undoFirst" "I", Cond.methodLink RX12 469 yX12_slot, Cond.instanceMethod yX12_slot, Cond.selects RX12 yX12_slot yX12_slot, Cond.code yX12_slot cX12_slot 2 (some .int), Cond.methodLink RX12 472 yX12_copies, Cond.instanceMethod yX12_copies, Cond.selects RX12 yX12_copies yX12_copies]
def wsX12_chance_r2 : List Cond := [Cond.code yX12_copies cX12_copies 4 none, Cond.fieldLink RX12 173 "MatchTreesModel" "armsOf" "[I", Cond.fieldLink RX12 176 "MatchTreesModel" "orderOf" "[I", Cond.fieldLink RX12 179 "MatchTreesModel" "guardsOf" "[I", Cond.fieldLink RX12 182 "MatchTreesModel" "ruleOf" "[I", Cond.fieldLink RX12 185 "MatchTreesModel" "keptMany" "[I", Cond.fieldLink RX12 188 "MatchTreesModel" "keptRow" "[I", Cond.methodLink RX12 642 yX12_draw, Cond.instanceMethod yX12_draw, Cond.selects RX12 yX12_draw yX12_draw, Cond.code yX12_draw cX12_draw 2 (some .int), Cond.constantLong RX12 634 (1103515245), Cond.fieldLink RX12 197 "MatchTreesModel" "seeds" "J", Cond.constantLong RX12 636 (12345), Cond.constantLong RX12 638 (2147483648), Cond.constantLong RX12 640 (64), Cond.methodLink RX12 631 yX12_runs, Cond.instanceMethod yX12_runs, Cond.selects RX12 yX12_runs yX12_runs, Cond.code yX12_runs cX12_runs 6 (some .int), Cond.methodLink RX12 581 yX12_plants, Cond.instanceMethod yX12_plants, Cond.selects RX12 yX12_plants yX12_plants, Cond.code yX12_plants cX12_plants 3 none]
def wsX12_chance_r3 : List Cond := [Cond.fieldLink RX12 243 "MatchTreesModel" "ruleNow" "I", Cond.methodLink RX12 501 yX12_arranges, Cond.instanceMethod yX12_arranges, Cond.selects RX12 yX12_arranges yX12_arranges, Cond.code yX12_arranges cX12_arranges 4 none, Cond.fieldLink RX12 200 "MatchTreesModel" "places" "I", Cond.fieldLink RX12 212 "MatchTreesModel" "unguarded" "I", Cond.fieldLink RX12 209 "MatchTreesModel" "guardAt" "[I", Cond.fieldLink RX12 90 "MatchTreesModel" "armGuard" "[I", Cond.fieldLink RX12 51 "MatchTreesModel" "bank" "I", Cond.fieldLink RX12 206 "MatchTreesModel" "fullIn" "[I", Cond.fieldLink RX12 164 "MatchTreesModel" "setMany" "[I", Cond.fieldLink RX12 203 "MatchTreesModel" "placeSet" "[I", Cond.fieldLink RX12 161 "MatchTreesModel" "toldSet" "[I", Cond.fieldLink RX12 236 "MatchTreesModel" "stamp" "I", Cond.methodLink RX12 459 yX12_columns, Cond.instanceMethod yX12_columns, Cond.selects RX12 yX12_columns yX12_columns, Cond.code yX12_columns cX12_columns 1 (some .int), Cond.fieldLink RX12 81 "MatchTreesModel" "columnMany" "[I", Cond.methodLink RX12 475 yX12_placed, Cond.instanceMethod yX12_placed, Cond.selects RX12 yX12_placed yX12_placed, Cond.code yX12_placed cX12_placed 5 (some .int)]
def wsX12_chance_r4 : List Cond := [Cond.methodLink RX12 492 yX12_openBy, Cond.instanceMethod yX12_openBy, Cond.selects RX12 yX12_openBy yX12_openBy, Cond.code yX12_openBy cX12_openBy 4 (some .int), Cond.methodLink RX12 484 yX12_fitting, Cond.instanceMethod yX12_fitting, Cond.selects RX12 yX12_fitting yX12_fitting, Cond.code yX12_fitting cX12_fitting 4 (some .int), Cond.fieldLink RX12 215 "MatchTreesModel" "valueAt" "[I", Cond.methodLink RX12 478 yX12_valuesIn, Cond.instanceMethod yX12_valuesIn, Cond.selects RX12 yX12_valuesIn yX12_valuesIn, Cond.code yX12_valuesIn cX12_valuesIn 4 none, Cond.methodLink RX12 463 yX12_columnValues, Cond.instanceMethod yX12_columnValues, Cond.selects RX12 yX12_columnValues yX12_columnValues, Cond.code yX12_columnValues cX12_columnValues 2 (some .int), Cond.fieldLink RX12 84 "MatchTreesModel" "columnKind" "[I", Cond.methodLink RX12 396 yX12_valuesOf, Cond.instanceMethod yX12_valuesOf, Cond.selects RX12 yX12_valuesOf yX12_valuesOf, Cond.code yX12_valuesOf cX12_valuesOf 3 (some .int), Cond.fieldLink RX12 57 "MatchTreesModel" "kindValues" "[I", Cond.methodLink RX12 481 yX12_setIn]
def wsX12_chance_r5 : List Cond := [Cond.instanceMethod yX12_setIn, Cond.selects RX12 yX12_setIn yX12_setIn, Cond.code yX12_setIn cX12_setIn 3 (some .int), Cond.fieldLink RX12 158 "MatchTreesModel" "setOf" "[I", Cond.methodLink RX12 495 yX12_lowest, Cond.static yX12_lowest, Cond.code yX12_lowest cX12_lowest 2 (some .int), Cond.methodLink RX12 571 yX12_testsFor, Cond.instanceMethod yX12_testsFor, Cond.selects RX12 yX12_testsFor yX12_testsFor, Cond.code yX12_testsFor cX12_testsFor 6 (some .int), Cond.methodLink RX12 562 yX12_root, Cond.instanceMethod yX12_root, Cond.selects RX12 yX12_root yX12_root, Cond.code yX12_root cX12_root 1 (some .int), Cond.methodLink RX12 559 yX12_leftOf, Cond.static yX12_leftOf, Cond.code yX12_leftOf cX12_leftOf 2 (some .int), Cond.methodLink RX12 547 yX12_armsIn, Cond.static yX12_armsIn, Cond.code yX12_armsIn cX12_armsIn 1 (some .int), Cond.methodLink RX12 556 yX12_asksFor, Cond.instanceMethod yX12_asksFor, Cond.selects RX12 yX12_asksFor yX12_asksFor]
def wsX12_chance_r6 : List Cond := [Cond.code yX12_asksFor cX12_asksFor 8 (some .int), Cond.fieldLink RX12 240 "MatchTreesModel" "chosen" "[I", Cond.methodLink RX12 550 yX12_columnsIn, Cond.static yX12_columnsIn, Cond.code yX12_columnsIn cX12_columnsIn 1 (some .int), Cond.methodLink RX12 553 yX12_worthOf, Cond.instanceMethod yX12_worthOf, Cond.selects RX12 yX12_worthOf yX12_worthOf, Cond.code yX12_worthOf cX12_worthOf 7 (some .int), Cond.fieldLink RX12 249 "MatchTreesModel" "meeting" "I", Cond.fieldLink RX12 246 "MatchTreesModel" "metBy" "[I", Cond.methodLink RX12 544 yX12_bitsOf, Cond.static yX12_bitsOf, Cond.code yX12_bitsOf cX12_bitsOf 3 (some .int), Cond.methodLink RX12 565 yX12_throughDoor, Cond.static yX12_throughDoor, Cond.code yX12_throughDoor cX12_throughDoor 1 (some .int), Cond.methodLink RX12 568 yX12_branchOf, Cond.instanceMethod yX12_branchOf, Cond.selects RX12 yX12_branchOf yX12_branchOf, Cond.code yX12_branchOf cX12_branchOf 4 (some .int)]
def wsX12_chance : List Cond := .code yX12_chance cX12_chance 4 (some .int) :: ((wsX12_chance_r1 ++ (wsX12_chance_r2 ++ (wsX12_chance_r3 ++ (wsX12_chance_r4 ++ (wsX12_chance_r5 ++ wsX12_chance_r6))))) ++ wsX120)
def wsX12_swap_r1 : List Cond := [Cond.methodLink RX12 498 yX12_isPlace, Cond.instanceMethod yX12_isPlace, Cond.selects RX12 yX12_isPlace yX12_isPlace, Cond.initialized RX12, Cond.code yX12_isPlace cX12_isPlace 2 (some .boolean), Cond.fieldLink RX12 146 "MatchTreesModel" "isMatch" "Z", Cond.fieldLink RX12 173 "MatchTreesModel" "armsOf" "[I", Cond.methodLink RX12 362 yX12_is, Cond.static yX12_is, Cond.code yX12_is cX12_is 3 (some .boolean), Cond.methodLink RX12 312 yX12_refuses, Cond.instanceMethod yX12_refuses, Cond.selects RX12 yX12_refuses yX12_refuses, Cond.code yX12_refuses cX12_refuses 2 (some .int), Cond.fieldLink RX12 149 "MatchTreesModel" "refused" "[I", Cond.methodLink RX12 628 yX12_keeps, Cond.instanceMethod yX12_keeps, Cond.selects RX12 yX12_keeps yX12_keeps, Cond.code yX12_keeps cX12_keeps 1 none, Cond.fieldLink RX12 194 "MatchTreesModel" "undos" "I", Cond.fieldLink RX12 191 "MatchTreesModel" "undoFirst" "I", Cond.methodLink RX12 469 yX12_slot, Cond.instanceMethod yX12_slot, Cond.selects RX12 yX12_slot yX12_slot]
def wsX12_swap_r2 : List Cond := [Cond.code yX12_slot cX12_slot 2 (some .int), Cond.methodLink RX12 472 yX12_copies, Cond.instanceMethod yX12_copies, Cond.selects RX12 yX12_copies yX12_copies, Cond.code yX12_copies cX12_copies 4 none, Cond.fieldLink RX12 176 "MatchTreesModel" "orderOf" "[I", Cond.fieldLink RX12 179 "MatchTreesModel" "guardsOf" "[I", Cond.fieldLink RX12 182 "MatchTreesModel" "ruleOf" "[I", Cond.fieldLink RX12 185 "MatchTreesModel" "keptMany" "[I", Cond.fieldLink RX12 188 "MatchTreesModel" "keptRow" "[I", Cond.methodLink RX12 618 yX12_exchanges, Cond.instanceMethod yX12_exchanges, Cond.selects RX12 yX12_exchanges yX12_exchanges, Cond.code yX12_exchanges cX12_exchanges 5 none]
def wsX12_swap : List Cond := .code yX12_swap cX12_swap 3 (some .boolean) :: ((wsX12_swap_r1 ++ wsX12_swap_r2) ++ wsX120)
def wsX12_drop_r1 : List Cond := [Cond.fieldLink RX12 173 "MatchTreesModel" "armsOf" "[I", Cond.fieldLink RX12 176 "MatchTreesModel" "orderOf" "[I", Cond.methodLink RX12 498 yX12_isPlace, Cond.instanceMethod yX12_isPlace, Cond.selects RX12 yX12_isPlace yX12_isPlace, Cond.initialized RX12, Cond.code yX12_isPlace cX12_isPlace 2 (some .boolean), Cond.fieldLink RX12 146 "MatchTreesModel" "isMatch" "Z", Cond.methodLink RX12 362 yX12_is, Cond.static yX12_is, Cond.code yX12_is cX12_is 3 (some .boolean), Cond.methodLink RX12 312 yX12_refuses, Cond.instanceMethod yX12_refuses, Cond.selects RX12 yX12_refuses yX12_refuses, Cond.code yX12_refuses cX12_refuses 2 (some .int), Cond.fieldLink RX12 149 "MatchTreesModel" "refused" "[I", Cond.methodLink RX12 628 yX12_keeps, Cond.instanceMethod yX12_keeps, Cond.selects RX12 yX12_keeps yX12_keeps, Cond.code yX12_keeps cX12_keeps 1 none, Cond.fieldLink RX12 194 "MatchTreesModel" "undos" "I", Cond.fieldLink RX12 191 "MatchTreesModel" "undoFirst" "I", Cond.methodLink RX12 469 yX12_slot, Cond.instanceMethod yX12_slot]
def wsX12_drop_r2 : List Cond := [Cond.selects RX12 yX12_slot yX12_slot, Cond.code yX12_slot cX12_slot 2 (some .int), Cond.methodLink RX12 472 yX12_copies, Cond.instanceMethod yX12_copies, Cond.selects RX12 yX12_copies yX12_copies, Cond.code yX12_copies cX12_copies 4 none, Cond.fieldLink RX12 179 "MatchTreesModel" "guardsOf" "[I", Cond.fieldLink RX12 182 "MatchTreesModel" "ruleOf" "[I", Cond.fieldLink RX12 185 "MatchTreesModel" "keptMany" "[I", Cond.fieldLink RX12 188 "MatchTreesModel" "keptRow" "[I"]
def wsX12_drop : List Cond := .code yX12_drop cX12_drop 3 (some .boolean) :: ((wsX12_drop_r1 ++ wsX12_drop_r2) ++ wsX120)
def wsX12_turn_r1 : List Cond := [Cond.fieldLink RX12 146 "MatchTreesModel" "isMatch" "Z", Cond.fieldLink RX12 179 "MatchTreesModel" "guardsOf" "[I", Cond.methodLink RX12 362 yX12_is, Cond.static yX12_is, Cond.initialized RX12, Cond.code yX12_is cX12_is 3 (some .boolean), Cond.methodLink RX12 312 yX12_refuses, Cond.instanceMethod yX12_refuses, Cond.selects RX12 yX12_refuses yX12_refuses, Cond.code yX12_refuses cX12_refuses 2 (some .int), Cond.fieldLink RX12 149 "MatchTreesModel" "refused" "[I", Cond.methodLink RX12 628 yX12_keeps, Cond.instanceMethod yX12_keeps, Cond.selects RX12 yX12_keeps yX12_keeps, Cond.code yX12_keeps cX12_keeps 1 none, Cond.fieldLink RX12 194 "MatchTreesModel" "undos" "I", Cond.fieldLink RX12 191 "MatchTreesModel" "undoFirst" "I", Cond.methodLink RX12 469 yX12_slot, Cond.instanceMethod yX12_slot, Cond.selects RX12 yX12_slot yX12_slot, Cond.code yX12_slot cX12_slot 2 (some .int), Cond.methodLink RX12 472 yX12_copies, Cond.instanceMethod yX12_copies, Cond.selects RX12 yX12_copies yX12_copies]
def wsX12_turn_r2 : List Cond := [Cond.code yX12_copies cX12_copies 4 none, Cond.fieldLink RX12 173 "MatchTreesModel" "armsOf" "[I", Cond.fieldLink RX12 176 "MatchTreesModel" "orderOf" "[I", Cond.fieldLink RX12 182 "MatchTreesModel" "ruleOf" "[I", Cond.fieldLink RX12 185 "MatchTreesModel" "keptMany" "[I", Cond.fieldLink RX12 188 "MatchTreesModel" "keptRow" "[I"]
def wsX12_turn : List Cond := .code yX12_turn cX12_turn 2 (some .int) :: ((wsX12_turn_r1 ++ wsX12_turn_r2) ++ wsX120)
def wsX12_choose_r1 : List Cond := [Cond.fieldLink RX12 146 "MatchTreesModel" "isMatch" "Z", Cond.fieldLink RX12 182 "MatchTreesModel" "ruleOf" "[I", Cond.methodLink RX12 362 yX12_is, Cond.static yX12_is, Cond.initialized RX12, Cond.code yX12_is cX12_is 3 (some .boolean), Cond.methodLink RX12 312 yX12_refuses, Cond.instanceMethod yX12_refuses, Cond.selects RX12 yX12_refuses yX12_refuses, Cond.code yX12_refuses cX12_refuses 2 (some .int), Cond.fieldLink RX12 149 "MatchTreesModel" "refused" "[I", Cond.methodLink RX12 628 yX12_keeps, Cond.instanceMethod yX12_keeps, Cond.selects RX12 yX12_keeps yX12_keeps, Cond.code yX12_keeps cX12_keeps 1 none, Cond.fieldLink RX12 194 "MatchTreesModel" "undos" "I", Cond.fieldLink RX12 191 "MatchTreesModel" "undoFirst" "I", Cond.methodLink RX12 469 yX12_slot, Cond.instanceMethod yX12_slot, Cond.selects RX12 yX12_slot yX12_slot, Cond.code yX12_slot cX12_slot 2 (some .int), Cond.methodLink RX12 472 yX12_copies, Cond.instanceMethod yX12_copies, Cond.selects RX12 yX12_copies yX12_copies]
def wsX12_choose_r2 : List Cond := [Cond.code yX12_copies cX12_copies 4 none, Cond.fieldLink RX12 173 "MatchTreesModel" "armsOf" "[I", Cond.fieldLink RX12 176 "MatchTreesModel" "orderOf" "[I", Cond.fieldLink RX12 179 "MatchTreesModel" "guardsOf" "[I", Cond.fieldLink RX12 185 "MatchTreesModel" "keptMany" "[I", Cond.fieldLink RX12 188 "MatchTreesModel" "keptRow" "[I"]
def wsX12_choose : List Cond := .code yX12_choose cX12_choose 2 (some .boolean) :: ((wsX12_choose_r1 ++ wsX12_choose_r2) ++ wsX120)
def wsX12_seed : List Cond := .code yX12_seed cX12_seed 2 (some .boolean) :: ([.fieldLink RX12 197 "MatchTreesModel" "seeds" "J", .methodLink RX12 312 yX12_refuses, .instanceMethod yX12_refuses, .selects RX12 yX12_refuses yX12_refuses, .initialized RX12, .code yX12_refuses cX12_refuses 2 (some .int), .fieldLink RX12 149 "MatchTreesModel" "refused" "[I"] ++ wsX120)
def wsX12_kept : List Cond := .code yX12_kept cX12_kept 3 (some .int) :: ([.fieldLink RX12 185 "MatchTreesModel" "keptMany" "[I", .fieldLink RX12 188 "MatchTreesModel" "keptRow" "[I", .methodLink RX12 362 yX12_is, .static yX12_is, .initialized RX12, .code yX12_is cX12_is 3 (some .boolean)] ++ wsX120)
def wsX12_image : List Cond := .code yX12_image cX12_image 3 (some .int) :: ([.fieldLink RX12 224 "MatchTreesModel" "outs" "I", .fieldLink RX12 173 "MatchTreesModel" "armsOf" "[I", .fieldLink RX12 176 "MatchTreesModel" "orderOf" "[I", .fieldLink RX12 179 "MatchTreesModel" "guardsOf" "[I", .fieldLink RX12 182 "MatchTreesModel" "ruleOf" "[I", .fieldLink RX12 221 "MatchTreesModel" "out" "[I", .methodLink RX12 528 yX12_writes, .instanceMethod yX12_writes, .selects RX12 yX12_writes yX12_writes, .initialized RX12, .code yX12_writes cX12_writes 2 none] ++ wsX120)
def wsX12_comesOn : List Cond := .code yX12_comesOn cX12_comesOn 6 (some .boolean) :: ([.fieldLink RX12 146 "MatchTreesModel" "isMatch" "Z", .fieldLink RX12 7 "MatchTreesModel" "tape" "[I", .fieldLink RX12 87 "MatchTreesModel" "armMany" "[I", .fieldLink RX12 51 "MatchTreesModel" "bank" "I", .fieldLink RX12 173 "MatchTreesModel" "armsOf" "[I", .fieldLink RX12 176 "MatchTreesModel" "orderOf" "[I", .fieldLink RX12 179 "MatchTreesModel" "guardsOf" "[I", .fieldLink RX12 182 "MatchTreesModel" "ruleOf" "[I", .fieldLink RX12 185 "MatchTreesModel" "keptMany" "[I", .methodLink RX12 472 yX12_copies, .instanceMethod yX12_copies, .selects RX12 yX12_copies yX12_copies, .initialized RX12, .code yX12_copies cX12_copies 4 none, .fieldLink RX12 188 "MatchTreesModel" "keptRow" "[I"] ++ wsX120)
def wsX12_on_r1 : List Cond := [Cond.fieldLink RX12 13 "MatchTreesModel" "taped" "I", Cond.fieldLink RX12 194 "MatchTreesModel" "undos" "I", Cond.methodLink RX12 645 yX12_comesOn, Cond.instanceMethod yX12_comesOn, Cond.selects RX12 yX12_comesOn yX12_comesOn, Cond.initialized RX12, Cond.code yX12_comesOn cX12_comesOn 6 (some .boolean), Cond.fieldLink RX12 146 "MatchTreesModel" "isMatch" "Z", Cond.fieldLink RX12 7 "MatchTreesModel" "tape" "[I", Cond.fieldLink RX12 87 "MatchTreesModel" "armMany" "[I", Cond.fieldLink RX12 51 "MatchTreesModel" "bank" "I", Cond.fieldLink RX12 173 "MatchTreesModel" "armsOf" "[I", Cond.fieldLink RX12 176 "MatchTreesModel" "orderOf" "[I", Cond.fieldLink RX12 179 "MatchTreesModel" "guardsOf" "[I", Cond.fieldLink RX12 182 "MatchTreesModel" "ruleOf" "[I", Cond.fieldLink RX12 185 "MatchTreesModel" "keptMany" "[I", Cond.methodLink RX12 472 yX12_copies, Cond.instanceMethod yX12_copies, Cond.selects RX12 yX12_copies yX12_copies, Cond.code yX12_copies cX12_copies 4 none, Cond.fieldLink RX12 188 "MatchTreesModel" "keptRow" "[I", Cond.methodLink RX12 312 yX12_refuses, Cond.instanceMethod yX12_refuses, Cond.selects RX12 yX12_refuses yX12_refuses]
def wsX12_on_r2 : List Cond := [Cond.code yX12_refuses cX12_refuses 2 (some .int), Cond.fieldLink RX12 149 "MatchTreesModel" "refused" "[I"]
def wsX12_on : List Cond := .code yX12_on cX12_on 2 (some .boolean) :: ((wsX12_on_r1 ++ wsX12_on_r2) ++ wsX120)
abbrev vwCl : List vw_C := [(RX0, TX0, 8), (RX1, TX1, 2), (RX2, TX2, 4), (RX3, TX3, 11), (RX4, TX4, 3), (RX5, TX5, 4), (RX6, TX6, 5), (RX7, TX7, 9), (RX8, TX8, 6), (RX9, TX9, 11), (RX10, TX10, 15), (RX11, TX11, 15), (RX12, TX12, 98)]
end
section
theorem dX0_init_0 : decode cX0_init 0 = .ok (.aload_n 0, 1) := by decide +kernel
theorem dX0_init_1 : decode cX0_init 1 = .ok (.invokespecial 3, 3) := by decide +kernel
theorem dX0_init_4 : decode cX0_init 4 = .ok (.aload_n 0, 1) := by decide +kernel
theorem dX0_init_5 : decode cX0_init 5 = .ok (.sipush 1024, 3) := by decide +kernel
theorem dX0_init_8 : decode cX0_init 8 = .ok (.newarray .int, 2) := by decide +kernel
theorem dX0_init_10 : decode cX0_init 10 = .ok (.putfield 9, 3) := by decide +kernel
theorem dX0_init_13 : decode cX0_init 13 = .ok (.aload_n 0, 1) := by decide +kernel
theorem dX0_init_14 : decode cX0_init 14 = .ok (.sipush 1024, 3) := by decide +kernel
theorem dX0_init_17 : decode cX0_init 17 = .ok (.newarray .int, 2) := by decide +kernel
theorem dX0_init_19 : decode cX0_init 19 = .ok (.putfield 15, 3) := by decide +kernel
theorem dX0_init_22 : decode cX0_init 22 = .ok (.aload_n 0, 1) := by decide +kernel
theorem dX0_init_23 : decode cX0_init 23 = .ok (.sipush 1024, 3) := by decide +kernel
theorem dX0_init_26 : decode cX0_init 26 = .ok (.newarray .int, 2) := by decide +kernel
theorem dX0_init_28 : decode cX0_init 28 = .ok (.putfield 18, 3) := by decide +kernel
theorem dX0_init_31 : decode cX0_init 31 = .ok (.aload_n 0, 1) := by decide +kernel
theorem dX0_init_32 : decode cX0_init 32 = .ok (.bipush 20, 2) := by decide +kernel
theorem dX0_init_34 : decode cX0_init 34 = .ok (.anewarray 21, 3) := by decide +kernel
theorem dX0_init_37 : decode cX0_init 37 = .ok (.putfield 23, 3) := by decide +kernel
theorem dX0_init_40 : decode cX0_init 40 = .ok (.aload_n 0, 1) := by decide +kernel
theorem dX0_init_41 : decode cX0_init 41 = .ok (.bipush 20, 2) := by decide +kernel
theorem dX0_init_43 : decode cX0_init 43 = .ok (.newarray .int, 2) := by decide +kernel
theorem dX0_init_45 : decode cX0_init 45 = .ok (.putfield 27, 3) := by decide +kernel
theorem dX0_init_48 : decode cX0_init 48 = .ok (.iconst 0, 1) := by decide +kernel
theorem dX0_init_49 : decode cX0_init 49 = .ok (.istore_n 1, 1) := by decide +kernel
theorem dX0_init_50 : decode cX0_init 50 = .ok (.iload_n 1, 1) := by decide +kernel
theorem dX0_init_51 : decode cX0_init 51 = .ok (.bipush 20, 2) := by decide +kernel
theorem dX0_init_53 : decode cX0_init 53 = .ok (.if_icmp .ge 22, 3) := by decide +kernel
theorem dX0_init_56 : decode cX0_init 56 = .ok (.aload_n 0, 1) := by decide +kernel
theorem dX0_init_57 : decode cX0_init 57 = .ok (.getfield 23, 3) := by decide +kernel
theorem dX0_init_60 : decode cX0_init 60 = .ok (.iload_n 1, 1) := by decide +kernel
theorem dX0_init_61 : decode cX0_init 61 = .ok (.new 21, 3) := by decide +kernel
theorem dX0_init_64 : decode cX0_init 64 = .ok (.dup, 1) := by decide +kernel
theorem dX0_init_65 : decode cX0_init 65 = .ok (.invokespecial 30, 3) := by decide +kernel
theorem dX0_init_68 : decode cX0_init 68 = .ok (.aastore, 1) := by decide +kernel
theorem dX0_init_69 : decode cX0_init 69 = .ok (.iinc 1 1, 3) := by decide +kernel
theorem dX0_init_72 : decode cX0_init 72 = .ok (.goto (-22), 3) := by decide +kernel
theorem dX0_init_75 : decode cX0_init 75 = .ok (.return_, 1) := by decide +kernel
theorem dX0_keptTold_0 : decode cX0_keptTold 0 = .ok (.aload_n 0, 1) := by decide +kernel
theorem dX0_keptTold_1 : decode cX0_keptTold 1 = .ok (.getfield 31, 3) := by decide +kernel
theorem dX0_keptTold_4 : decode cX0_keptTold 4 = .ok (.bipush 40, 2) := by decide +kernel
theorem dX0_keptTold_6 : decode cX0_keptTold 6 = .ok (.invokestatic 38, 3) := by decide +kernel
theorem dX0_keptTold_9 : decode cX0_keptTold 9 = .ok (.ireturn, 1) := by decide +kernel
theorem dX0_tellKept_0 : decode cX0_tellKept 0 = .ok (.iload_n 1, 1) := by decide +kernel
theorem dX0_tellKept_1 : decode cX0_tellKept 1 = .ok (.ifCond .lt 11, 3) := by decide +kernel
theorem dX0_tellKept_4 : decode cX0_tellKept 4 = .ok (.iload_n 1, 1) := by decide +kernel
theorem dX0_tellKept_5 : decode cX0_tellKept 5 = .ok (.aload_n 0, 1) := by decide +kernel
theorem dX0_tellKept_6 : decode cX0_tellKept 6 = .ok (.invokevirtual 47, 3) := by decide +kernel
theorem dX0_tellKept_9 : decode cX0_tellKept 9 = .ok (.if_icmp .lt 5, 3) := by decide +kernel
theorem dX0_tellKept_12 : decode cX0_tellKept 12 = .ok (.iconst (-1), 1) := by decide +kernel
theorem dX0_tellKept_13 : decode cX0_tellKept 13 = .ok (.ireturn, 1) := by decide +kernel
theorem dX1_init_0 : decode cX1_init 0 = .ok (.aload_n 0, 1) := by decide +kernel
theorem dX1_init_1 : decode cX1_init 1 = .ok (.invokespecial 3, 3) := by decide +kernel
theorem dX1_init_4 : decode cX1_init 4 = .ok (.aload_n 0, 1) := by decide +kernel
theorem dX1_init_5 : decode cX1_init 5 = .ok (.iload_n 1, 1) := by decide +kernel
theorem dX1_init_6 : decode cX1_init 6 = .ok (.iconst 0, 1) := by decide +kernel
theorem dX1_init_7 : decode cX1_init 7 = .ok (.invokestatic 9, 3) := by decide +kernel
theorem dX1_init_10 : decode cX1_init 10 = .ok (.newarray .int, 2) := by decide +kernel
theorem dX1_init_12 : decode cX1_init 12 = .ok (.putfield 15, 3) := by decide +kernel
theorem dX1_init_15 : decode cX1_init 15 = .ok (.return_, 1) := by decide +kernel
theorem dX1_add_0 : decode cX1_add 0 = .ok (.aload_n 0, 1) := by decide +kernel
theorem dX1_add_1 : decode cX1_add 1 = .ok (.getfield 21, 3) := by decide +kernel
theorem dX1_add_4 : decode cX1_add 4 = .ok (.ifCond .lt 39, 3) := by decide +kernel
theorem dX1_add_7 : decode cX1_add 7 = .ok (.aload_n 0, 1) := by decide +kernel
theorem dX1_add_8 : decode cX1_add 8 = .ok (.getfield 21, 3) := by decide +kernel
theorem dX1_add_11 : decode cX1_add 11 = .ok (.aload_n 0, 1) := by decide +kernel
theorem dX1_add_12 : decode cX1_add 12 = .ok (.getfield 15, 3) := by decide +kernel
theorem dX1_add_15 : decode cX1_add 15 = .ok (.arraylength, 1) := by decide +kernel
theorem dX1_add_16 : decode cX1_add 16 = .ok (.if_icmp .ge 27, 3) := by decide +kernel
theorem dX1_add_19 : decode cX1_add 19 = .ok (.aload_n 0, 1) := by decide +kernel
theorem dX1_add_20 : decode cX1_add 20 = .ok (.getfield 15, 3) := by decide +kernel
theorem dX1_add_23 : decode cX1_add 23 = .ok (.aload_n 0, 1) := by decide +kernel
theorem dX1_add_24 : decode cX1_add 24 = .ok (.getfield 21, 3) := by decide +kernel
theorem dX1_add_27 : decode cX1_add 27 = .ok (.iload_n 1, 1) := by decide +kernel
theorem dX1_add_28 : decode cX1_add 28 = .ok (.sipush 255, 3) := by decide +kernel
theorem dX1_add_31 : decode cX1_add 31 = .ok (.iand, 1) := by decide +kernel
theorem dX1_add_32 : decode cX1_add 32 = .ok (.iastore, 1) := by decide +kernel
theorem dX1_add_33 : decode cX1_add 33 = .ok (.aload_n 0, 1) := by decide +kernel
theorem dX1_add_34 : decode cX1_add 34 = .ok (.dup, 1) := by decide +kernel
theorem dX1_add_35 : decode cX1_add 35 = .ok (.getfield 21, 3) := by decide +kernel
theorem dX1_add_38 : decode cX1_add 38 = .ok (.iconst 1, 1) := by decide +kernel
theorem dX1_add_39 : decode cX1_add 39 = .ok (.iadd, 1) := by decide +kernel
theorem dX1_add_40 : decode cX1_add 40 = .ok (.putfield 21, 3) := by decide +kernel
theorem dX1_add_43 : decode cX1_add 43 = .ok (.return_, 1) := by decide +kernel
theorem dX1_addFour_0 : decode cX1_addFour 0 = .ok (.aload_n 0, 1) := by decide +kernel
theorem dX1_addFour_1 : decode cX1_addFour 1 = .ok (.iload_n 1, 1) := by decide +kernel
theorem dX1_addFour_2 : decode cX1_addFour 2 = .ok (.bipush 24, 2) := by decide +kernel
theorem dX1_addFour_4 : decode cX1_addFour 4 = .ok (.ishr, 1) := by decide +kernel
theorem dX1_addFour_5 : decode cX1_addFour 5 = .ok (.invokevirtual 25, 3) := by decide +kernel
theorem dX1_addFour_8 : decode cX1_addFour 8 = .ok (.aload_n 0, 1) := by decide +kernel
theorem dX1_addFour_9 : decode cX1_addFour 9 = .ok (.iload_n 1, 1) := by decide +kernel
theorem dX1_addFour_10 : decode cX1_addFour 10 = .ok (.bipush 16, 2) := by decide +kernel
theorem dX1_addFour_12 : decode cX1_addFour 12 = .ok (.ishr, 1) := by decide +kernel
theorem dX1_addFour_13 : decode cX1_addFour 13 = .ok (.invokevirtual 25, 3) := by decide +kernel
theorem dX1_addFour_16 : decode cX1_addFour 16 = .ok (.aload_n 0, 1) := by decide +kernel
theorem dX1_addFour_17 : decode cX1_addFour 17 = .ok (.iload_n 1, 1) := by decide +kernel
theorem dX1_addFour_18 : decode cX1_addFour 18 = .ok (.bipush 8, 2) := by decide +kernel
theorem dX1_addFour_20 : decode cX1_addFour 20 = .ok (.ishr, 1) := by decide +kernel
theorem dX1_addFour_21 : decode cX1_addFour 21 = .ok (.invokevirtual 25, 3) := by decide +kernel
theorem dX1_addFour_24 : decode cX1_addFour 24 = .ok (.aload_n 0, 1) := by decide +kernel
theorem dX1_addFour_25 : decode cX1_addFour 25 = .ok (.iload_n 1, 1) := by decide +kernel
theorem dX1_addFour_26 : decode cX1_addFour 26 = .ok (.invokevirtual 25, 3) := by decide +kernel
theorem dX1_addFour_29 : decode cX1_addFour 29 = .ok (.return_, 1) := by decide +kernel
theorem dX1_byteAt_0 : decode cX1_byteAt 0 = .ok (.iload_n 1, 1) := by decide +kernel
theorem dX1_byteAt_1 : decode cX1_byteAt 1 = .ok (.ifCond .lt 29, 3) := by decide +kernel
theorem dX1_byteAt_4 : decode cX1_byteAt 4 = .ok (.iload_n 1, 1) := by decide +kernel
theorem dX1_byteAt_5 : decode cX1_byteAt 5 = .ok (.aload_n 0, 1) := by decide +kernel
theorem dX1_byteAt_6 : decode cX1_byteAt 6 = .ok (.getfield 21, 3) := by decide +kernel
theorem dX1_byteAt_9 : decode cX1_byteAt 9 = .ok (.if_icmp .ge 21, 3) := by decide +kernel
theorem dX1_byteAt_30 : decode cX1_byteAt 30 = .ok (.iconst (-1), 1) := by decide +kernel
theorem dX1_byteAt_31 : decode cX1_byteAt 31 = .ok (.ireturn, 1) := by decide +kernel
theorem dX1_checkByte_0 : decode cX1_checkByte 0 = .ok (.sipush 199, 3) := by decide +kernel
theorem dX1_checkByte_3 : decode cX1_checkByte 3 = .ok (.istore_n 2, 1) := by decide +kernel
theorem dX1_checkByte_4 : decode cX1_checkByte 4 = .ok (.iconst 0, 1) := by decide +kernel
theorem dX1_checkByte_5 : decode cX1_checkByte 5 = .ok (.istore_n 3, 1) := by decide +kernel
theorem dX1_checkByte_6 : decode cX1_checkByte 6 = .ok (.iload_n 3, 1) := by decide +kernel
theorem dX1_checkByte_7 : decode cX1_checkByte 7 = .ok (.iload_n 1, 1) := by decide +kernel
theorem dX1_checkByte_8 : decode cX1_checkByte 8 = .ok (.if_icmp .ge 33, 3) := by decide +kernel
theorem dX1_checkByte_11 : decode cX1_checkByte 11 = .ok (.iload_n 3, 1) := by decide +kernel
theorem dX1_checkByte_12 : decode cX1_checkByte 12 = .ok (.aload_n 0, 1) := by decide +kernel
theorem dX1_checkByte_13 : decode cX1_checkByte 13 = .ok (.getfield 15, 3) := by decide +kernel
theorem dX1_checkByte_16 : decode cX1_checkByte 16 = .ok (.arraylength, 1) := by decide +kernel
theorem dX1_checkByte_17 : decode cX1_checkByte 17 = .ok (.if_icmp .ge 24, 3) := by decide +kernel
theorem dX1_checkByte_20 : decode cX1_checkByte 20 = .ok (.iconst 5, 1) := by decide +kernel
theorem dX1_checkByte_21 : decode cX1_checkByte 21 = .ok (.iload_n 2, 1) := by decide +kernel
theorem dX1_checkByte_22 : decode cX1_checkByte 22 = .ok (.imul, 1) := by decide +kernel
theorem dX1_checkByte_23 : decode cX1_checkByte 23 = .ok (.aload_n 0, 1) := by decide +kernel
theorem dX1_checkByte_24 : decode cX1_checkByte 24 = .ok (.getfield 15, 3) := by decide +kernel
theorem dX1_checkByte_27 : decode cX1_checkByte 27 = .ok (.iload_n 3, 1) := by decide +kernel
theorem dX1_checkByte_28 : decode cX1_checkByte 28 = .ok (.iaload, 1) := by decide +kernel
theorem dX1_checkByte_29 : decode cX1_checkByte 29 = .ok (.iadd, 1) := by decide +kernel
theorem dX1_checkByte_30 : decode cX1_checkByte 30 = .ok (.sipush 251, 3) := by decide +kernel
theorem dX1_checkByte_33 : decode cX1_checkByte 33 = .ok (.irem, 1) := by decide +kernel
theorem dX1_checkByte_34 : decode cX1_checkByte 34 = .ok (.istore_n 2, 1) := by decide +kernel
theorem dX1_checkByte_35 : decode cX1_checkByte 35 = .ok (.iinc 3 1, 3) := by decide +kernel
theorem dX1_checkByte_38 : decode cX1_checkByte 38 = .ok (.goto (-32), 3) := by decide +kernel
theorem dX1_checkByte_41 : decode cX1_checkByte 41 = .ok (.iload_n 2, 1) := by decide +kernel
theorem dX1_checkByte_42 : decode cX1_checkByte 42 = .ok (.ireturn, 1) := by decide +kernel
theorem dX2_init_0 : decode cX2_init 0 = .ok (.aload_n 0, 1) := by decide +kernel
theorem dX2_init_1 : decode cX2_init 1 = .ok (.invokespecial 3, 3) := by decide +kernel
theorem dX2_init_4 : decode cX2_init 4 = .ok (.aload_n 0, 1) := by decide +kernel
theorem dX2_init_5 : decode cX2_init 5 = .ok (.iload_n 1, 1) := by decide +kernel
theorem dX2_init_6 : decode cX2_init 6 = .ok (.iconst 0, 1) := by decide +kernel
theorem dX2_init_7 : decode cX2_init 7 = .ok (.invokestatic 9, 3) := by decide +kernel
theorem dX2_init_10 : decode cX2_init 10 = .ok (.newarray .int, 2) := by decide +kernel
theorem dX2_init_12 : decode cX2_init 12 = .ok (.putfield 15, 3) := by decide +kernel
theorem dX2_init_15 : decode cX2_init 15 = .ok (.aload_n 0, 1) := by decide +kernel
theorem dX2_init_16 : decode cX2_init 16 = .ok (.iload_n 1, 1) := by decide +kernel
theorem dX2_init_17 : decode cX2_init 17 = .ok (.iconst 0, 1) := by decide +kernel
theorem dX2_init_18 : decode cX2_init 18 = .ok (.invokestatic 9, 3) := by decide +kernel
theorem dX2_init_21 : decode cX2_init 21 = .ok (.newarray .int, 2) := by decide +kernel
theorem dX2_init_23 : decode cX2_init 23 = .ok (.putfield 21, 3) := by decide +kernel
theorem dX2_init_26 : decode cX2_init 26 = .ok (.aload_n 0, 1) := by decide +kernel
theorem dX2_init_27 : decode cX2_init 27 = .ok (.aload_n 2, 1) := by decide +kernel
theorem dX2_init_28 : decode cX2_init 28 = .ok (.putfield 24, 3) := by decide +kernel
theorem dX2_init_31 : decode cX2_init 31 = .ok (.return_, 1) := by decide +kernel
theorem dX3_init_0 : decode cX3_init 0 = .ok (.aload_n 0, 1) := by decide +kernel
theorem dX3_init_1 : decode cX3_init 1 = .ok (.invokespecial 3, 3) := by decide +kernel
theorem dX3_init_4 : decode cX3_init 4 = .ok (.aload_n 0, 1) := by decide +kernel
theorem dX3_init_5 : decode cX3_init 5 = .ok (.iconst 4, 1) := by decide +kernel
theorem dX3_init_6 : decode cX3_init 6 = .ok (.newarray .int, 2) := by decide +kernel
theorem dX3_init_8 : decode cX3_init 8 = .ok (.putfield 9, 3) := by decide +kernel
theorem dX3_init_11 : decode cX3_init 11 = .ok (.aload_n 0, 1) := by decide +kernel
theorem dX3_init_12 : decode cX3_init 12 = .ok (.iconst 4, 1) := by decide +kernel
theorem dX3_init_13 : decode cX3_init 13 = .ok (.newarray .int, 2) := by decide +kernel
theorem dX3_init_15 : decode cX3_init 15 = .ok (.putfield 15, 3) := by decide +kernel
theorem dX3_init_18 : decode cX3_init 18 = .ok (.aload_n 0, 1) := by decide +kernel
theorem dX3_init_19 : decode cX3_init 19 = .ok (.iconst 4, 1) := by decide +kernel
theorem dX3_init_20 : decode cX3_init 20 = .ok (.newarray .int, 2) := by decide +kernel
theorem dX3_init_22 : decode cX3_init 22 = .ok (.putfield 18, 3) := by decide +kernel
theorem dX3_init_25 : decode cX3_init 25 = .ok (.aload_n 0, 1) := by decide +kernel
theorem dX3_init_26 : decode cX3_init 26 = .ok (.iconst 4, 1) := by decide +kernel
theorem dX3_init_27 : decode cX3_init 27 = .ok (.newarray .int, 2) := by decide +kernel
theorem dX3_init_29 : decode cX3_init 29 = .ok (.putfield 21, 3) := by decide +kernel
theorem dX3_init_32 : decode cX3_init 32 = .ok (.aload_n 0, 1) := by decide +kernel
theorem dX3_init_33 : decode cX3_init 33 = .ok (.bipush 24, 2) := by decide +kernel
theorem dX3_init_35 : decode cX3_init 35 = .ok (.newarray .int, 2) := by decide +kernel
theorem dX3_init_37 : decode cX3_init 37 = .ok (.putfield 24, 3) := by decide +kernel
theorem dX3_init_40 : decode cX3_init 40 = .ok (.aload_n 0, 1) := by decide +kernel
theorem dX3_init_41 : decode cX3_init 41 = .ok (.bipush 24, 2) := by decide +kernel
theorem dX3_init_43 : decode cX3_init 43 = .ok (.newarray .int, 2) := by decide +kernel
theorem dX3_init_45 : decode cX3_init 45 = .ok (.putfield 27, 3) := by decide +kernel
theorem dX3_init_48 : decode cX3_init 48 = .ok (.aload_n 0, 1) := by decide +kernel
theorem dX3_init_49 : decode cX3_init 49 = .ok (.bipush 24, 2) := by decide +kernel
theorem dX3_init_51 : decode cX3_init 51 = .ok (.newarray .int, 2) := by decide +kernel
theorem dX3_init_53 : decode cX3_init 53 = .ok (.putfield 30, 3) := by decide +kernel
theorem dX3_init_56 : decode cX3_init 56 = .ok (.aload_n 0, 1) := by decide +kernel
theorem dX3_init_57 : decode cX3_init 57 = .ok (.bipush 24, 2) := by decide +kernel
theorem dX3_init_59 : decode cX3_init 59 = .ok (.newarray .int, 2) := by decide +kernel
theorem dX3_init_61 : decode cX3_init 61 = .ok (.putfield 33, 3) := by decide +kernel
theorem dX3_init_64 : decode cX3_init 64 = .ok (.aload_n 0, 1) := by decide +kernel
theorem dX3_init_65 : decode cX3_init 65 = .ok (.bipush 24, 2) := by decide +kernel
theorem dX3_init_67 : decode cX3_init 67 = .ok (.newarray .int, 2) := by decide +kernel
theorem dX3_init_69 : decode cX3_init 69 = .ok (.putfield 36, 3) := by decide +kernel
theorem dX3_init_72 : decode cX3_init 72 = .ok (.return_, 1) := by decide +kernel
theorem dX3_clear_0 : decode cX3_clear 0 = .ok (.aload_n 0, 1) := by decide +kernel
theorem dX3_clear_1 : decode cX3_clear 1 = .ok (.iconst 0, 1) := by decide +kernel
theorem dX3_clear_2 : decode cX3_clear 2 = .ok (.putfield 39, 3) := by decide +kernel
theorem dX3_clear_5 : decode cX3_clear 5 = .ok (.aload_n 0, 1) := by decide +kernel
theorem dX3_clear_6 : decode cX3_clear 6 = .ok (.iconst 0, 1) := by decide +kernel
theorem dX3_clear_7 : decode cX3_clear 7 = .ok (.putfield 43, 3) := by decide +kernel
theorem dX3_clear_10 : decode cX3_clear 10 = .ok (.return_, 1) := by decide +kernel
theorem dX3_isKind_0 : decode cX3_isKind 0 = .ok (.iload_n 1, 1) := by decide +kernel
theorem dX3_isKind_1 : decode cX3_isKind 1 = .ok (.ifCond .lt 15, 3) := by decide +kernel
theorem dX3_isKind_4 : decode cX3_isKind 4 = .ok (.iload_n 1, 1) := by decide +kernel
theorem dX3_isKind_5 : decode cX3_isKind 5 = .ok (.aload_n 0, 1) := by decide +kernel
theorem dX3_isKind_6 : decode cX3_isKind 6 = .ok (.getfield 39, 3) := by decide +kernel
theorem dX3_isKind_9 : decode cX3_isKind 9 = .ok (.if_icmp .ge 7, 3) := by decide +kernel
theorem dX3_isKind_16 : decode cX3_isKind 16 = .ok (.iconst 0, 1) := by decide +kernel
theorem dX3_isKind_17 : decode cX3_isKind 17 = .ok (.ireturn, 1) := by decide +kernel
theorem dX3_isCon_0 : decode cX3_isCon 0 = .ok (.iload_n 1, 1) := by decide +kernel
theorem dX3_isCon_1 : decode cX3_isCon 1 = .ok (.ifCond .lt 15, 3) := by decide +kernel
theorem dX3_isCon_4 : decode cX3_isCon 4 = .ok (.iload_n 1, 1) := by decide +kernel
theorem dX3_isCon_5 : decode cX3_isCon 5 = .ok (.aload_n 0, 1) := by decide +kernel
theorem dX3_isCon_6 : decode cX3_isCon 6 = .ok (.getfield 43, 3) := by decide +kernel
theorem dX3_isCon_9 : decode cX3_isCon 9 = .ok (.if_icmp .ge 7, 3) := by decide +kernel
theorem dX3_isCon_16 : decode cX3_isCon 16 = .ok (.iconst 0, 1) := by decide +kernel
theorem dX3_isCon_17 : decode cX3_isCon 17 = .ok (.ireturn, 1) := by decide +kernel
theorem dX4_init_0 : decode cX4_init 0 = .ok (.aload_n 0, 1) := by decide +kernel
theorem dX4_init_1 : decode cX4_init 1 = .ok (.invokespecial 3, 3) := by decide +kernel
theorem dX4_init_4 : decode cX4_init 4 = .ok (.aload_n 0, 1) := by decide +kernel
theorem dX4_init_5 : decode cX4_init 5 = .ok (.sipush 4096, 3) := by decide +kernel
theorem dX4_init_8 : decode cX4_init 8 = .ok (.newarray .int, 2) := by decide +kernel
theorem dX4_init_10 : decode cX4_init 10 = .ok (.putfield 9, 3) := by decide +kernel
theorem dX4_init_13 : decode cX4_init 13 = .ok (.aload_n 0, 1) := by decide +kernel
theorem dX4_init_14 : decode cX4_init 14 = .ok (.sipush 4096, 3) := by decide +kernel
theorem dX4_init_17 : decode cX4_init 17 = .ok (.newarray .int, 2) := by decide +kernel
theorem dX4_init_19 : decode cX4_init 19 = .ok (.putfield 15, 3) := by decide +kernel
theorem dX4_init_22 : decode cX4_init 22 = .ok (.return_, 1) := by decide +kernel
theorem dX5_init_0 : decode cX5_init 0 = .ok (.aload_n 0, 1) := by decide +kernel
theorem dX5_init_1 : decode cX5_init 1 = .ok (.invokespecial 3, 3) := by decide +kernel
theorem dX5_init_4 : decode cX5_init 4 = .ok (.aload_n 0, 1) := by decide +kernel
theorem dX5_init_5 : decode cX5_init 5 = .ok (.bipush 12, 2) := by decide +kernel
theorem dX5_init_7 : decode cX5_init 7 = .ok (.newarray .int, 2) := by decide +kernel
theorem dX5_init_9 : decode cX5_init 9 = .ok (.putfield 9, 3) := by decide +kernel
theorem dX5_init_12 : decode cX5_init 12 = .ok (.return_, 1) := by decide +kernel
theorem dX5_isPlace_0 : decode cX5_isPlace 0 = .ok (.iload_n 1, 1) := by decide +kernel
theorem dX5_isPlace_1 : decode cX5_isPlace 1 = .ok (.ifCond .lt 15, 3) := by decide +kernel
theorem dX5_isPlace_4 : decode cX5_isPlace 4 = .ok (.iload_n 1, 1) := by decide +kernel
theorem dX5_isPlace_5 : decode cX5_isPlace 5 = .ok (.aload_n 0, 1) := by decide +kernel
theorem dX5_isPlace_6 : decode cX5_isPlace 6 = .ok (.getfield 24, 3) := by decide +kernel
theorem dX5_isPlace_9 : decode cX5_isPlace 9 = .ok (.if_icmp .ge 7, 3) := by decide +kernel
theorem dX5_isPlace_16 : decode cX5_isPlace 16 = .ok (.iconst 0, 1) := by decide +kernel
theorem dX5_isPlace_17 : decode cX5_isPlace 17 = .ok (.ireturn, 1) := by decide +kernel
theorem dX5_armAt_0 : decode cX5_armAt 0 = .ok (.aload_n 0, 1) := by decide +kernel
theorem dX5_armAt_1 : decode cX5_armAt 1 = .ok (.iload_n 1, 1) := by decide +kernel
theorem dX5_armAt_2 : decode cX5_armAt 2 = .ok (.invokevirtual 34, 3) := by decide +kernel
theorem dX5_armAt_5 : decode cX5_armAt 5 = .ok (.ifCond .eq 12, 3) := by decide +kernel
theorem dX5_armAt_17 : decode cX5_armAt 17 = .ok (.iconst (-1), 1) := by decide +kernel
theorem dX5_armAt_18 : decode cX5_armAt 18 = .ok (.ireturn, 1) := by decide +kernel
theorem dX6_init_0 : decode cX6_init 0 = .ok (.aload_n 0, 1) := by decide +kernel
theorem dX6_init_1 : decode cX6_init 1 = .ok (.invokespecial 3, 3) := by decide +kernel
theorem dX6_init_4 : decode cX6_init 4 = .ok (.aload_n 0, 1) := by decide +kernel
theorem dX6_init_5 : decode cX6_init 5 = .ok (.new 9, 3) := by decide +kernel
theorem dX6_init_8 : decode cX6_init 8 = .ok (.dup, 1) := by decide +kernel
theorem dX6_init_9 : decode cX6_init 9 = .ok (.invokespecial 11, 3) := by decide +kernel
theorem dX6_init_12 : decode cX6_init 12 = .ok (.putfield 12, 3) := by decide +kernel
theorem dX6_init_15 : decode cX6_init 15 = .ok (.aload_n 0, 1) := by decide +kernel
theorem dX6_init_16 : decode cX6_init 16 = .ok (.bipush 10, 2) := by decide +kernel
theorem dX6_init_18 : decode cX6_init 18 = .ok (.sipush 2048, 3) := by decide +kernel
theorem dX6_init_21 : decode cX6_init 21 = .ok (.multianewarray 18 2, 4) := by decide +kernel
theorem dX6_init_25 : decode cX6_init 25 = .ok (.putfield 20, 3) := by decide +kernel
theorem dX6_init_28 : decode cX6_init 28 = .ok (.aload_n 0, 1) := by decide +kernel
theorem dX6_init_29 : decode cX6_init 29 = .ok (.iconst (-1), 1) := by decide +kernel
theorem dX6_init_30 : decode cX6_init 30 = .ok (.putfield 23, 3) := by decide +kernel
theorem dX6_init_33 : decode cX6_init 33 = .ok (.aload_n 0, 1) := by decide +kernel
theorem dX6_init_34 : decode cX6_init 34 = .ok (.aload_n 1, 1) := by decide +kernel
theorem dX6_init_35 : decode cX6_init 35 = .ok (.putfield 27, 3) := by decide +kernel
theorem dX6_init_38 : decode cX6_init 38 = .ok (.return_, 1) := by decide +kernel
theorem dX6_readMatch_0 : decode cX6_readMatch 0 = .ok (.aload_n 0, 1) := by decide +kernel
theorem dX6_readMatch_1 : decode cX6_readMatch 1 = .ok (.aload_n 2, 1) := by decide +kernel
theorem dX6_readMatch_2 : decode cX6_readMatch 2 = .ok (.putfield 27, 3) := by decide +kernel
theorem dX6_readMatch_5 : decode cX6_readMatch 5 = .ok (.aload_n 0, 1) := by decide +kernel
theorem dX6_readMatch_6 : decode cX6_readMatch 6 = .ok (.getfield 27, 3) := by decide +kernel
theorem dX6_readMatch_9 : decode cX6_readMatch 9 = .ok (.invokevirtual 31, 3) := by decide +kernel
theorem dX6_readMatch_12 : decode cX6_readMatch 12 = .ok (.aload_n 0, 1) := by decide +kernel
theorem dX6_readMatch_13 : decode cX6_readMatch 13 = .ok (.aload_n 1, 1) := by decide +kernel
theorem dX6_readMatch_14 : decode cX6_readMatch 14 = .ok (.invokevirtual 36, 3) := by decide +kernel
theorem dX6_readMatch_17 : decode cX6_readMatch 17 = .ok (.iconst 0, 1) := by decide +kernel
theorem dX6_readMatch_18 : decode cX6_readMatch 18 = .ok (.istore_n 3, 1) := by decide +kernel
theorem dX6_readMatch_19 : decode cX6_readMatch 19 = .ok (.aload_n 0, 1) := by decide +kernel
theorem dX6_readMatch_20 : decode cX6_readMatch 20 = .ok (.getfield 12, 3) := by decide +kernel
theorem dX6_readMatch_23 : decode cX6_readMatch 23 = .ok (.getfield 40, 3) := by decide +kernel
theorem dX6_readMatch_26 : decode cX6_readMatch 26 = .ok (.ifCond .eq 140, 3) := by decide +kernel
theorem dX6_readMatch_166 : decode cX6_readMatch 166 = .ok (.aload_n 0, 1) := by decide +kernel
theorem dX6_readMatch_167 : decode cX6_readMatch 167 = .ok (.getfield 12, 3) := by decide +kernel
theorem dX6_readMatch_170 : decode cX6_readMatch 170 = .ok (.getfield 40, 3) := by decide +kernel
theorem dX6_readMatch_173 : decode cX6_readMatch 173 = .ok (.ifCond .eq 19, 3) := by decide +kernel
theorem dX6_readMatch_192 : decode cX6_readMatch 192 = .ok (.aload_n 0, 1) := by decide +kernel
theorem dX6_readMatch_193 : decode cX6_readMatch 193 = .ok (.getfield 27, 3) := by decide +kernel
theorem dX6_readMatch_196 : decode cX6_readMatch 196 = .ok (.getfield 79, 3) := by decide +kernel
theorem dX6_readMatch_199 : decode cX6_readMatch 199 = .ok (.ifCond .ne 10, 3) := by decide +kernel
theorem dX6_readMatch_202 : decode cX6_readMatch 202 = .ok (.aload_n 0, 1) := by decide +kernel
theorem dX6_readMatch_203 : decode cX6_readMatch 203 = .ok (.invokevirtual 65, 3) := by decide +kernel
theorem dX6_readMatch_206 : decode cX6_readMatch 206 = .ok (.pop, 1) := by decide +kernel
theorem dX6_readMatch_207 : decode cX6_readMatch 207 = .ok (.iconst (-1), 1) := by decide +kernel
theorem dX6_readMatch_208 : decode cX6_readMatch 208 = .ok (.ireturn, 1) := by decide +kernel
theorem dX6_begin_0 : decode cX6_begin 0 = .ok (.aload_n 0, 1) := by decide +kernel
theorem dX6_begin_1 : decode cX6_begin 1 = .ok (.iconst 0, 1) := by decide +kernel
theorem dX6_begin_2 : decode cX6_begin 2 = .ok (.putfield 82, 3) := by decide +kernel
theorem dX6_begin_5 : decode cX6_begin 5 = .ok (.aload_n 0, 1) := by decide +kernel
theorem dX6_begin_6 : decode cX6_begin 6 = .ok (.iconst (-1), 1) := by decide +kernel
theorem dX6_begin_7 : decode cX6_begin 7 = .ok (.putfield 23, 3) := by decide +kernel
theorem dX6_begin_10 : decode cX6_begin 10 = .ok (.aload_n 0, 1) := by decide +kernel
theorem dX6_begin_11 : decode cX6_begin 11 = .ok (.getfield 12, 3) := by decide +kernel
theorem dX6_begin_14 : decode cX6_begin 14 = .ok (.aload_n 1, 1) := by decide +kernel
theorem dX6_begin_15 : decode cX6_begin 15 = .ok (.invokevirtual 85, 3) := by decide +kernel
theorem dX6_begin_18 : decode cX6_begin 18 = .ok (.return_, 1) := by decide +kernel
theorem dX6_fail_0 : decode cX6_fail 0 = .ok (.aload_n 0, 1) := by decide +kernel
theorem dX6_fail_1 : decode cX6_fail 1 = .ok (.iload_n 1, 1) := by decide +kernel
theorem dX6_fail_2 : decode cX6_fail 2 = .ok (.putfield 82, 3) := by decide +kernel
theorem dX6_fail_5 : decode cX6_fail 5 = .ok (.aload_n 0, 1) := by decide +kernel
theorem dX6_fail_6 : decode cX6_fail 6 = .ok (.iload_n 2, 1) := by decide +kernel
theorem dX6_fail_7 : decode cX6_fail 7 = .ok (.putfield 23, 3) := by decide +kernel
theorem dX6_fail_10 : decode cX6_fail 10 = .ok (.iconst 0, 1) := by decide +kernel
theorem dX6_fail_11 : decode cX6_fail 11 = .ok (.ireturn, 1) := by decide +kernel
theorem dX6_failHere_0 : decode cX6_failHere 0 = .ok (.aload_n 0, 1) := by decide +kernel
theorem dX6_failHere_1 : decode cX6_failHere 1 = .ok (.iconst 1, 1) := by decide +kernel
theorem dX6_failHere_2 : decode cX6_failHere 2 = .ok (.putfield 82, 3) := by decide +kernel
theorem dX6_failHere_5 : decode cX6_failHere 5 = .ok (.aload_n 0, 1) := by decide +kernel
theorem dX6_failHere_6 : decode cX6_failHere 6 = .ok (.aload_n 0, 1) := by decide +kernel
theorem dX6_failHere_7 : decode cX6_failHere 7 = .ok (.getfield 12, 3) := by decide +kernel
theorem dX6_failHere_10 : decode cX6_failHere 10 = .ok (.getfield 40, 3) := by decide +kernel
theorem dX6_failHere_13 : decode cX6_failHere 13 = .ok (.iconst 4, 1) := by decide +kernel
theorem dX6_failHere_14 : decode cX6_failHere 14 = .ok (.if_icmp .ne 13, 3) := by decide +kernel
theorem dX6_failHere_27 : decode cX6_failHere 27 = .ok (.aload_n 0, 1) := by decide +kernel
theorem dX6_failHere_28 : decode cX6_failHere 28 = .ok (.getfield 12, 3) := by decide +kernel
theorem dX6_failHere_31 : decode cX6_failHere 31 = .ok (.getfield 72, 3) := by decide +kernel
theorem dX6_failHere_34 : decode cX6_failHere 34 = .ok (.putfield 23, 3) := by decide +kernel
theorem dX6_failHere_37 : decode cX6_failHere 37 = .ok (.iconst 0, 1) := by decide +kernel
theorem dX6_failHere_38 : decode cX6_failHere 38 = .ok (.ireturn, 1) := by decide +kernel
theorem dX6_readRow_0 : decode cX6_readRow 0 = .ok (.aload_n 0, 1) := by decide +kernel
theorem dX6_readRow_1 : decode cX6_readRow 1 = .ok (.aload_n 2, 1) := by decide +kernel
theorem dX6_readRow_2 : decode cX6_readRow 2 = .ok (.putfield 27, 3) := by decide +kernel
theorem dX6_readRow_5 : decode cX6_readRow 5 = .ok (.aload_n 0, 1) := by decide +kernel
theorem dX6_readRow_6 : decode cX6_readRow 6 = .ok (.aload_n 1, 1) := by decide +kernel
theorem dX6_readRow_7 : decode cX6_readRow 7 = .ok (.invokevirtual 36, 3) := by decide +kernel
theorem dX6_readRow_10 : decode cX6_readRow 10 = .ok (.aload_n 0, 1) := by decide +kernel
theorem dX6_readRow_11 : decode cX6_readRow 11 = .ok (.getfield 27, 3) := by decide +kernel
theorem dX6_readRow_14 : decode cX6_readRow 14 = .ok (.getfield 79, 3) := by decide +kernel
theorem dX6_readRow_17 : decode cX6_readRow 17 = .ok (.ifCond .ne 12, 3) := by decide +kernel
theorem dX6_readRow_20 : decode cX6_readRow 20 = .ok (.aload_n 0, 1) := by decide +kernel
theorem dX6_readRow_21 : decode cX6_readRow 21 = .ok (.iconst 1, 1) := by decide +kernel
theorem dX6_readRow_22 : decode cX6_readRow 22 = .ok (.iconst 0, 1) := by decide +kernel
theorem dX6_readRow_23 : decode cX6_readRow 23 = .ok (.invokevirtual 75, 3) := by decide +kernel
theorem dX6_readRow_26 : decode cX6_readRow 26 = .ok (.pop, 1) := by decide +kernel
theorem dX6_readRow_27 : decode cX6_readRow 27 = .ok (.iconst (-1), 1) := by decide +kernel
theorem dX6_readRow_28 : decode cX6_readRow 28 = .ok (.ireturn, 1) := by decide +kernel
theorem dX7_init_0 : decode cX7_init 0 = .ok (.aload_n 0, 1) := by decide +kernel
theorem dX7_init_1 : decode cX7_init 1 = .ok (.invokespecial 3, 3) := by decide +kernel
theorem dX7_init_4 : decode cX7_init 4 = .ok (.aload_n 0, 1) := by decide +kernel
theorem dX7_init_5 : decode cX7_init 5 = .ok (.bipush 11, 2) := by decide +kernel
theorem dX7_init_7 : decode cX7_init 7 = .ok (.newarray .int, 2) := by decide +kernel
theorem dX7_init_9 : decode cX7_init 9 = .ok (.dup, 1) := by decide +kernel
theorem dX7_init_10 : decode cX7_init 10 = .ok (.iconst 0, 1) := by decide +kernel
theorem dX7_init_11 : decode cX7_init 11 = .ok (.ldc 9, 2) := by decide +kernel
theorem dX7_init_13 : decode cX7_init 13 = .ok (.invokestatic 11, 3) := by decide +kernel
theorem dX7_init_16 : decode cX7_init 16 = .ok (.iastore, 1) := by decide +kernel
theorem dX7_init_17 : decode cX7_init 17 = .ok (.dup, 1) := by decide +kernel
theorem dX7_init_18 : decode cX7_init 18 = .ok (.iconst 1, 1) := by decide +kernel
theorem dX7_init_19 : decode cX7_init 19 = .ok (.ldc 17, 2) := by decide +kernel
theorem dX7_init_21 : decode cX7_init 21 = .ok (.invokestatic 11, 3) := by decide +kernel
theorem dX7_init_24 : decode cX7_init 24 = .ok (.iastore, 1) := by decide +kernel
theorem dX7_init_25 : decode cX7_init 25 = .ok (.dup, 1) := by decide +kernel
theorem dX7_init_26 : decode cX7_init 26 = .ok (.iconst 2, 1) := by decide +kernel
theorem dX7_init_27 : decode cX7_init 27 = .ok (.ldc 19, 2) := by decide +kernel
theorem dX7_init_29 : decode cX7_init 29 = .ok (.invokestatic 11, 3) := by decide +kernel
theorem dX7_init_32 : decode cX7_init 32 = .ok (.iastore, 1) := by decide +kernel
theorem dX7_init_33 : decode cX7_init 33 = .ok (.dup, 1) := by decide +kernel
theorem dX7_init_34 : decode cX7_init 34 = .ok (.iconst 3, 1) := by decide +kernel
theorem dX7_init_35 : decode cX7_init 35 = .ok (.ldc 21, 2) := by decide +kernel
theorem dX7_init_37 : decode cX7_init 37 = .ok (.invokestatic 11, 3) := by decide +kernel
theorem dX7_init_40 : decode cX7_init 40 = .ok (.iastore, 1) := by decide +kernel
theorem dX7_init_41 : decode cX7_init 41 = .ok (.dup, 1) := by decide +kernel
theorem dX7_init_42 : decode cX7_init 42 = .ok (.iconst 4, 1) := by decide +kernel
theorem dX7_init_43 : decode cX7_init 43 = .ok (.ldc 23, 2) := by decide +kernel
theorem dX7_init_45 : decode cX7_init 45 = .ok (.invokestatic 11, 3) := by decide +kernel
theorem dX7_init_48 : decode cX7_init 48 = .ok (.iastore, 1) := by decide +kernel
theorem dX7_init_49 : decode cX7_init 49 = .ok (.dup, 1) := by decide +kernel
theorem dX7_init_50 : decode cX7_init 50 = .ok (.iconst 5, 1) := by decide +kernel
theorem dX7_init_51 : decode cX7_init 51 = .ok (.ldc 25, 2) := by decide +kernel
theorem dX7_init_53 : decode cX7_init 53 = .ok (.invokestatic 11, 3) := by decide +kernel
theorem dX7_init_56 : decode cX7_init 56 = .ok (.iastore, 1) := by decide +kernel
theorem dX7_init_57 : decode cX7_init 57 = .ok (.dup, 1) := by decide +kernel
theorem dX7_init_58 : decode cX7_init 58 = .ok (.bipush 6, 2) := by decide +kernel
theorem dX7_init_60 : decode cX7_init 60 = .ok (.ldc 27, 2) := by decide +kernel
theorem dX7_init_62 : decode cX7_init 62 = .ok (.invokestatic 11, 3) := by decide +kernel
theorem dX7_init_65 : decode cX7_init 65 = .ok (.iastore, 1) := by decide +kernel
theorem dX7_init_66 : decode cX7_init 66 = .ok (.dup, 1) := by decide +kernel
theorem dX7_init_67 : decode cX7_init 67 = .ok (.bipush 7, 2) := by decide +kernel
theorem dX7_init_69 : decode cX7_init 69 = .ok (.ldc 29, 2) := by decide +kernel
theorem dX7_init_71 : decode cX7_init 71 = .ok (.invokestatic 11, 3) := by decide +kernel
theorem dX7_init_74 : decode cX7_init 74 = .ok (.iastore, 1) := by decide +kernel
theorem dX7_init_75 : decode cX7_init 75 = .ok (.dup, 1) := by decide +kernel
theorem dX7_init_76 : decode cX7_init 76 = .ok (.bipush 8, 2) := by decide +kernel
theorem dX7_init_78 : decode cX7_init 78 = .ok (.ldc 31, 2) := by decide +kernel
theorem dX7_init_80 : decode cX7_init 80 = .ok (.invokestatic 11, 3) := by decide +kernel
theorem dX7_init_83 : decode cX7_init 83 = .ok (.iastore, 1) := by decide +kernel
theorem dX7_init_84 : decode cX7_init 84 = .ok (.dup, 1) := by decide +kernel
theorem dX7_init_85 : decode cX7_init 85 = .ok (.bipush 9, 2) := by decide +kernel
theorem dX7_init_87 : decode cX7_init 87 = .ok (.ldc 33, 2) := by decide +kernel
theorem dX7_init_89 : decode cX7_init 89 = .ok (.invokestatic 11, 3) := by decide +kernel
theorem dX7_init_92 : decode cX7_init 92 = .ok (.iastore, 1) := by decide +kernel
theorem dX7_init_93 : decode cX7_init 93 = .ok (.dup, 1) := by decide +kernel
theorem dX7_init_94 : decode cX7_init 94 = .ok (.bipush 10, 2) := by decide +kernel
theorem dX7_init_96 : decode cX7_init 96 = .ok (.ldc 35, 2) := by decide +kernel
theorem dX7_init_98 : decode cX7_init 98 = .ok (.invokestatic 11, 3) := by decide +kernel
theorem dX7_init_101 : decode cX7_init 101 = .ok (.iastore, 1) := by decide +kernel
theorem dX7_init_102 : decode cX7_init 102 = .ok (.putfield 37, 3) := by decide +kernel
theorem dX7_init_105 : decode cX7_init 105 = .ok (.aload_n 0, 1) := by decide +kernel
theorem dX7_init_106 : decode cX7_init 106 = .ok (.iconst 0, 1) := by decide +kernel
theorem dX7_init_107 : decode cX7_init 107 = .ok (.newarray .int, 2) := by decide +kernel
theorem dX7_init_109 : decode cX7_init 109 = .ok (.putfield 41, 3) := by decide +kernel
theorem dX7_init_112 : decode cX7_init 112 = .ok (.return_, 1) := by decide +kernel
theorem dX7_spell_0 : decode cX7_spell 0 = .ok (.iconst 0, 1) := by decide +kernel
theorem dX7_spell_1 : decode cX7_spell 1 = .ok (.istore_n 1, 1) := by decide +kernel
theorem dX7_spell_2 : decode cX7_spell 2 = .ok (.iconst 0, 1) := by decide +kernel
theorem dX7_spell_3 : decode cX7_spell 3 = .ok (.istore_n 2, 1) := by decide +kernel
theorem dX7_spell_4 : decode cX7_spell 4 = .ok (.iload_n 2, 1) := by decide +kernel
theorem dX7_spell_5 : decode cX7_spell 5 = .ok (.bipush 6, 2) := by decide +kernel
theorem dX7_spell_7 : decode cX7_spell 7 = .ok (.if_icmp .ge 37, 3) := by decide +kernel
end
section
theorem dX7_spell_10 : decode cX7_spell 10 = .ok (.iload_n 1, 1) := by decide +kernel
theorem dX7_spell_11 : decode cX7_spell 11 = .ok (.bipush 27, 2) := by decide +kernel
theorem dX7_spell_13 : decode cX7_spell 13 = .ok (.imul, 1) := by decide +kernel
theorem dX7_spell_14 : decode cX7_spell 14 = .ok (.iload_n 2, 1) := by decide +kernel
theorem dX7_spell_15 : decode cX7_spell 15 = .ok (.aload_n 0, 1) := by decide +kernel
theorem dX7_spell_16 : decode cX7_spell 16 = .ok (.invokevirtual 44, 3) := by decide +kernel
theorem dX7_spell_19 : decode cX7_spell 19 = .ok (.if_icmp .ge 16, 3) := by decide +kernel
theorem dX7_spell_22 : decode cX7_spell 22 = .ok (.aload_n 0, 1) := by decide +kernel
theorem dX7_spell_23 : decode cX7_spell 23 = .ok (.iload_n 2, 1) := by decide +kernel
theorem dX7_spell_24 : decode cX7_spell 24 = .ok (.invokevirtual 50, 3) := by decide +kernel
theorem dX7_spell_27 : decode cX7_spell 27 = .ok (.bipush 97, 2) := by decide +kernel
theorem dX7_spell_29 : decode cX7_spell 29 = .ok (.isub, 1) := by decide +kernel
theorem dX7_spell_30 : decode cX7_spell 30 = .ok (.iconst 1, 1) := by decide +kernel
theorem dX7_spell_31 : decode cX7_spell 31 = .ok (.iadd, 1) := by decide +kernel
theorem dX7_spell_32 : decode cX7_spell 32 = .ok (.goto 4, 3) := by decide +kernel
theorem dX7_spell_35 : decode cX7_spell 35 = .ok (.iconst 0, 1) := by decide +kernel
theorem dX7_spell_36 : decode cX7_spell 36 = .ok (.iadd, 1) := by decide +kernel
theorem dX7_spell_37 : decode cX7_spell 37 = .ok (.istore_n 1, 1) := by decide +kernel
theorem dX7_spell_38 : decode cX7_spell 38 = .ok (.iinc 2 1, 3) := by decide +kernel
theorem dX7_spell_41 : decode cX7_spell 41 = .ok (.goto (-37), 3) := by decide +kernel
theorem dX7_spell_44 : decode cX7_spell 44 = .ok (.iload_n 1, 1) := by decide +kernel
theorem dX7_spell_45 : decode cX7_spell 45 = .ok (.ireturn, 1) := by decide +kernel
theorem dX7_begin_0 : decode cX7_begin 0 = .ok (.aload_n 0, 1) := by decide +kernel
theorem dX7_begin_1 : decode cX7_begin 1 = .ok (.aload_n 1, 1) := by decide +kernel
theorem dX7_begin_2 : decode cX7_begin 2 = .ok (.getfield 54, 3) := by decide +kernel
theorem dX7_begin_5 : decode cX7_begin 5 = .ok (.putfield 41, 3) := by decide +kernel
theorem dX7_begin_8 : decode cX7_begin 8 = .ok (.aload_n 0, 1) := by decide +kernel
theorem dX7_begin_9 : decode cX7_begin 9 = .ok (.iconst 0, 1) := by decide +kernel
theorem dX7_begin_10 : decode cX7_begin 10 = .ok (.aload_n 1, 1) := by decide +kernel
theorem dX7_begin_11 : decode cX7_begin 11 = .ok (.getfield 59, 3) := by decide +kernel
theorem dX7_begin_14 : decode cX7_begin 14 = .ok (.aload_n 0, 1) := by decide +kernel
theorem dX7_begin_15 : decode cX7_begin 15 = .ok (.getfield 41, 3) := by decide +kernel
theorem dX7_begin_18 : decode cX7_begin 18 = .ok (.arraylength, 1) := by decide +kernel
theorem dX7_begin_19 : decode cX7_begin 19 = .ok (.invokestatic 62, 3) := by decide +kernel
theorem dX7_begin_22 : decode cX7_begin 22 = .ok (.invokestatic 68, 3) := by decide +kernel
theorem dX7_begin_25 : decode cX7_begin 25 = .ok (.putfield 71, 3) := by decide +kernel
theorem dX7_begin_28 : decode cX7_begin 28 = .ok (.aload_n 0, 1) := by decide +kernel
theorem dX7_begin_29 : decode cX7_begin 29 = .ok (.iconst 0, 1) := by decide +kernel
theorem dX7_begin_30 : decode cX7_begin 30 = .ok (.putfield 72, 3) := by decide +kernel
theorem dX7_begin_33 : decode cX7_begin 33 = .ok (.aload_n 0, 1) := by decide +kernel
theorem dX7_begin_34 : decode cX7_begin 34 = .ok (.iconst 0, 1) := by decide +kernel
theorem dX7_begin_35 : decode cX7_begin 35 = .ok (.putfield 75, 3) := by decide +kernel
theorem dX7_begin_38 : decode cX7_begin 38 = .ok (.aload_n 0, 1) := by decide +kernel
theorem dX7_begin_39 : decode cX7_begin 39 = .ok (.invokevirtual 78, 3) := by decide +kernel
theorem dX7_begin_42 : decode cX7_begin 42 = .ok (.return_, 1) := by decide +kernel
theorem dX7_step_0 : decode cX7_step 0 = .ok (.aload_n 0, 1) := by decide +kernel
theorem dX7_step_1 : decode cX7_step 1 = .ok (.getfield 75, 3) := by decide +kernel
theorem dX7_step_4 : decode cX7_step 4 = .ok (.iconst 1, 1) := by decide +kernel
theorem dX7_step_5 : decode cX7_step 5 = .ok (.if_icmp .eq 11, 3) := by decide +kernel
theorem dX7_step_8 : decode cX7_step 8 = .ok (.aload_n 0, 1) := by decide +kernel
theorem dX7_step_9 : decode cX7_step 9 = .ok (.getfield 75, 3) := by decide +kernel
theorem dX7_step_12 : decode cX7_step 12 = .ok (.iconst 2, 1) := by decide +kernel
theorem dX7_step_13 : decode cX7_step 13 = .ok (.if_icmp .ne 7, 3) := by decide +kernel
theorem dX7_step_20 : decode cX7_step 20 = .ok (.iconst 0, 1) := by decide +kernel
theorem dX7_step_21 : decode cX7_step 21 = .ok (.istore_n 1, 1) := by decide +kernel
theorem dX7_step_22 : decode cX7_step 22 = .ok (.aload_n 0, 1) := by decide +kernel
theorem dX7_step_23 : decode cX7_step 23 = .ok (.getfield 72, 3) := by decide +kernel
theorem dX7_step_26 : decode cX7_step 26 = .ok (.istore_n 2, 1) := by decide +kernel
theorem dX7_step_27 : decode cX7_step 27 = .ok (.aload_n 0, 1) := by decide +kernel
theorem dX7_step_28 : decode cX7_step 28 = .ok (.getfield 72, 3) := by decide +kernel
theorem dX7_step_31 : decode cX7_step 31 = .ok (.ifCond .lt 55, 3) := by decide +kernel
theorem dX7_step_34 : decode cX7_step 34 = .ok (.aload_n 0, 1) := by decide +kernel
theorem dX7_step_35 : decode cX7_step 35 = .ok (.getfield 72, 3) := by decide +kernel
theorem dX7_step_38 : decode cX7_step 38 = .ok (.aload_n 0, 1) := by decide +kernel
theorem dX7_step_39 : decode cX7_step 39 = .ok (.getfield 71, 3) := by decide +kernel
theorem dX7_step_42 : decode cX7_step 42 = .ok (.if_icmp .ge 44, 3) := by decide +kernel
theorem dX7_step_86 : decode cX7_step 86 = .ok (.aload_n 0, 1) := by decide +kernel
theorem dX7_step_87 : decode cX7_step 87 = .ok (.aload_n 0, 1) := by decide +kernel
theorem dX7_step_88 : decode cX7_step 88 = .ok (.getfield 72, 3) := by decide +kernel
theorem dX7_step_91 : decode cX7_step 91 = .ok (.putfield 81, 3) := by decide +kernel
theorem dX7_step_94 : decode cX7_step 94 = .ok (.aload_n 0, 1) := by decide +kernel
theorem dX7_step_95 : decode cX7_step 95 = .ok (.aload_n 0, 1) := by decide +kernel
theorem dX7_step_96 : decode cX7_step 96 = .ok (.getfield 72, 3) := by decide +kernel
theorem dX7_step_99 : decode cX7_step 99 = .ok (.putfield 84, 3) := by decide +kernel
theorem dX7_step_102 : decode cX7_step 102 = .ok (.aload_n 0, 1) := by decide +kernel
theorem dX7_step_103 : decode cX7_step 103 = .ok (.iconst (-1), 1) := by decide +kernel
theorem dX7_step_104 : decode cX7_step 104 = .ok (.putfield 87, 3) := by decide +kernel
theorem dX7_step_107 : decode cX7_step 107 = .ok (.aload_n 0, 1) := by decide +kernel
theorem dX7_step_108 : decode cX7_step 108 = .ok (.iconst 0, 1) := by decide +kernel
theorem dX7_step_109 : decode cX7_step 109 = .ok (.putfield 90, 3) := by decide +kernel
theorem dX7_step_112 : decode cX7_step 112 = .ok (.aload_n 0, 1) := by decide +kernel
theorem dX7_step_113 : decode cX7_step 113 = .ok (.getfield 72, 3) := by decide +kernel
theorem dX7_step_116 : decode cX7_step 116 = .ok (.ifCond .lt 14, 3) := by decide +kernel
theorem dX7_step_119 : decode cX7_step 119 = .ok (.aload_n 0, 1) := by decide +kernel
theorem dX7_step_120 : decode cX7_step 120 = .ok (.getfield 72, 3) := by decide +kernel
theorem dX7_step_123 : decode cX7_step 123 = .ok (.aload_n 0, 1) := by decide +kernel
theorem dX7_step_124 : decode cX7_step 124 = .ok (.getfield 71, 3) := by decide +kernel
theorem dX7_step_127 : decode cX7_step 127 = .ok (.if_icmp .lt 9, 3) := by decide +kernel
theorem dX7_step_130 : decode cX7_step 130 = .ok (.aload_n 0, 1) := by decide +kernel
theorem dX7_step_131 : decode cX7_step 131 = .ok (.iconst 0, 1) := by decide +kernel
theorem dX7_step_132 : decode cX7_step 132 = .ok (.putfield 75, 3) := by decide +kernel
theorem dX7_step_135 : decode cX7_step 135 = .ok (.return_, 1) := by decide +kernel
theorem dX8_init_0 : decode cX8_init 0 = .ok (.aload_n 0, 1) := by decide +kernel
theorem dX8_init_1 : decode cX8_init 1 = .ok (.invokespecial 3, 3) := by decide +kernel
theorem dX8_init_4 : decode cX8_init 4 = .ok (.aload_n 0, 1) := by decide +kernel
theorem dX8_init_5 : decode cX8_init 5 = .ok (.bipush 16, 2) := by decide +kernel
theorem dX8_init_7 : decode cX8_init 7 = .ok (.newarray .int, 2) := by decide +kernel
theorem dX8_init_9 : decode cX8_init 9 = .ok (.putfield 9, 3) := by decide +kernel
theorem dX8_init_12 : decode cX8_init 12 = .ok (.aload_n 0, 1) := by decide +kernel
theorem dX8_init_13 : decode cX8_init 13 = .ok (.bipush 16, 2) := by decide +kernel
theorem dX8_init_15 : decode cX8_init 15 = .ok (.newarray .int, 2) := by decide +kernel
theorem dX8_init_17 : decode cX8_init 17 = .ok (.putfield 15, 3) := by decide +kernel
theorem dX8_init_20 : decode cX8_init 20 = .ok (.aload_n 0, 1) := by decide +kernel
theorem dX8_init_21 : decode cX8_init 21 = .ok (.sipush 256, 3) := by decide +kernel
theorem dX8_init_24 : decode cX8_init 24 = .ok (.newarray .int, 2) := by decide +kernel
theorem dX8_init_26 : decode cX8_init 26 = .ok (.putfield 18, 3) := by decide +kernel
theorem dX8_init_29 : decode cX8_init 29 = .ok (.aload_n 0, 1) := by decide +kernel
theorem dX8_init_30 : decode cX8_init 30 = .ok (.bipush 13, 2) := by decide +kernel
theorem dX8_init_32 : decode cX8_init 32 = .ok (.newarray .int, 2) := by decide +kernel
theorem dX8_init_34 : decode cX8_init 34 = .ok (.putfield 21, 3) := by decide +kernel
theorem dX8_init_37 : decode cX8_init 37 = .ok (.return_, 1) := by decide +kernel
theorem dX9_init_0 : decode cX9_init 0 = .ok (.aload_n 0, 1) := by decide +kernel
theorem dX9_init_1 : decode cX9_init 1 = .ok (.invokespecial 3, 3) := by decide +kernel
theorem dX9_init_4 : decode cX9_init 4 = .ok (.aload_n 0, 1) := by decide +kernel
theorem dX9_init_5 : decode cX9_init 5 = .ok (.new 9, 3) := by decide +kernel
theorem dX9_init_8 : decode cX9_init 8 = .ok (.dup, 1) := by decide +kernel
theorem dX9_init_9 : decode cX9_init 9 = .ok (.invokespecial 11, 3) := by decide +kernel
theorem dX9_init_12 : decode cX9_init 12 = .ok (.putfield 12, 3) := by decide +kernel
theorem dX9_init_15 : decode cX9_init 15 = .ok (.aload_n 0, 1) := by decide +kernel
theorem dX9_init_16 : decode cX9_init 16 = .ok (.iconst 4, 1) := by decide +kernel
theorem dX9_init_17 : decode cX9_init 17 = .ok (.newarray .int, 2) := by decide +kernel
theorem dX9_init_19 : decode cX9_init 19 = .ok (.putfield 18, 3) := by decide +kernel
theorem dX9_init_22 : decode cX9_init 22 = .ok (.aload_n 0, 1) := by decide +kernel
theorem dX9_init_23 : decode cX9_init 23 = .ok (.iconst 4, 1) := by decide +kernel
theorem dX9_init_24 : decode cX9_init 24 = .ok (.newarray .int, 2) := by decide +kernel
theorem dX9_init_26 : decode cX9_init 26 = .ok (.putfield 22, 3) := by decide +kernel
theorem dX9_init_29 : decode cX9_init 29 = .ok (.aload_n 0, 1) := by decide +kernel
theorem dX9_init_30 : decode cX9_init 30 = .ok (.iconst 4, 1) := by decide +kernel
theorem dX9_init_31 : decode cX9_init 31 = .ok (.newarray .int, 2) := by decide +kernel
theorem dX9_init_33 : decode cX9_init 33 = .ok (.putfield 25, 3) := by decide +kernel
theorem dX9_init_36 : decode cX9_init 36 = .ok (.aload_n 0, 1) := by decide +kernel
theorem dX9_init_37 : decode cX9_init 37 = .ok (.bipush 12, 2) := by decide +kernel
theorem dX9_init_39 : decode cX9_init 39 = .ok (.newarray .int, 2) := by decide +kernel
theorem dX9_init_41 : decode cX9_init 41 = .ok (.putfield 28, 3) := by decide +kernel
theorem dX9_init_44 : decode cX9_init 44 = .ok (.aload_n 0, 1) := by decide +kernel
theorem dX9_init_45 : decode cX9_init 45 = .ok (.iconst 4, 1) := by decide +kernel
theorem dX9_init_46 : decode cX9_init 46 = .ok (.sipush 2048, 3) := by decide +kernel
theorem dX9_init_49 : decode cX9_init 49 = .ok (.multianewarray 31 2, 4) := by decide +kernel
theorem dX9_init_53 : decode cX9_init 53 = .ok (.putfield 33, 3) := by decide +kernel
theorem dX9_init_56 : decode cX9_init 56 = .ok (.return_, 1) := by decide +kernel
theorem dX9_clear_0 : decode cX9_clear 0 = .ok (.aload_n 0, 1) := by decide +kernel
theorem dX9_clear_1 : decode cX9_clear 1 = .ok (.getfield 12, 3) := by decide +kernel
theorem dX9_clear_4 : decode cX9_clear 4 = .ok (.invokevirtual 36, 3) := by decide +kernel
theorem dX9_clear_7 : decode cX9_clear 7 = .ok (.aload_n 0, 1) := by decide +kernel
theorem dX9_clear_8 : decode cX9_clear 8 = .ok (.iconst 0, 1) := by decide +kernel
theorem dX9_clear_9 : decode cX9_clear 9 = .ok (.putfield 39, 3) := by decide +kernel
theorem dX9_clear_12 : decode cX9_clear 12 = .ok (.aload_n 0, 1) := by decide +kernel
theorem dX9_clear_13 : decode cX9_clear 13 = .ok (.iconst 0, 1) := by decide +kernel
theorem dX9_clear_14 : decode cX9_clear 14 = .ok (.putfield 43, 3) := by decide +kernel
theorem dX9_clear_17 : decode cX9_clear 17 = .ok (.aload_n 0, 1) := by decide +kernel
theorem dX9_clear_18 : decode cX9_clear 18 = .ok (.iconst 0, 1) := by decide +kernel
theorem dX9_clear_19 : decode cX9_clear 19 = .ok (.putfield 46, 3) := by decide +kernel
theorem dX9_clear_22 : decode cX9_clear 22 = .ok (.aload_n 0, 1) := by decide +kernel
theorem dX9_clear_23 : decode cX9_clear 23 = .ok (.iconst 0, 1) := by decide +kernel
theorem dX9_clear_24 : decode cX9_clear 24 = .ok (.putfield 49, 3) := by decide +kernel
theorem dX9_clear_27 : decode cX9_clear 27 = .ok (.aload_n 0, 1) := by decide +kernel
theorem dX9_clear_28 : decode cX9_clear 28 = .ok (.sipush 300, 3) := by decide +kernel
theorem dX9_clear_31 : decode cX9_clear 31 = .ok (.putfield 52, 3) := by decide +kernel
theorem dX9_clear_34 : decode cX9_clear 34 = .ok (.return_, 1) := by decide +kernel
theorem dX9_isRow_0 : decode cX9_isRow 0 = .ok (.iload_n 1, 1) := by decide +kernel
theorem dX9_isRow_1 : decode cX9_isRow 1 = .ok (.ifCond .lt 15, 3) := by decide +kernel
theorem dX9_isRow_4 : decode cX9_isRow 4 = .ok (.iload_n 1, 1) := by decide +kernel
theorem dX9_isRow_5 : decode cX9_isRow 5 = .ok (.aload_n 0, 1) := by decide +kernel
theorem dX9_isRow_6 : decode cX9_isRow 6 = .ok (.getfield 43, 3) := by decide +kernel
theorem dX9_isRow_9 : decode cX9_isRow 9 = .ok (.if_icmp .ge 7, 3) := by decide +kernel
theorem dX9_isRow_16 : decode cX9_isRow 16 = .ok (.iconst 0, 1) := by decide +kernel
theorem dX9_isRow_17 : decode cX9_isRow 17 = .ok (.ireturn, 1) := by decide +kernel
theorem dX10_init_0 : decode cX10_init 0 = .ok (.aload_n 0, 1) := by decide +kernel
theorem dX10_init_1 : decode cX10_init 1 = .ok (.invokespecial 3, 3) := by decide +kernel
theorem dX10_init_4 : decode cX10_init 4 = .ok (.aload_n 0, 1) := by decide +kernel
theorem dX10_init_5 : decode cX10_init 5 = .ok (.iconst 4, 1) := by decide +kernel
theorem dX10_init_6 : decode cX10_init 6 = .ok (.anewarray 9, 3) := by decide +kernel
theorem dX10_init_9 : decode cX10_init 9 = .ok (.putfield 11, 3) := by decide +kernel
theorem dX10_init_12 : decode cX10_init 12 = .ok (.aload_n 0, 1) := by decide +kernel
theorem dX10_init_13 : decode cX10_init 13 = .ok (.iconst 4, 1) := by decide +kernel
theorem dX10_init_14 : decode cX10_init 14 = .ok (.anewarray 9, 3) := by decide +kernel
theorem dX10_init_17 : decode cX10_init 17 = .ok (.putfield 17, 3) := by decide +kernel
theorem dX10_init_20 : decode cX10_init 20 = .ok (.aload_n 0, 1) := by decide +kernel
theorem dX10_init_21 : decode cX10_init 21 = .ok (.ldc 20, 2) := by decide +kernel
theorem dX10_init_23 : decode cX10_init 23 = .ok (.newarray .long, 2) := by decide +kernel
theorem dX10_init_25 : decode cX10_init 25 = .ok (.putfield 21, 3) := by decide +kernel
theorem dX10_init_28 : decode cX10_init 28 = .ok (.aload_n 0, 1) := by decide +kernel
theorem dX10_init_29 : decode cX10_init 29 = .ok (.sipush 999, 3) := by decide +kernel
theorem dX10_init_32 : decode cX10_init 32 = .ok (.newarray .int, 2) := by decide +kernel
theorem dX10_init_34 : decode cX10_init 34 = .ok (.putfield 25, 3) := by decide +kernel
theorem dX10_init_37 : decode cX10_init 37 = .ok (.aload_n 0, 1) := by decide +kernel
theorem dX10_init_38 : decode cX10_init 38 = .ok (.aload_n 1, 1) := by decide +kernel
theorem dX10_init_39 : decode cX10_init 39 = .ok (.putfield 29, 3) := by decide +kernel
theorem dX10_init_42 : decode cX10_init 42 = .ok (.aload_n 0, 1) := by decide +kernel
theorem dX10_init_43 : decode cX10_init 43 = .ok (.aload_n 2, 1) := by decide +kernel
theorem dX10_init_44 : decode cX10_init 44 = .ok (.putfield 33, 3) := by decide +kernel
theorem dX10_init_47 : decode cX10_init 47 = .ok (.aload_n 0, 1) := by decide +kernel
theorem dX10_init_48 : decode cX10_init 48 = .ok (.aload_n 3, 1) := by decide +kernel
theorem dX10_init_49 : decode cX10_init 49 = .ok (.putfield 37, 3) := by decide +kernel
theorem dX10_init_52 : decode cX10_init 52 = .ok (.iconst 0, 1) := by decide +kernel
theorem dX10_init_53 : decode cX10_init 53 = .ok (.istore 4, 2) := by decide +kernel
theorem dX10_init_55 : decode cX10_init 55 = .ok (.iload 4, 2) := by decide +kernel
theorem dX10_init_57 : decode cX10_init 57 = .ok (.iconst 4, 1) := by decide +kernel
theorem dX10_init_58 : decode cX10_init 58 = .ok (.if_icmp .ge 45, 3) := by decide +kernel
theorem dX10_init_61 : decode cX10_init 61 = .ok (.aload_n 0, 1) := by decide +kernel
theorem dX10_init_62 : decode cX10_init 62 = .ok (.getfield 11, 3) := by decide +kernel
theorem dX10_init_65 : decode cX10_init 65 = .ok (.iload 4, 2) := by decide +kernel
theorem dX10_init_67 : decode cX10_init 67 = .ok (.new 9, 3) := by decide +kernel
theorem dX10_init_70 : decode cX10_init 70 = .ok (.dup, 1) := by decide +kernel
theorem dX10_init_71 : decode cX10_init 71 = .ok (.sipush 2048, 3) := by decide +kernel
theorem dX10_init_74 : decode cX10_init 74 = .ok (.aload_n 3, 1) := by decide +kernel
theorem dX10_init_75 : decode cX10_init 75 = .ok (.invokespecial 41, 3) := by decide +kernel
theorem dX10_init_78 : decode cX10_init 78 = .ok (.aastore, 1) := by decide +kernel
theorem dX10_init_79 : decode cX10_init 79 = .ok (.aload_n 0, 1) := by decide +kernel
theorem dX10_init_80 : decode cX10_init 80 = .ok (.getfield 17, 3) := by decide +kernel
theorem dX10_init_83 : decode cX10_init 83 = .ok (.iload 4, 2) := by decide +kernel
theorem dX10_init_85 : decode cX10_init 85 = .ok (.new 9, 3) := by decide +kernel
theorem dX10_init_88 : decode cX10_init 88 = .ok (.dup, 1) := by decide +kernel
theorem dX10_init_89 : decode cX10_init 89 = .ok (.sipush 2048, 3) := by decide +kernel
theorem dX10_init_92 : decode cX10_init 92 = .ok (.aload_n 3, 1) := by decide +kernel
theorem dX10_init_93 : decode cX10_init 93 = .ok (.invokespecial 41, 3) := by decide +kernel
theorem dX10_init_96 : decode cX10_init 96 = .ok (.aastore, 1) := by decide +kernel
theorem dX10_init_97 : decode cX10_init 97 = .ok (.iinc 4 1, 3) := by decide +kernel
theorem dX10_init_100 : decode cX10_init 100 = .ok (.goto (-45), 3) := by decide +kernel
theorem dX10_init_103 : decode cX10_init 103 = .ok (.return_, 1) := by decide +kernel
theorem dX11_init_0 : decode cX11_init 0 = .ok (.aload_n 0, 1) := by decide +kernel
theorem dX11_init_1 : decode cX11_init 1 = .ok (.invokespecial 3, 3) := by decide +kernel
theorem dX11_init_4 : decode cX11_init 4 = .ok (.aload_n 0, 1) := by decide +kernel
theorem dX11_init_5 : decode cX11_init 5 = .ok (.new 9, 3) := by decide +kernel
theorem dX11_init_8 : decode cX11_init 8 = .ok (.dup, 1) := by decide +kernel
theorem dX11_init_9 : decode cX11_init 9 = .ok (.sipush 1600, 3) := by decide +kernel
theorem dX11_init_12 : decode cX11_init 12 = .ok (.invokespecial 11, 3) := by decide +kernel
theorem dX11_init_15 : decode cX11_init 15 = .ok (.putfield 14, 3) := by decide +kernel
theorem dX11_init_18 : decode cX11_init 18 = .ok (.aload_n 0, 1) := by decide +kernel
theorem dX11_init_19 : decode cX11_init 19 = .ok (.new 9, 3) := by decide +kernel
theorem dX11_init_22 : decode cX11_init 22 = .ok (.dup, 1) := by decide +kernel
theorem dX11_init_23 : decode cX11_init 23 = .ok (.sipush 1024, 3) := by decide +kernel
theorem dX11_init_26 : decode cX11_init 26 = .ok (.invokespecial 11, 3) := by decide +kernel
theorem dX11_init_29 : decode cX11_init 29 = .ok (.putfield 18, 3) := by decide +kernel
theorem dX11_init_32 : decode cX11_init 32 = .ok (.aload_n 0, 1) := by decide +kernel
theorem dX11_init_33 : decode cX11_init 33 = .ok (.new 21, 3) := by decide +kernel
theorem dX11_init_36 : decode cX11_init 36 = .ok (.dup, 1) := by decide +kernel
theorem dX11_init_37 : decode cX11_init 37 = .ok (.invokespecial 23, 3) := by decide +kernel
theorem dX11_init_40 : decode cX11_init 40 = .ok (.putfield 24, 3) := by decide +kernel
theorem dX11_init_43 : decode cX11_init 43 = .ok (.aload_n 0, 1) := by decide +kernel
theorem dX11_init_44 : decode cX11_init 44 = .ok (.new 28, 3) := by decide +kernel
theorem dX11_init_47 : decode cX11_init 47 = .ok (.dup, 1) := by decide +kernel
theorem dX11_init_48 : decode cX11_init 48 = .ok (.sipush 4096, 3) := by decide +kernel
theorem dX11_init_51 : decode cX11_init 51 = .ok (.aload_n 0, 1) := by decide +kernel
theorem dX11_init_52 : decode cX11_init 52 = .ok (.getfield 24, 3) := by decide +kernel
theorem dX11_init_55 : decode cX11_init 55 = .ok (.invokespecial 30, 3) := by decide +kernel
theorem dX11_init_58 : decode cX11_init 58 = .ok (.putfield 33, 3) := by decide +kernel
theorem dX11_init_61 : decode cX11_init 61 = .ok (.aload_n 0, 1) := by decide +kernel
theorem dX11_init_62 : decode cX11_init 62 = .ok (.new 28, 3) := by decide +kernel
theorem dX11_init_65 : decode cX11_init 65 = .ok (.dup, 1) := by decide +kernel
theorem dX11_init_66 : decode cX11_init 66 = .ok (.sipush 4096, 3) := by decide +kernel
theorem dX11_init_69 : decode cX11_init 69 = .ok (.aload_n 0, 1) := by decide +kernel
theorem dX11_init_70 : decode cX11_init 70 = .ok (.getfield 24, 3) := by decide +kernel
theorem dX11_init_73 : decode cX11_init 73 = .ok (.invokespecial 30, 3) := by decide +kernel
theorem dX11_init_76 : decode cX11_init 76 = .ok (.putfield 37, 3) := by decide +kernel
theorem dX11_init_79 : decode cX11_init 79 = .ok (.aload_n 0, 1) := by decide +kernel
theorem dX11_init_80 : decode cX11_init 80 = .ok (.new 40, 3) := by decide +kernel
theorem dX11_init_83 : decode cX11_init 83 = .ok (.dup, 1) := by decide +kernel
theorem dX11_init_84 : decode cX11_init 84 = .ok (.invokespecial 42, 3) := by decide +kernel
theorem dX11_init_87 : decode cX11_init 87 = .ok (.putfield 43, 3) := by decide +kernel
theorem dX11_init_90 : decode cX11_init 90 = .ok (.aload_n 0, 1) := by decide +kernel
theorem dX11_init_91 : decode cX11_init 91 = .ok (.new 40, 3) := by decide +kernel
theorem dX11_init_94 : decode cX11_init 94 = .ok (.dup, 1) := by decide +kernel
theorem dX11_init_95 : decode cX11_init 95 = .ok (.invokespecial 42, 3) := by decide +kernel
theorem dX11_init_98 : decode cX11_init 98 = .ok (.putfield 47, 3) := by decide +kernel
theorem dX11_init_101 : decode cX11_init 101 = .ok (.aload_n 0, 1) := by decide +kernel
theorem dX11_init_102 : decode cX11_init 102 = .ok (.new 50, 3) := by decide +kernel
theorem dX11_init_105 : decode cX11_init 105 = .ok (.dup, 1) := by decide +kernel
theorem dX11_init_106 : decode cX11_init 106 = .ok (.invokespecial 52, 3) := by decide +kernel
theorem dX11_init_109 : decode cX11_init 109 = .ok (.putfield 53, 3) := by decide +kernel
theorem dX11_init_112 : decode cX11_init 112 = .ok (.aload_n 0, 1) := by decide +kernel
theorem dX11_init_113 : decode cX11_init 113 = .ok (.new 57, 3) := by decide +kernel
theorem dX11_init_116 : decode cX11_init 116 = .ok (.dup, 1) := by decide +kernel
theorem dX11_init_117 : decode cX11_init 117 = .ok (.invokespecial 59, 3) := by decide +kernel
theorem dX11_init_120 : decode cX11_init 120 = .ok (.putfield 60, 3) := by decide +kernel
theorem dX11_init_123 : decode cX11_init 123 = .ok (.aload_n 0, 1) := by decide +kernel
theorem dX11_init_124 : decode cX11_init 124 = .ok (.bipush 6, 2) := by decide +kernel
theorem dX11_init_126 : decode cX11_init 126 = .ok (.newarray .int, 2) := by decide +kernel
theorem dX11_init_128 : decode cX11_init 128 = .ok (.putfield 64, 3) := by decide +kernel
theorem dX11_init_131 : decode cX11_init 131 = .ok (.aload_n 0, 1) := by decide +kernel
theorem dX11_init_132 : decode cX11_init 132 = .ok (.new 68, 3) := by decide +kernel
theorem dX11_init_135 : decode cX11_init 135 = .ok (.dup, 1) := by decide +kernel
theorem dX11_init_136 : decode cX11_init 136 = .ok (.invokespecial 70, 3) := by decide +kernel
theorem dX11_init_139 : decode cX11_init 139 = .ok (.putfield 71, 3) := by decide +kernel
theorem dX11_init_142 : decode cX11_init 142 = .ok (.aload_n 0, 1) := by decide +kernel
theorem dX11_init_143 : decode cX11_init 143 = .ok (.new 68, 3) := by decide +kernel
theorem dX11_init_146 : decode cX11_init 146 = .ok (.dup, 1) := by decide +kernel
theorem dX11_init_147 : decode cX11_init 147 = .ok (.invokespecial 70, 3) := by decide +kernel
theorem dX11_init_150 : decode cX11_init 150 = .ok (.putfield 75, 3) := by decide +kernel
theorem dX11_init_153 : decode cX11_init 153 = .ok (.aload_n 0, 1) := by decide +kernel
theorem dX11_init_154 : decode cX11_init 154 = .ok (.new 78, 3) := by decide +kernel
theorem dX11_init_157 : decode cX11_init 157 = .ok (.dup, 1) := by decide +kernel
theorem dX11_init_158 : decode cX11_init 158 = .ok (.aload_n 0, 1) := by decide +kernel
theorem dX11_init_159 : decode cX11_init 159 = .ok (.getfield 71, 3) := by decide +kernel
theorem dX11_init_162 : decode cX11_init 162 = .ok (.invokespecial 80, 3) := by decide +kernel
theorem dX11_init_165 : decode cX11_init 165 = .ok (.putfield 83, 3) := by decide +kernel
theorem dX11_init_168 : decode cX11_init 168 = .ok (.aload_n 0, 1) := by decide +kernel
theorem dX11_init_169 : decode cX11_init 169 = .ok (.new 87, 3) := by decide +kernel
theorem dX11_init_172 : decode cX11_init 172 = .ok (.dup, 1) := by decide +kernel
theorem dX11_init_173 : decode cX11_init 173 = .ok (.aload_n 0, 1) := by decide +kernel
theorem dX11_init_174 : decode cX11_init 174 = .ok (.getfield 71, 3) := by decide +kernel
theorem dX11_init_177 : decode cX11_init 177 = .ok (.aload_n 0, 1) := by decide +kernel
theorem dX11_init_178 : decode cX11_init 178 = .ok (.getfield 43, 3) := by decide +kernel
theorem dX11_init_181 : decode cX11_init 181 = .ok (.aload_n 0, 1) := by decide +kernel
theorem dX11_init_182 : decode cX11_init 182 = .ok (.getfield 24, 3) := by decide +kernel
theorem dX11_init_185 : decode cX11_init 185 = .ok (.invokespecial 89, 3) := by decide +kernel
theorem dX11_init_188 : decode cX11_init 188 = .ok (.putfield 92, 3) := by decide +kernel
theorem dX11_init_191 : decode cX11_init 191 = .ok (.aload_n 0, 1) := by decide +kernel
theorem dX11_init_192 : decode cX11_init 192 = .ok (.iconst 1, 1) := by decide +kernel
theorem dX11_init_193 : decode cX11_init 193 = .ok (.putfield 96, 3) := by decide +kernel
theorem dX11_init_196 : decode cX11_init 196 = .ok (.return_, 1) := by decide +kernel
theorem dX11_feed_0 : decode cX11_feed 0 = .ok (.aload_n 0, 1) := by decide +kernel
theorem dX11_feed_1 : decode cX11_feed 1 = .ok (.getfield 14, 3) := by decide +kernel
theorem dX11_feed_4 : decode cX11_feed 4 = .ok (.getfield 100, 3) := by decide +kernel
theorem dX11_feed_7 : decode cX11_feed 7 = .ok (.bipush 20, 2) := by decide +kernel
theorem dX11_feed_9 : decode cX11_feed 9 = .ok (.iadd, 1) := by decide +kernel
theorem dX11_feed_10 : decode cX11_feed 10 = .ok (.sipush 1600, 3) := by decide +kernel
theorem dX11_feed_13 : decode cX11_feed 13 = .ok (.if_icmp .le 11, 3) := by decide +kernel
theorem dX11_feed_24 : decode cX11_feed 24 = .ok (.aload_n 0, 1) := by decide +kernel
theorem dX11_feed_25 : decode cX11_feed 25 = .ok (.getfield 14, 3) := by decide +kernel
theorem dX11_feed_28 : decode cX11_feed 28 = .ok (.iload_n 1, 1) := by decide +kernel
theorem dX11_feed_29 : decode cX11_feed 29 = .ok (.invokevirtual 107, 3) := by decide +kernel
theorem dX11_feed_32 : decode cX11_feed 32 = .ok (.aload_n 0, 1) := by decide +kernel
theorem dX11_feed_33 : decode cX11_feed 33 = .ok (.getfield 14, 3) := by decide +kernel
theorem dX11_feed_36 : decode cX11_feed 36 = .ok (.iload_n 2, 1) := by decide +kernel
theorem dX11_feed_37 : decode cX11_feed 37 = .ok (.invokevirtual 107, 3) := by decide +kernel
theorem dX11_feed_40 : decode cX11_feed 40 = .ok (.aload_n 0, 1) := by decide +kernel
theorem dX11_feed_41 : decode cX11_feed 41 = .ok (.getfield 14, 3) := by decide +kernel
theorem dX11_feed_44 : decode cX11_feed 44 = .ok (.iload_n 3, 1) := by decide +kernel
theorem dX11_feed_45 : decode cX11_feed 45 = .ok (.invokevirtual 107, 3) := by decide +kernel
theorem dX11_feed_48 : decode cX11_feed 48 = .ok (.aload_n 0, 1) := by decide +kernel
theorem dX11_feed_49 : decode cX11_feed 49 = .ok (.getfield 14, 3) := by decide +kernel
theorem dX11_feed_52 : decode cX11_feed 52 = .ok (.iload 4, 2) := by decide +kernel
theorem dX11_feed_54 : decode cX11_feed 54 = .ok (.invokevirtual 107, 3) := by decide +kernel
theorem dX11_feed_57 : decode cX11_feed 57 = .ok (.aload_n 0, 1) := by decide +kernel
theorem dX11_feed_58 : decode cX11_feed 58 = .ok (.getfield 14, 3) := by decide +kernel
theorem dX11_feed_61 : decode cX11_feed 61 = .ok (.iload 5, 2) := by decide +kernel
theorem dX11_feed_63 : decode cX11_feed 63 = .ok (.invokevirtual 107, 3) := by decide +kernel
theorem dX11_feed_66 : decode cX11_feed 66 = .ok (.aload_n 0, 1) := by decide +kernel
theorem dX11_feed_67 : decode cX11_feed 67 = .ok (.getfield 14, 3) := by decide +kernel
theorem dX11_feed_70 : decode cX11_feed 70 = .ok (.getfield 100, 3) := by decide +kernel
theorem dX11_feed_73 : decode cX11_feed 73 = .ok (.ireturn, 1) := by decide +kernel
theorem dX11_end_0 : decode cX11_end 0 = .ok (.iload_n 1, 1) := by decide +kernel
theorem dX11_end_1 : decode cX11_end 1 = .ok (.ifCond .lt 14, 3) := by decide +kernel
theorem dX11_end_4 : decode cX11_end 4 = .ok (.iload_n 1, 1) := by decide +kernel
theorem dX11_end_5 : decode cX11_end 5 = .ok (.aload_n 0, 1) := by decide +kernel
theorem dX11_end_6 : decode cX11_end 6 = .ok (.getfield 14, 3) := by decide +kernel
theorem dX11_end_9 : decode cX11_end 9 = .ok (.getfield 100, 3) := by decide +kernel
theorem dX11_end_12 : decode cX11_end 12 = .ok (.if_icmp .le 9, 3) := by decide +kernel
theorem dX11_end_15 : decode cX11_end 15 = .ok (.aload_n 0, 1) := by decide +kernel
theorem dX11_end_16 : decode cX11_end 16 = .ok (.iconst 0, 1) := by decide +kernel
theorem dX11_end_17 : decode cX11_end 17 = .ok (.invokevirtual 103, 3) := by decide +kernel
theorem dX11_end_20 : decode cX11_end 20 = .ok (.ireturn, 1) := by decide +kernel
theorem dX11_end_21 : decode cX11_end 21 = .ok (.aload_n 0, 1) := by decide +kernel
theorem dX11_end_22 : decode cX11_end 22 = .ok (.getfield 14, 3) := by decide +kernel
theorem dX11_end_25 : decode cX11_end 25 = .ok (.iload_n 1, 1) := by decide +kernel
theorem dX11_end_26 : decode cX11_end 26 = .ok (.putfield 100, 3) := by decide +kernel
theorem dX11_end_29 : decode cX11_end 29 = .ok (.iconst 1, 1) := by decide +kernel
theorem dX11_end_30 : decode cX11_end 30 = .ok (.ireturn, 1) := by decide +kernel
theorem dX11_match_0 : decode cX11_match 0 = .ok (.aload_n 0, 1) := by decide +kernel
theorem dX11_match_1 : decode cX11_match 1 = .ok (.getfield 83, 3) := by decide +kernel
theorem dX11_match_4 : decode cX11_match 4 = .ok (.aload_n 0, 1) := by decide +kernel
theorem dX11_match_5 : decode cX11_match 5 = .ok (.getfield 14, 3) := by decide +kernel
theorem dX11_match_8 : decode cX11_match 8 = .ok (.aload_n 0, 1) := by decide +kernel
theorem dX11_match_9 : decode cX11_match 9 = .ok (.getfield 75, 3) := by decide +kernel
theorem dX11_match_12 : decode cX11_match 12 = .ok (.invokevirtual 110, 3) := by decide +kernel
theorem dX11_match_15 : decode cX11_match 15 = .ok (.istore_n 1, 1) := by decide +kernel
theorem dX11_match_16 : decode cX11_match 16 = .ok (.aload_n 0, 1) := by decide +kernel
theorem dX11_match_17 : decode cX11_match 17 = .ok (.getfield 14, 3) := by decide +kernel
theorem dX11_match_20 : decode cX11_match 20 = .ok (.iconst 0, 1) := by decide +kernel
theorem dX11_match_21 : decode cX11_match 21 = .ok (.putfield 100, 3) := by decide +kernel
theorem dX11_match_24 : decode cX11_match 24 = .ok (.iload_n 1, 1) := by decide +kernel
theorem dX11_match_25 : decode cX11_match 25 = .ok (.iconst (-1), 1) := by decide +kernel
theorem dX11_match_26 : decode cX11_match 26 = .ok (.if_icmp .ne 11, 3) := by decide +kernel
theorem dX11_match_29 : decode cX11_match 29 = .ok (.aload_n 0, 1) := by decide +kernel
theorem dX11_match_30 : decode cX11_match 30 = .ok (.iconst 1, 1) := by decide +kernel
theorem dX11_match_31 : decode cX11_match 31 = .ok (.invokevirtual 103, 3) := by decide +kernel
theorem dX11_match_34 : decode cX11_match 34 = .ok (.pop, 1) := by decide +kernel
theorem dX11_match_35 : decode cX11_match 35 = .ok (.iconst (-1), 1) := by decide +kernel
theorem dX11_match_36 : decode cX11_match 36 = .ok (.ireturn, 1) := by decide +kernel
theorem dX11_fault_0 : decode cX11_fault 0 = .ok (.iload_n 1, 1) := by decide +kernel
theorem dX11_fault_1 : decode cX11_fault 1 = .ok (.ifCond .ne 11, 3) := by decide +kernel
theorem dX11_fault_4 : decode cX11_fault 4 = .ok (.aload_n 0, 1) := by decide +kernel
theorem dX11_fault_5 : decode cX11_fault 5 = .ok (.getfield 83, 3) := by decide +kernel
theorem dX11_fault_8 : decode cX11_fault 8 = .ok (.getfield 156, 3) := by decide +kernel
theorem dX11_fault_11 : decode cX11_fault 11 = .ok (.ireturn, 1) := by decide +kernel
theorem dX11_fault_12 : decode cX11_fault 12 = .ok (.iload_n 1, 1) := by decide +kernel
theorem dX11_fault_13 : decode cX11_fault 13 = .ok (.iconst 1, 1) := by decide +kernel
theorem dX11_fault_14 : decode cX11_fault 14 = .ok (.if_icmp .ne 13, 3) := by decide +kernel
theorem dX11_fault_17 : decode cX11_fault 17 = .ok (.aload_n 0, 1) := by decide +kernel
theorem dX11_fault_18 : decode cX11_fault 18 = .ok (.getfield 83, 3) := by decide +kernel
theorem dX11_fault_21 : decode cX11_fault 21 = .ok (.getfield 159, 3) := by decide +kernel
theorem dX11_fault_24 : decode cX11_fault 24 = .ok (.goto 4, 3) := by decide +kernel
theorem dX11_fault_27 : decode cX11_fault 27 = .ok (.iconst (-1), 1) := by decide +kernel
theorem dX11_fault_28 : decode cX11_fault 28 = .ok (.ireturn, 1) := by decide +kernel
theorem dX11_has_0 : decode cX11_has 0 = .ok (.iload_n 1, 1) := by decide +kernel
theorem dX11_has_1 : decode cX11_has 1 = .ok (.tableswitch 150 0 10 #[59, 70, 81, 89, 97, 105, 113, 121, 129, 137, 145], 59) := by decide +kernel
theorem dX11_has_60 : decode cX11_has 60 = .ok (.aload_n 0, 1) := by decide +kernel
theorem dX11_has_61 : decode cX11_has 61 = .ok (.getfield 71, 3) := by decide +kernel
theorem dX11_has_64 : decode cX11_has 64 = .ok (.getfield 162, 3) := by decide +kernel
theorem dX11_has_67 : decode cX11_has 67 = .ok (.getfield 166, 3) := by decide +kernel
theorem dX11_has_70 : decode cX11_has 70 = .ok (.ireturn, 1) := by decide +kernel
theorem dX11_has_71 : decode cX11_has 71 = .ok (.aload_n 0, 1) := by decide +kernel
theorem dX11_has_72 : decode cX11_has 72 = .ok (.getfield 71, 3) := by decide +kernel
theorem dX11_has_75 : decode cX11_has 75 = .ok (.getfield 162, 3) := by decide +kernel
theorem dX11_has_78 : decode cX11_has 78 = .ok (.getfield 170, 3) := by decide +kernel
theorem dX11_has_81 : decode cX11_has 81 = .ok (.ireturn, 1) := by decide +kernel
theorem dX11_has_82 : decode cX11_has 82 = .ok (.aload_n 0, 1) := by decide +kernel
theorem dX11_has_83 : decode cX11_has 83 = .ok (.getfield 71, 3) := by decide +kernel
theorem dX11_has_86 : decode cX11_has 86 = .ok (.getfield 130, 3) := by decide +kernel
theorem dX11_has_89 : decode cX11_has 89 = .ok (.ireturn, 1) := by decide +kernel
theorem dX11_has_90 : decode cX11_has 90 = .ok (.aload_n 0, 1) := by decide +kernel
theorem dX11_has_91 : decode cX11_has 91 = .ok (.getfield 71, 3) := by decide +kernel
theorem dX11_has_94 : decode cX11_has 94 = .ok (.getfield 173, 3) := by decide +kernel
theorem dX11_has_97 : decode cX11_has 97 = .ok (.ireturn, 1) := by decide +kernel
theorem dX11_has_98 : decode cX11_has 98 = .ok (.aload_n 0, 1) := by decide +kernel
theorem dX11_has_99 : decode cX11_has 99 = .ok (.getfield 43, 3) := by decide +kernel
theorem dX11_has_102 : decode cX11_has 102 = .ok (.getfield 176, 3) := by decide +kernel
theorem dX11_has_105 : decode cX11_has 105 = .ok (.ireturn, 1) := by decide +kernel
theorem dX11_has_106 : decode cX11_has 106 = .ok (.aload_n 0, 1) := by decide +kernel
end
section
theorem dX11_has_107 : decode cX11_has 107 = .ok (.getfield 43, 3) := by decide +kernel
theorem dX11_has_110 : decode cX11_has 110 = .ok (.getfield 177, 3) := by decide +kernel
theorem dX11_has_113 : decode cX11_has 113 = .ok (.ireturn, 1) := by decide +kernel
theorem dX11_has_114 : decode cX11_has 114 = .ok (.aload_n 0, 1) := by decide +kernel
theorem dX11_has_115 : decode cX11_has 115 = .ok (.getfield 43, 3) := by decide +kernel
theorem dX11_has_118 : decode cX11_has 118 = .ok (.getfield 180, 3) := by decide +kernel
theorem dX11_has_121 : decode cX11_has 121 = .ok (.ireturn, 1) := by decide +kernel
theorem dX11_has_122 : decode cX11_has 122 = .ok (.aload_n 0, 1) := by decide +kernel
theorem dX11_has_123 : decode cX11_has 123 = .ok (.getfield 53, 3) := by decide +kernel
theorem dX11_has_126 : decode cX11_has 126 = .ok (.invokevirtual 181, 3) := by decide +kernel
theorem dX11_has_129 : decode cX11_has 129 = .ok (.ireturn, 1) := by decide +kernel
theorem dX11_has_130 : decode cX11_has 130 = .ok (.aload_n 0, 1) := by decide +kernel
theorem dX11_has_131 : decode cX11_has 131 = .ok (.getfield 60, 3) := by decide +kernel
theorem dX11_has_134 : decode cX11_has 134 = .ok (.getfield 153, 3) := by decide +kernel
theorem dX11_has_137 : decode cX11_has 137 = .ok (.ireturn, 1) := by decide +kernel
theorem dX11_has_138 : decode cX11_has 138 = .ok (.aload_n 0, 1) := by decide +kernel
theorem dX11_has_139 : decode cX11_has 139 = .ok (.getfield 53, 3) := by decide +kernel
theorem dX11_has_142 : decode cX11_has 142 = .ok (.getfield 185, 3) := by decide +kernel
theorem dX11_has_145 : decode cX11_has 145 = .ok (.ireturn, 1) := by decide +kernel
theorem dX11_has_146 : decode cX11_has 146 = .ok (.aload_n 0, 1) := by decide +kernel
theorem dX11_has_147 : decode cX11_has 147 = .ok (.getfield 96, 3) := by decide +kernel
theorem dX11_has_150 : decode cX11_has 150 = .ok (.ireturn, 1) := by decide +kernel
theorem dX11_has_151 : decode cX11_has 151 = .ok (.iconst (-1), 1) := by decide +kernel
theorem dX11_has_152 : decode cX11_has 152 = .ok (.ireturn, 1) := by decide +kernel
theorem dX11_letter_0 : decode cX11_letter 0 = .ok (.aload_n 0, 1) := by decide +kernel
theorem dX11_letter_1 : decode cX11_letter 1 = .ok (.getfield 71, 3) := by decide +kernel
theorem dX11_letter_4 : decode cX11_letter 4 = .ok (.getfield 162, 3) := by decide +kernel
theorem dX11_letter_7 : decode cX11_letter 7 = .ok (.astore 4, 2) := by decide +kernel
theorem dX11_letter_9 : decode cX11_letter 9 = .ok (.iload_n 3, 1) := by decide +kernel
theorem dX11_letter_10 : decode cX11_letter 10 = .ok (.ifCond .lt 13, 3) := by decide +kernel
theorem dX11_letter_13 : decode cX11_letter 13 = .ok (.iload_n 3, 1) := by decide +kernel
theorem dX11_letter_14 : decode cX11_letter 14 = .ok (.bipush 6, 2) := by decide +kernel
theorem dX11_letter_16 : decode cX11_letter 16 = .ok (.if_icmp .ge 7, 3) := by decide +kernel
theorem dX11_letter_19 : decode cX11_letter 19 = .ok (.iload_n 2, 1) := by decide +kernel
theorem dX11_letter_20 : decode cX11_letter 20 = .ok (.ifCond .ge 5, 3) := by decide +kernel
theorem dX11_letter_23 : decode cX11_letter 23 = .ok (.iconst (-1), 1) := by decide +kernel
theorem dX11_letter_24 : decode cX11_letter 24 = .ok (.ireturn, 1) := by decide +kernel
theorem dX11_letter_25 : decode cX11_letter 25 = .ok (.iload_n 1, 1) := by decide +kernel
theorem dX11_letter_26 : decode cX11_letter 26 = .ok (.ifCond .ne 24, 3) := by decide +kernel
theorem dX11_letter_29 : decode cX11_letter 29 = .ok (.aload 4, 2) := by decide +kernel
theorem dX11_letter_31 : decode cX11_letter 31 = .ok (.iload_n 2, 1) := by decide +kernel
theorem dX11_letter_32 : decode cX11_letter 32 = .ok (.invokevirtual 188, 3) := by decide +kernel
theorem dX11_letter_35 : decode cX11_letter 35 = .ok (.ifCond .eq 15, 3) := by decide +kernel
theorem dX11_letter_50 : decode cX11_letter 50 = .ok (.iload_n 1, 1) := by decide +kernel
theorem dX11_letter_51 : decode cX11_letter 51 = .ok (.iconst 1, 1) := by decide +kernel
theorem dX11_letter_52 : decode cX11_letter 52 = .ok (.if_icmp .ne 24, 3) := by decide +kernel
theorem dX11_letter_55 : decode cX11_letter 55 = .ok (.aload 4, 2) := by decide +kernel
theorem dX11_letter_57 : decode cX11_letter 57 = .ok (.iload_n 2, 1) := by decide +kernel
theorem dX11_letter_58 : decode cX11_letter 58 = .ok (.invokevirtual 198, 3) := by decide +kernel
theorem dX11_letter_61 : decode cX11_letter 61 = .ok (.ifCond .eq 15, 3) := by decide +kernel
theorem dX11_letter_76 : decode cX11_letter 76 = .ok (.iconst (-1), 1) := by decide +kernel
theorem dX11_letter_77 : decode cX11_letter 77 = .ok (.ireturn, 1) := by decide +kernel
theorem dX11_values_0 : decode cX11_values 0 = .ok (.aload_n 0, 1) := by decide +kernel
theorem dX11_values_1 : decode cX11_values 1 = .ok (.invokevirtual 204, 3) := by decide +kernel
theorem dX11_values_4 : decode cX11_values 4 = .ok (.ifCond .eq 22, 3) := by decide +kernel
theorem dX11_values_26 : decode cX11_values 26 = .ok (.iconst (-1), 1) := by decide +kernel
theorem dX11_values_27 : decode cX11_values 27 = .ok (.ireturn, 1) := by decide +kernel
theorem dX11_arm_0 : decode cX11_arm 0 = .ok (.aload_n 0, 1) := by decide +kernel
theorem dX11_arm_1 : decode cX11_arm 1 = .ok (.getfield 43, 3) := by decide +kernel
theorem dX11_arm_4 : decode cX11_arm 4 = .ok (.iload_n 1, 1) := by decide +kernel
theorem dX11_arm_5 : decode cX11_arm 5 = .ok (.invokevirtual 212, 3) := by decide +kernel
theorem dX11_arm_8 : decode cX11_arm 8 = .ok (.istore_n 3, 1) := by decide +kernel
theorem dX11_arm_9 : decode cX11_arm 9 = .ok (.iload_n 3, 1) := by decide +kernel
theorem dX11_arm_10 : decode cX11_arm 10 = .ok (.iconst (-1), 1) := by decide +kernel
theorem dX11_arm_11 : decode cX11_arm 11 = .ok (.if_icmp .ne 5, 3) := by decide +kernel
theorem dX11_arm_14 : decode cX11_arm 14 = .ok (.iconst (-1), 1) := by decide +kernel
theorem dX11_arm_15 : decode cX11_arm 15 = .ok (.ireturn, 1) := by decide +kernel
theorem dX11_fits_0 : decode cX11_fits 0 = .ok (.aload_n 0, 1) := by decide +kernel
theorem dX11_fits_1 : decode cX11_fits 1 = .ok (.getfield 43, 3) := by decide +kernel
theorem dX11_fits_4 : decode cX11_fits 4 = .ok (.iload_n 1, 1) := by decide +kernel
theorem dX11_fits_5 : decode cX11_fits 5 = .ok (.invokevirtual 212, 3) := by decide +kernel
theorem dX11_fits_8 : decode cX11_fits 8 = .ok (.istore 4, 2) := by decide +kernel
theorem dX11_fits_10 : decode cX11_fits 10 = .ok (.iload 4, 2) := by decide +kernel
theorem dX11_fits_12 : decode cX11_fits 12 = .ok (.iconst (-1), 1) := by decide +kernel
theorem dX11_fits_13 : decode cX11_fits 13 = .ok (.if_icmp .eq 18, 3) := by decide +kernel
theorem dX11_fits_31 : decode cX11_fits 31 = .ok (.iconst (-1), 1) := by decide +kernel
theorem dX11_fits_32 : decode cX11_fits 32 = .ok (.ireturn, 1) := by decide +kernel
theorem dX11_holds_0 : decode cX11_holds 0 = .ok (.aload_n 0, 1) := by decide +kernel
theorem dX11_holds_1 : decode cX11_holds 1 = .ok (.getfield 43, 3) := by decide +kernel
theorem dX11_holds_4 : decode cX11_holds 4 = .ok (.iload_n 1, 1) := by decide +kernel
theorem dX11_holds_5 : decode cX11_holds 5 = .ok (.invokevirtual 212, 3) := by decide +kernel
theorem dX11_holds_8 : decode cX11_holds 8 = .ok (.istore_n 3, 1) := by decide +kernel
theorem dX11_holds_9 : decode cX11_holds 9 = .ok (.aload_n 0, 1) := by decide +kernel
theorem dX11_holds_10 : decode cX11_holds 10 = .ok (.getfield 43, 3) := by decide +kernel
theorem dX11_holds_13 : decode cX11_holds 13 = .ok (.iload_n 2, 1) := by decide +kernel
theorem dX11_holds_14 : decode cX11_holds 14 = .ok (.invokevirtual 212, 3) := by decide +kernel
theorem dX11_holds_17 : decode cX11_holds 17 = .ok (.istore 4, 2) := by decide +kernel
theorem dX11_holds_19 : decode cX11_holds 19 = .ok (.iload_n 3, 1) := by decide +kernel
theorem dX11_holds_20 : decode cX11_holds 20 = .ok (.iconst (-1), 1) := by decide +kernel
theorem dX11_holds_21 : decode cX11_holds 21 = .ok (.if_icmp .eq 9, 3) := by decide +kernel
theorem dX11_holds_30 : decode cX11_holds 30 = .ok (.iconst (-1), 1) := by decide +kernel
theorem dX11_holds_31 : decode cX11_holds 31 = .ok (.ireturn, 1) := by decide +kernel
theorem dX11_missing_0 : decode cX11_missing 0 = .ok (.aload_n 0, 1) := by decide +kernel
theorem dX11_missing_1 : decode cX11_missing 1 = .ok (.invokevirtual 204, 3) := by decide +kernel
theorem dX11_missing_4 : decode cX11_missing 4 = .ok (.ifCond .eq 8, 3) := by decide +kernel
theorem dX11_missing_12 : decode cX11_missing 12 = .ok (.iconst (-1), 1) := by decide +kernel
theorem dX11_missing_13 : decode cX11_missing 13 = .ok (.ireturn, 1) := by decide +kernel
theorem dX11_taken_0 : decode cX11_taken 0 = .ok (.aload_n 0, 1) := by decide +kernel
theorem dX11_taken_1 : decode cX11_taken 1 = .ok (.getfield 71, 3) := by decide +kernel
theorem dX11_taken_4 : decode cX11_taken 4 = .ok (.iload_n 1, 1) := by decide +kernel
theorem dX11_taken_5 : decode cX11_taken 5 = .ok (.invokevirtual 258, 3) := by decide +kernel
theorem dX11_taken_8 : decode cX11_taken 8 = .ok (.ifCond .ne 5, 3) := by decide +kernel
theorem dX11_taken_11 : decode cX11_taken 11 = .ok (.iconst (-1), 1) := by decide +kernel
theorem dX11_taken_12 : decode cX11_taken 12 = .ok (.ireturn, 1) := by decide +kernel
theorem dX11_row_0 : decode cX11_row 0 = .ok (.aload_n 0, 1) := by decide +kernel
theorem dX11_row_1 : decode cX11_row 1 = .ok (.getfield 83, 3) := by decide +kernel
theorem dX11_row_4 : decode cX11_row 4 = .ok (.aload_n 0, 1) := by decide +kernel
theorem dX11_row_5 : decode cX11_row 5 = .ok (.getfield 14, 3) := by decide +kernel
theorem dX11_row_8 : decode cX11_row 8 = .ok (.aload_n 0, 1) := by decide +kernel
theorem dX11_row_9 : decode cX11_row 9 = .ok (.getfield 71, 3) := by decide +kernel
theorem dX11_row_12 : decode cX11_row 12 = .ok (.invokevirtual 261, 3) := by decide +kernel
theorem dX11_row_15 : decode cX11_row 15 = .ok (.istore_n 1, 1) := by decide +kernel
theorem dX11_row_16 : decode cX11_row 16 = .ok (.aload_n 0, 1) := by decide +kernel
theorem dX11_row_17 : decode cX11_row 17 = .ok (.getfield 14, 3) := by decide +kernel
theorem dX11_row_20 : decode cX11_row 20 = .ok (.iconst 0, 1) := by decide +kernel
theorem dX11_row_21 : decode cX11_row 21 = .ok (.putfield 100, 3) := by decide +kernel
theorem dX11_row_24 : decode cX11_row 24 = .ok (.iload_n 1, 1) := by decide +kernel
theorem dX11_row_25 : decode cX11_row 25 = .ok (.iconst (-1), 1) := by decide +kernel
theorem dX11_row_26 : decode cX11_row 26 = .ok (.if_icmp .ne 9, 3) := by decide +kernel
theorem dX11_row_29 : decode cX11_row 29 = .ok (.aload_n 0, 1) := by decide +kernel
theorem dX11_row_30 : decode cX11_row 30 = .ok (.iconst 1, 1) := by decide +kernel
theorem dX11_row_31 : decode cX11_row 31 = .ok (.invokevirtual 103, 3) := by decide +kernel
theorem dX11_row_34 : decode cX11_row 34 = .ok (.pop, 1) := by decide +kernel
theorem dX11_row_35 : decode cX11_row 35 = .ok (.iload_n 1, 1) := by decide +kernel
theorem dX11_row_36 : decode cX11_row 36 = .ok (.ireturn, 1) := by decide +kernel
theorem dX11_text_0 : decode cX11_text 0 = .ok (.aload_n 0, 1) := by decide +kernel
theorem dX11_text_1 : decode cX11_text 1 = .ok (.getfield 71, 3) := by decide +kernel
theorem dX11_text_4 : decode cX11_text 4 = .ok (.iload_n 1, 1) := by decide +kernel
theorem dX11_text_5 : decode cX11_text 5 = .ok (.invokevirtual 258, 3) := by decide +kernel
theorem dX11_text_8 : decode cX11_text 8 = .ok (.ifCond .ne 5, 3) := by decide +kernel
theorem dX11_text_11 : decode cX11_text 11 = .ok (.iconst (-1), 1) := by decide +kernel
theorem dX11_text_12 : decode cX11_text 12 = .ok (.ireturn, 1) := by decide +kernel
theorem dX11_octet_0 : decode cX11_octet 0 = .ok (.aload_n 0, 1) := by decide +kernel
theorem dX11_octet_1 : decode cX11_octet 1 = .ok (.getfield 18, 3) := by decide +kernel
theorem dX11_octet_4 : decode cX11_octet 4 = .ok (.iload_n 1, 1) := by decide +kernel
theorem dX11_octet_5 : decode cX11_octet 5 = .ok (.invokevirtual 300, 3) := by decide +kernel
theorem dX11_octet_8 : decode cX11_octet 8 = .ok (.ireturn, 1) := by decide +kernel
theorem dX11_tree_0 : decode cX11_tree 0 = .ok (.aload_n 0, 1) := by decide +kernel
theorem dX11_tree_1 : decode cX11_tree 1 = .ok (.invokevirtual 204, 3) := by decide +kernel
theorem dX11_tree_4 : decode cX11_tree 4 = .ok (.ifCond .eq 10, 3) := by decide +kernel
theorem dX11_tree_14 : decode cX11_tree 14 = .ok (.iconst (-1), 1) := by decide +kernel
theorem dX11_tree_15 : decode cX11_tree 15 = .ok (.ireturn, 1) := by decide +kernel
theorem dX11_first_0 : decode cX11_first 0 = .ok (.aload_n 0, 1) := by decide +kernel
theorem dX11_first_1 : decode cX11_first 1 = .ok (.invokevirtual 204, 3) := by decide +kernel
theorem dX11_first_4 : decode cX11_first 4 = .ok (.ifCond .eq 10, 3) := by decide +kernel
theorem dX11_first_14 : decode cX11_first 14 = .ok (.iconst (-1), 1) := by decide +kernel
theorem dX11_first_15 : decode cX11_first 15 = .ok (.ireturn, 1) := by decide +kernel
theorem dX11_scopes_0 : decode cX11_scopes 0 = .ok (.aload_n 0, 1) := by decide +kernel
theorem dX11_scopes_1 : decode cX11_scopes 1 = .ok (.invokevirtual 204, 3) := by decide +kernel
theorem dX11_scopes_4 : decode cX11_scopes 4 = .ok (.ifCond .eq 10, 3) := by decide +kernel
theorem dX11_scopes_14 : decode cX11_scopes 14 = .ok (.iconst (-1), 1) := by decide +kernel
theorem dX11_scopes_15 : decode cX11_scopes 15 = .ok (.ireturn, 1) := by decide +kernel
theorem dX11_safe_0 : decode cX11_safe 0 = .ok (.aload_n 0, 1) := by decide +kernel
theorem dX11_safe_1 : decode cX11_safe 1 = .ok (.getfield 43, 3) := by decide +kernel
theorem dX11_safe_4 : decode cX11_safe 4 = .ok (.iload_n 1, 1) := by decide +kernel
theorem dX11_safe_5 : decode cX11_safe 5 = .ok (.invokevirtual 344, 3) := by decide +kernel
theorem dX11_safe_8 : decode cX11_safe 8 = .ok (.ifCond .eq 14, 3) := by decide +kernel
theorem dX11_safe_22 : decode cX11_safe 22 = .ok (.iconst (-1), 1) := by decide +kernel
theorem dX11_safe_23 : decode cX11_safe 23 = .ok (.ireturn, 1) := by decide +kernel
theorem dX11_best_0 : decode cX11_best 0 = .ok (.aload_n 0, 1) := by decide +kernel
theorem dX11_best_1 : decode cX11_best 1 = .ok (.invokevirtual 204, 3) := by decide +kernel
theorem dX11_best_4 : decode cX11_best 4 = .ok (.ifCond .eq 12, 3) := by decide +kernel
theorem dX11_best_16 : decode cX11_best 16 = .ok (.iconst (-1), 1) := by decide +kernel
theorem dX11_best_17 : decode cX11_best 17 = .ok (.ireturn, 1) := by decide +kernel
theorem dX11_see_0 : decode cX11_see 0 = .ok (.aload_n 0, 1) := by decide +kernel
theorem dX11_see_1 : decode cX11_see 1 = .ok (.invokevirtual 204, 3) := by decide +kernel
theorem dX11_see_4 : decode cX11_see 4 = .ok (.ifCond .eq 29, 3) := by decide +kernel
theorem dX11_see_33 : decode cX11_see 33 = .ok (.iconst 0, 1) := by decide +kernel
theorem dX11_see_34 : decode cX11_see 34 = .ok (.istore_n 1, 1) := by decide +kernel
theorem dX11_see_35 : decode cX11_see 35 = .ok (.aload_n 0, 1) := by decide +kernel
theorem dX11_see_36 : decode cX11_see 36 = .ok (.getfield 14, 3) := by decide +kernel
theorem dX11_see_39 : decode cX11_see 39 = .ok (.iconst 0, 1) := by decide +kernel
theorem dX11_see_40 : decode cX11_see 40 = .ok (.putfield 100, 3) := by decide +kernel
theorem dX11_see_43 : decode cX11_see 43 = .ok (.iload_n 1, 1) := by decide +kernel
theorem dX11_see_44 : decode cX11_see 44 = .ok (.ifCond .ne 11, 3) := by decide +kernel
theorem dX11_see_47 : decode cX11_see 47 = .ok (.aload_n 0, 1) := by decide +kernel
theorem dX11_see_48 : decode cX11_see 48 = .ok (.iconst 5, 1) := by decide +kernel
theorem dX11_see_49 : decode cX11_see 49 = .ok (.invokevirtual 103, 3) := by decide +kernel
theorem dX11_see_52 : decode cX11_see 52 = .ok (.pop, 1) := by decide +kernel
theorem dX11_see_53 : decode cX11_see 53 = .ok (.iconst (-1), 1) := by decide +kernel
theorem dX11_see_54 : decode cX11_see 54 = .ok (.ireturn, 1) := by decide +kernel
theorem dX11_sets_0 : decode cX11_sets 0 = .ok (.aload_n 0, 1) := by decide +kernel
theorem dX11_sets_1 : decode cX11_sets 1 = .ok (.invokevirtual 204, 3) := by decide +kernel
theorem dX11_sets_4 : decode cX11_sets 4 = .ok (.ifCond .eq 8, 3) := by decide +kernel
theorem dX11_sets_12 : decode cX11_sets 12 = .ok (.iconst (-1), 1) := by decide +kernel
theorem dX11_sets_13 : decode cX11_sets 13 = .ok (.ireturn, 1) := by decide +kernel
theorem dX11_tells_0 : decode cX11_tells 0 = .ok (.aload_n 0, 1) := by decide +kernel
theorem dX11_tells_1 : decode cX11_tells 1 = .ok (.invokevirtual 204, 3) := by decide +kernel
theorem dX11_tells_4 : decode cX11_tells 4 = .ok (.ifCond .eq 12, 3) := by decide +kernel
theorem dX11_tells_16 : decode cX11_tells 16 = .ok (.iconst (-1), 1) := by decide +kernel
theorem dX11_tells_17 : decode cX11_tells 17 = .ok (.ireturn, 1) := by decide +kernel
theorem dX11_run_0 : decode cX11_run 0 = .ok (.aload_n 0, 1) := by decide +kernel
theorem dX11_run_1 : decode cX11_run 1 = .ok (.getfield 71, 3) := by decide +kernel
theorem dX11_run_4 : decode cX11_run 4 = .ok (.iload_n 1, 1) := by decide +kernel
theorem dX11_run_5 : decode cX11_run 5 = .ok (.invokevirtual 258, 3) := by decide +kernel
theorem dX11_run_8 : decode cX11_run 8 = .ok (.ifCond .ne 11, 3) := by decide +kernel
theorem dX11_run_11 : decode cX11_run 11 = .ok (.aload_n 0, 1) := by decide +kernel
theorem dX11_run_12 : decode cX11_run 12 = .ok (.iconst 2, 1) := by decide +kernel
theorem dX11_run_13 : decode cX11_run 13 = .ok (.invokevirtual 103, 3) := by decide +kernel
theorem dX11_run_16 : decode cX11_run 16 = .ok (.pop, 1) := by decide +kernel
theorem dX11_run_17 : decode cX11_run 17 = .ok (.iconst (-1), 1) := by decide +kernel
theorem dX11_run_18 : decode cX11_run 18 = .ok (.ireturn, 1) := by decide +kernel
theorem dX11_chance_0 : decode cX11_chance 0 = .ok (.aload_n 0, 1) := by decide +kernel
theorem dX11_chance_1 : decode cX11_chance 1 = .ok (.invokevirtual 204, 3) := by decide +kernel
theorem dX11_chance_4 : decode cX11_chance 4 = .ok (.ifCond .eq 14, 3) := by decide +kernel
theorem dX11_chance_18 : decode cX11_chance 18 = .ok (.aload_n 0, 1) := by decide +kernel
theorem dX11_chance_19 : decode cX11_chance 19 = .ok (.iconst 2, 1) := by decide +kernel
theorem dX11_chance_20 : decode cX11_chance 20 = .ok (.invokevirtual 103, 3) := by decide +kernel
theorem dX11_chance_23 : decode cX11_chance 23 = .ok (.pop, 1) := by decide +kernel
theorem dX11_chance_24 : decode cX11_chance 24 = .ok (.iconst (-1), 1) := by decide +kernel
theorem dX11_chance_25 : decode cX11_chance 25 = .ok (.ireturn, 1) := by decide +kernel
theorem dX11_swap_0 : decode cX11_swap 0 = .ok (.iload_n 1, 1) := by decide +kernel
theorem dX11_swap_1 : decode cX11_swap 1 = .ok (.iload_n 2, 1) := by decide +kernel
theorem dX11_swap_2 : decode cX11_swap 2 = .ok (.if_icmp .eq 25, 3) := by decide +kernel
theorem dX11_swap_5 : decode cX11_swap 5 = .ok (.aload_n 0, 1) := by decide +kernel
theorem dX11_swap_6 : decode cX11_swap 6 = .ok (.getfield 43, 3) := by decide +kernel
theorem dX11_swap_9 : decode cX11_swap 9 = .ok (.iload_n 1, 1) := by decide +kernel
theorem dX11_swap_10 : decode cX11_swap 10 = .ok (.invokevirtual 344, 3) := by decide +kernel
theorem dX11_swap_13 : decode cX11_swap 13 = .ok (.ifCond .eq 14, 3) := by decide +kernel
theorem dX11_swap_27 : decode cX11_swap 27 = .ok (.aload_n 0, 1) := by decide +kernel
theorem dX11_swap_28 : decode cX11_swap 28 = .ok (.iconst 3, 1) := by decide +kernel
theorem dX11_swap_29 : decode cX11_swap 29 = .ok (.invokevirtual 103, 3) := by decide +kernel
theorem dX11_swap_32 : decode cX11_swap 32 = .ok (.ireturn, 1) := by decide +kernel
theorem dX11_drop_0 : decode cX11_drop 0 = .ok (.aload_n 0, 1) := by decide +kernel
theorem dX11_drop_1 : decode cX11_drop 1 = .ok (.getfield 43, 3) := by decide +kernel
theorem dX11_drop_4 : decode cX11_drop 4 = .ok (.iload_n 1, 1) := by decide +kernel
theorem dX11_drop_5 : decode cX11_drop 5 = .ok (.invokevirtual 344, 3) := by decide +kernel
theorem dX11_drop_8 : decode cX11_drop 8 = .ok (.ifCond .ne 9, 3) := by decide +kernel
theorem dX11_drop_11 : decode cX11_drop 11 = .ok (.aload_n 0, 1) := by decide +kernel
theorem dX11_drop_12 : decode cX11_drop 12 = .ok (.iconst 3, 1) := by decide +kernel
theorem dX11_drop_13 : decode cX11_drop 13 = .ok (.invokevirtual 103, 3) := by decide +kernel
theorem dX11_drop_16 : decode cX11_drop 16 = .ok (.ireturn, 1) := by decide +kernel
theorem dX11_turn_0 : decode cX11_turn 0 = .ok (.aload_n 0, 1) := by decide +kernel
theorem dX11_turn_1 : decode cX11_turn 1 = .ok (.invokevirtual 204, 3) := by decide +kernel
theorem dX11_turn_4 : decode cX11_turn 4 = .ok (.ifCond .eq 13, 3) := by decide +kernel
theorem dX11_turn_17 : decode cX11_turn 17 = .ok (.aload_n 0, 1) := by decide +kernel
theorem dX11_turn_18 : decode cX11_turn 18 = .ok (.iconst 3, 1) := by decide +kernel
theorem dX11_turn_19 : decode cX11_turn 19 = .ok (.invokevirtual 103, 3) := by decide +kernel
theorem dX11_turn_22 : decode cX11_turn 22 = .ok (.pop, 1) := by decide +kernel
theorem dX11_turn_23 : decode cX11_turn 23 = .ok (.iconst (-1), 1) := by decide +kernel
theorem dX11_turn_24 : decode cX11_turn 24 = .ok (.ireturn, 1) := by decide +kernel
theorem dX11_choose_0 : decode cX11_choose 0 = .ok (.aload_n 0, 1) := by decide +kernel
theorem dX11_choose_1 : decode cX11_choose 1 = .ok (.invokevirtual 204, 3) := by decide +kernel
theorem dX11_choose_4 : decode cX11_choose 4 = .ok (.ifCond .eq 21, 3) := by decide +kernel
theorem dX11_choose_25 : decode cX11_choose 25 = .ok (.aload_n 0, 1) := by decide +kernel
theorem dX11_choose_26 : decode cX11_choose 26 = .ok (.iconst 3, 1) := by decide +kernel
theorem dX11_choose_27 : decode cX11_choose 27 = .ok (.invokevirtual 103, 3) := by decide +kernel
theorem dX11_choose_30 : decode cX11_choose 30 = .ok (.ireturn, 1) := by decide +kernel
theorem dX11_undo_0 : decode cX11_undo 0 = .ok (.aload_n 0, 1) := by decide +kernel
theorem dX11_undo_1 : decode cX11_undo 1 = .ok (.getfield 53, 3) := by decide +kernel
theorem dX11_undo_4 : decode cX11_undo 4 = .ok (.getfield 185, 3) := by decide +kernel
theorem dX11_undo_7 : decode cX11_undo 7 = .ok (.ifCond .ne 9, 3) := by decide +kernel
theorem dX11_undo_10 : decode cX11_undo 10 = .ok (.aload_n 0, 1) := by decide +kernel
theorem dX11_undo_11 : decode cX11_undo 11 = .ok (.iconst 4, 1) := by decide +kernel
theorem dX11_undo_12 : decode cX11_undo 12 = .ok (.invokevirtual 103, 3) := by decide +kernel
theorem dX11_undo_15 : decode cX11_undo 15 = .ok (.ireturn, 1) := by decide +kernel
theorem dX11_seed_0 : decode cX11_seed 0 = .ok (.iload_n 1, 1) := by decide +kernel
theorem dX11_seed_1 : decode cX11_seed 1 = .ok (.ifCond .ge 9, 3) := by decide +kernel
theorem dX11_seed_4 : decode cX11_seed 4 = .ok (.aload_n 0, 1) := by decide +kernel
theorem dX11_seed_5 : decode cX11_seed 5 = .ok (.iconst 5, 1) := by decide +kernel
theorem dX11_seed_6 : decode cX11_seed 6 = .ok (.invokevirtual 103, 3) := by decide +kernel
theorem dX11_seed_9 : decode cX11_seed 9 = .ok (.ireturn, 1) := by decide +kernel
theorem dX11_seed_10 : decode cX11_seed 10 = .ok (.aload_n 0, 1) := by decide +kernel
theorem dX11_seed_11 : decode cX11_seed 11 = .ok (.iload_n 1, 1) := by decide +kernel
theorem dX11_seed_12 : decode cX11_seed 12 = .ok (.putfield 96, 3) := by decide +kernel
theorem dX11_seed_15 : decode cX11_seed 15 = .ok (.iconst 1, 1) := by decide +kernel
theorem dX11_seed_16 : decode cX11_seed 16 = .ok (.ireturn, 1) := by decide +kernel
theorem dX11_kept_0 : decode cX11_kept 0 = .ok (.aload_n 0, 1) := by decide +kernel
theorem dX11_kept_1 : decode cX11_kept 1 = .ok (.getfield 53, 3) := by decide +kernel
theorem dX11_kept_4 : decode cX11_kept 4 = .ok (.iload_n 1, 1) := by decide +kernel
theorem dX11_kept_5 : decode cX11_kept 5 = .ok (.iload_n 2, 1) := by decide +kernel
theorem dX11_kept_6 : decode cX11_kept 6 = .ok (.invokevirtual 414, 3) := by decide +kernel
theorem dX11_kept_9 : decode cX11_kept 9 = .ok (.ireturn, 1) := by decide +kernel
theorem dX11_image_0 : decode cX11_image 0 = .ok (.aload_n 0, 1) := by decide +kernel
theorem dX11_image_1 : decode cX11_image 1 = .ok (.getfield 18, 3) := by decide +kernel
theorem dX11_image_4 : decode cX11_image 4 = .ok (.iconst 0, 1) := by decide +kernel
theorem dX11_image_5 : decode cX11_image 5 = .ok (.putfield 100, 3) := by decide +kernel
theorem dX11_image_8 : decode cX11_image 8 = .ok (.aload_n 0, 1) := by decide +kernel
theorem dX11_image_9 : decode cX11_image 9 = .ok (.getfield 18, 3) := by decide +kernel
theorem dX11_image_12 : decode cX11_image 12 = .ok (.aload_n 0, 1) := by decide +kernel
theorem dX11_image_13 : decode cX11_image 13 = .ok (.getfield 43, 3) := by decide +kernel
theorem dX11_image_16 : decode cX11_image 16 = .ok (.getfield 176, 3) := by decide +kernel
theorem dX11_image_19 : decode cX11_image 19 = .ok (.invokevirtual 264, 3) := by decide +kernel
theorem dX11_image_22 : decode cX11_image 22 = .ok (.iconst 0, 1) := by decide +kernel
theorem dX11_image_23 : decode cX11_image 23 = .ok (.istore_n 1, 1) := by decide +kernel
theorem dX11_image_24 : decode cX11_image 24 = .ok (.iload_n 1, 1) := by decide +kernel
theorem dX11_image_25 : decode cX11_image 25 = .ok (.aload_n 0, 1) := by decide +kernel
theorem dX11_image_26 : decode cX11_image 26 = .ok (.getfield 43, 3) := by decide +kernel
theorem dX11_image_29 : decode cX11_image 29 = .ok (.getfield 176, 3) := by decide +kernel
theorem dX11_image_32 : decode cX11_image 32 = .ok (.if_icmp .ge 25, 3) := by decide +kernel
theorem dX11_image_57 : decode cX11_image 57 = .ok (.aload_n 0, 1) := by decide +kernel
theorem dX11_image_58 : decode cX11_image 58 = .ok (.getfield 18, 3) := by decide +kernel
theorem dX11_image_61 : decode cX11_image 61 = .ok (.aload_n 0, 1) := by decide +kernel
theorem dX11_image_62 : decode cX11_image 62 = .ok (.getfield 43, 3) := by decide +kernel
theorem dX11_image_65 : decode cX11_image 65 = .ok (.getfield 177, 3) := by decide +kernel
theorem dX11_image_68 : decode cX11_image 68 = .ok (.invokevirtual 264, 3) := by decide +kernel
theorem dX11_image_71 : decode cX11_image 71 = .ok (.aload_n 0, 1) := by decide +kernel
theorem dX11_image_72 : decode cX11_image 72 = .ok (.getfield 18, 3) := by decide +kernel
theorem dX11_image_75 : decode cX11_image 75 = .ok (.aload_n 0, 1) := by decide +kernel
theorem dX11_image_76 : decode cX11_image 76 = .ok (.getfield 43, 3) := by decide +kernel
theorem dX11_image_79 : decode cX11_image 79 = .ok (.getfield 180, 3) := by decide +kernel
theorem dX11_image_82 : decode cX11_image 82 = .ok (.invokevirtual 264, 3) := by decide +kernel
theorem dX11_image_85 : decode cX11_image 85 = .ok (.aload_n 0, 1) := by decide +kernel
theorem dX11_image_86 : decode cX11_image 86 = .ok (.getfield 18, 3) := by decide +kernel
theorem dX11_image_89 : decode cX11_image 89 = .ok (.aload_n 0, 1) := by decide +kernel
theorem dX11_image_90 : decode cX11_image 90 = .ok (.getfield 18, 3) := by decide +kernel
theorem dX11_image_93 : decode cX11_image 93 = .ok (.aload_n 0, 1) := by decide +kernel
theorem dX11_image_94 : decode cX11_image 94 = .ok (.getfield 18, 3) := by decide +kernel
theorem dX11_image_97 : decode cX11_image 97 = .ok (.getfield 100, 3) := by decide +kernel
theorem dX11_image_100 : decode cX11_image 100 = .ok (.invokevirtual 420, 3) := by decide +kernel
theorem dX11_image_103 : decode cX11_image 103 = .ok (.invokevirtual 264, 3) := by decide +kernel
theorem dX11_image_106 : decode cX11_image 106 = .ok (.aload_n 0, 1) := by decide +kernel
theorem dX11_image_107 : decode cX11_image 107 = .ok (.getfield 18, 3) := by decide +kernel
theorem dX11_image_110 : decode cX11_image 110 = .ok (.getfield 100, 3) := by decide +kernel
theorem dX11_image_113 : decode cX11_image 113 = .ok (.ireturn, 1) := by decide +kernel
theorem dX11_on_0 : decode cX11_on 0 = .ok (.aload_n 0, 1) := by decide +kernel
theorem dX11_on_1 : decode cX11_on 1 = .ok (.invokevirtual 204, 3) := by decide +kernel
theorem dX11_on_4 : decode cX11_on 4 = .ok (.ifCond .eq 14, 3) := by decide +kernel
theorem dX11_on_18 : decode cX11_on 18 = .ok (.iconst 0, 1) := by decide +kernel
theorem dX11_on_19 : decode cX11_on 19 = .ok (.istore_n 1, 1) := by decide +kernel
theorem dX11_on_20 : decode cX11_on 20 = .ok (.iload_n 1, 1) := by decide +kernel
theorem dX11_on_21 : decode cX11_on 21 = .ok (.ifCond .eq 7, 3) := by decide +kernel
theorem dX11_on_28 : decode cX11_on 28 = .ok (.aload_n 0, 1) := by decide +kernel
theorem dX11_on_29 : decode cX11_on 29 = .ok (.getfield 14, 3) := by decide +kernel
theorem dX11_on_32 : decode cX11_on 32 = .ok (.iconst 0, 1) := by decide +kernel
theorem dX11_on_33 : decode cX11_on 33 = .ok (.putfield 100, 3) := by decide +kernel
theorem dX11_on_36 : decode cX11_on 36 = .ok (.iload_n 1, 1) := by decide +kernel
theorem dX11_on_37 : decode cX11_on 37 = .ok (.ifCond .ne 11, 3) := by decide +kernel
theorem dX11_on_40 : decode cX11_on 40 = .ok (.aload_n 0, 1) := by decide +kernel
theorem dX11_on_41 : decode cX11_on 41 = .ok (.iconst 5, 1) := by decide +kernel
theorem dX11_on_42 : decode cX11_on 42 = .ok (.invokevirtual 103, 3) := by decide +kernel
theorem dX11_on_45 : decode cX11_on 45 = .ok (.ifCond .eq 7, 3) := by decide +kernel
theorem dX11_on_52 : decode cX11_on 52 = .ok (.iconst 0, 1) := by decide +kernel
theorem dX11_on_53 : decode cX11_on 53 = .ok (.ireturn, 1) := by decide +kernel
theorem dX11_status_0 : decode cX11_status 0 = .ok (.iload_n 1, 1) := by decide +kernel
theorem dX11_status_1 : decode cX11_status 1 = .ok (.ifCond .lt 18, 3) := by decide +kernel
theorem dX11_status_4 : decode cX11_status 4 = .ok (.iload_n 1, 1) := by decide +kernel
theorem dX11_status_5 : decode cX11_status 5 = .ok (.bipush 6, 2) := by decide +kernel
theorem dX11_status_7 : decode cX11_status 7 = .ok (.if_icmp .ge 12, 3) := by decide +kernel
theorem dX11_status_10 : decode cX11_status 10 = .ok (.aload_n 0, 1) := by decide +kernel
theorem dX11_status_11 : decode cX11_status 11 = .ok (.getfield 64, 3) := by decide +kernel
theorem dX11_status_14 : decode cX11_status 14 = .ok (.iload_n 1, 1) := by decide +kernel
theorem dX11_status_15 : decode cX11_status 15 = .ok (.iaload, 1) := by decide +kernel
theorem dX11_status_16 : decode cX11_status 16 = .ok (.goto 4, 3) := by decide +kernel
theorem dX11_status_19 : decode cX11_status 19 = .ok (.iconst (-1), 1) := by decide +kernel
theorem dX11_status_20 : decode cX11_status 20 = .ok (.ireturn, 1) := by decide +kernel
theorem dX11_refuse_0 : decode cX11_refuse 0 = .ok (.iload_n 1, 1) := by decide +kernel
theorem dX11_refuse_1 : decode cX11_refuse 1 = .ok (.ifCond .lt 19, 3) := by decide +kernel
theorem dX11_refuse_4 : decode cX11_refuse 4 = .ok (.iload_n 1, 1) := by decide +kernel
theorem dX11_refuse_5 : decode cX11_refuse 5 = .ok (.bipush 6, 2) := by decide +kernel
theorem dX11_refuse_7 : decode cX11_refuse 7 = .ok (.if_icmp .ge 13, 3) := by decide +kernel
theorem dX11_refuse_10 : decode cX11_refuse 10 = .ok (.aload_n 0, 1) := by decide +kernel
theorem dX11_refuse_11 : decode cX11_refuse 11 = .ok (.getfield 64, 3) := by decide +kernel
theorem dX11_refuse_14 : decode cX11_refuse 14 = .ok (.iload_n 1, 1) := by decide +kernel
theorem dX11_refuse_15 : decode cX11_refuse 15 = .ok (.dup2, 1) := by decide +kernel
theorem dX11_refuse_16 : decode cX11_refuse 16 = .ok (.iaload, 1) := by decide +kernel
theorem dX11_refuse_17 : decode cX11_refuse 17 = .ok (.iconst 1, 1) := by decide +kernel
theorem dX11_refuse_18 : decode cX11_refuse 18 = .ok (.iadd, 1) := by decide +kernel
theorem dX11_refuse_19 : decode cX11_refuse 19 = .ok (.iastore, 1) := by decide +kernel
theorem dX11_refuse_20 : decode cX11_refuse 20 = .ok (.iconst 0, 1) := by decide +kernel
theorem dX11_refuse_21 : decode cX11_refuse 21 = .ok (.ireturn, 1) := by decide +kernel
theorem dX11_matched_0 : decode cX11_matched 0 = .ok (.aload_n 0, 1) := by decide +kernel
theorem dX11_matched_1 : decode cX11_matched 1 = .ok (.getfield 71, 3) := by decide +kernel
theorem dX11_matched_4 : decode cX11_matched 4 = .ok (.getfield 130, 3) := by decide +kernel
theorem dX11_matched_7 : decode cX11_matched 7 = .ok (.ifCond .le 7, 3) := by decide +kernel
theorem dX11_matched_14 : decode cX11_matched 14 = .ok (.iconst 0, 1) := by decide +kernel
theorem dX11_matched_15 : decode cX11_matched 15 = .ok (.ireturn, 1) := by decide +kernel
theorem dX12_init_0 : decode cX12_init 0 = .ok (.aload_n 0, 1) := by decide +kernel
theorem dX12_init_1 : decode cX12_init 1 = .ok (.invokespecial 1, 3) := by decide +kernel
theorem dX12_init_4 : decode cX12_init 4 = .ok (.aload_n 0, 1) := by decide +kernel
theorem dX12_init_5 : decode cX12_init 5 = .ok (.sipush 1800, 3) := by decide +kernel
theorem dX12_init_8 : decode cX12_init 8 = .ok (.newarray .int, 2) := by decide +kernel
theorem dX12_init_10 : decode cX12_init 10 = .ok (.putfield 7, 3) := by decide +kernel
theorem dX12_init_13 : decode cX12_init 13 = .ok (.aload_n 0, 1) := by decide +kernel
theorem dX12_init_14 : decode cX12_init 14 = .ok (.iconst 0, 1) := by decide +kernel
theorem dX12_init_15 : decode cX12_init 15 = .ok (.putfield 13, 3) := by decide +kernel
theorem dX12_init_18 : decode cX12_init 18 = .ok (.aload_n 0, 1) := by decide +kernel
theorem dX12_init_19 : decode cX12_init 19 = .ok (.iconst 0, 1) := by decide +kernel
theorem dX12_init_20 : decode cX12_init 20 = .ok (.putfield 17, 3) := by decide +kernel
theorem dX12_init_23 : decode cX12_init 23 = .ok (.aload_n 0, 1) := by decide +kernel
theorem dX12_init_24 : decode cX12_init 24 = .ok (.iconst 0, 1) := by decide +kernel
theorem dX12_init_25 : decode cX12_init 25 = .ok (.putfield 20, 3) := by decide +kernel
theorem dX12_init_28 : decode cX12_init 28 = .ok (.aload_n 0, 1) := by decide +kernel
theorem dX12_init_29 : decode cX12_init 29 = .ok (.iconst 0, 1) := by decide +kernel
theorem dX12_init_30 : decode cX12_init 30 = .ok (.putfield 23, 3) := by decide +kernel
theorem dX12_init_33 : decode cX12_init 33 = .ok (.aload_n 0, 1) := by decide +kernel
theorem dX12_init_34 : decode cX12_init 34 = .ok (.iconst 0, 1) := by decide +kernel
theorem dX12_init_35 : decode cX12_init 35 = .ok (.putfield 26, 3) := by decide +kernel
theorem dX12_init_38 : decode cX12_init 38 = .ok (.aload_n 0, 1) := by decide +kernel
theorem dX12_init_39 : decode cX12_init 39 = .ok (.iconst 0, 1) := by decide +kernel
theorem dX12_init_40 : decode cX12_init 40 = .ok (.putfield 29, 3) := by decide +kernel
theorem dX12_init_43 : decode cX12_init 43 = .ok (.aload_n 0, 1) := by decide +kernel
theorem dX12_init_44 : decode cX12_init 44 = .ok (.lconst 0, 1) := by decide +kernel
theorem dX12_init_45 : decode cX12_init 45 = .ok (.putfield 32, 3) := by decide +kernel
theorem dX12_init_48 : decode cX12_init 48 = .ok (.aload_n 0, 1) := by decide +kernel
theorem dX12_init_49 : decode cX12_init 49 = .ok (.iconst 0, 1) := by decide +kernel
theorem dX12_init_50 : decode cX12_init 50 = .ok (.putfield 36, 3) := by decide +kernel
theorem dX12_init_53 : decode cX12_init 53 = .ok (.aload_n 0, 1) := by decide +kernel
theorem dX12_init_54 : decode cX12_init 54 = .ok (.iconst (-1), 1) := by decide +kernel
theorem dX12_init_55 : decode cX12_init 55 = .ok (.putfield 39, 3) := by decide +kernel
theorem dX12_init_58 : decode cX12_init 58 = .ok (.aload_n 0, 1) := by decide +kernel
theorem dX12_init_59 : decode cX12_init 59 = .ok (.iconst 0, 1) := by decide +kernel
theorem dX12_init_60 : decode cX12_init 60 = .ok (.putfield 42, 3) := by decide +kernel
theorem dX12_init_63 : decode cX12_init 63 = .ok (.aload_n 0, 1) := by decide +kernel
theorem dX12_init_64 : decode cX12_init 64 = .ok (.iconst (-1), 1) := by decide +kernel
theorem dX12_init_65 : decode cX12_init 65 = .ok (.putfield 45, 3) := by decide +kernel
theorem dX12_init_68 : decode cX12_init 68 = .ok (.aload_n 0, 1) := by decide +kernel
theorem dX12_init_69 : decode cX12_init 69 = .ok (.iconst (-1), 1) := by decide +kernel
theorem dX12_init_70 : decode cX12_init 70 = .ok (.putfield 48, 3) := by decide +kernel
theorem dX12_init_73 : decode cX12_init 73 = .ok (.aload_n 0, 1) := by decide +kernel
theorem dX12_init_74 : decode cX12_init 74 = .ok (.iconst 0, 1) := by decide +kernel
theorem dX12_init_75 : decode cX12_init 75 = .ok (.putfield 51, 3) := by decide +kernel
theorem dX12_init_78 : decode cX12_init 78 = .ok (.aload_n 0, 1) := by decide +kernel
theorem dX12_init_79 : decode cX12_init 79 = .ok (.iconst 2, 1) := by decide +kernel
theorem dX12_init_80 : decode cX12_init 80 = .ok (.newarray .int, 2) := by decide +kernel
theorem dX12_init_82 : decode cX12_init 82 = .ok (.putfield 54, 3) := by decide +kernel
theorem dX12_init_85 : decode cX12_init 85 = .ok (.aload_n 0, 1) := by decide +kernel
theorem dX12_init_86 : decode cX12_init 86 = .ok (.bipush 10, 2) := by decide +kernel
theorem dX12_init_88 : decode cX12_init 88 = .ok (.newarray .int, 2) := by decide +kernel
theorem dX12_init_90 : decode cX12_init 90 = .ok (.putfield 57, 3) := by decide +kernel
end
section
theorem dX12_init_93 : decode cX12_init 93 = .ok (.aload_n 0, 1) := by decide +kernel
theorem dX12_init_94 : decode cX12_init 94 = .ok (.bipush 10, 2) := by decide +kernel
theorem dX12_init_96 : decode cX12_init 96 = .ok (.newarray .int, 2) := by decide +kernel
theorem dX12_init_98 : decode cX12_init 98 = .ok (.putfield 60, 3) := by decide +kernel
theorem dX12_init_101 : decode cX12_init 101 = .ok (.aload_n 0, 1) := by decide +kernel
theorem dX12_init_102 : decode cX12_init 102 = .ok (.iconst 2, 1) := by decide +kernel
theorem dX12_init_103 : decode cX12_init 103 = .ok (.newarray .int, 2) := by decide +kernel
theorem dX12_init_105 : decode cX12_init 105 = .ok (.putfield 63, 3) := by decide +kernel
theorem dX12_init_108 : decode cX12_init 108 = .ok (.aload_n 0, 1) := by decide +kernel
theorem dX12_init_109 : decode cX12_init 109 = .ok (.bipush 48, 2) := by decide +kernel
theorem dX12_init_111 : decode cX12_init 111 = .ok (.newarray .int, 2) := by decide +kernel
theorem dX12_init_113 : decode cX12_init 113 = .ok (.putfield 66, 3) := by decide +kernel
theorem dX12_init_116 : decode cX12_init 116 = .ok (.aload_n 0, 1) := by decide +kernel
theorem dX12_init_117 : decode cX12_init 117 = .ok (.bipush 48, 2) := by decide +kernel
theorem dX12_init_119 : decode cX12_init 119 = .ok (.newarray .int, 2) := by decide +kernel
theorem dX12_init_121 : decode cX12_init 121 = .ok (.putfield 69, 3) := by decide +kernel
theorem dX12_init_124 : decode cX12_init 124 = .ok (.aload_n 0, 1) := by decide +kernel
theorem dX12_init_125 : decode cX12_init 125 = .ok (.bipush 96, 2) := by decide +kernel
theorem dX12_init_127 : decode cX12_init 127 = .ok (.newarray .int, 2) := by decide +kernel
theorem dX12_init_129 : decode cX12_init 129 = .ok (.putfield 72, 3) := by decide +kernel
theorem dX12_init_132 : decode cX12_init 132 = .ok (.aload_n 0, 1) := by decide +kernel
theorem dX12_init_133 : decode cX12_init 133 = .ok (.bipush 48, 2) := by decide +kernel
theorem dX12_init_135 : decode cX12_init 135 = .ok (.newarray .int, 2) := by decide +kernel
theorem dX12_init_137 : decode cX12_init 137 = .ok (.putfield 75, 3) := by decide +kernel
theorem dX12_init_140 : decode cX12_init 140 = .ok (.aload_n 0, 1) := by decide +kernel
theorem dX12_init_141 : decode cX12_init 141 = .ok (.bipush 48, 2) := by decide +kernel
theorem dX12_init_143 : decode cX12_init 143 = .ok (.newarray .int, 2) := by decide +kernel
theorem dX12_init_145 : decode cX12_init 145 = .ok (.putfield 78, 3) := by decide +kernel
theorem dX12_init_148 : decode cX12_init 148 = .ok (.aload_n 0, 1) := by decide +kernel
theorem dX12_init_149 : decode cX12_init 149 = .ok (.iconst 2, 1) := by decide +kernel
theorem dX12_init_150 : decode cX12_init 150 = .ok (.newarray .int, 2) := by decide +kernel
theorem dX12_init_152 : decode cX12_init 152 = .ok (.putfield 81, 3) := by decide +kernel
theorem dX12_init_155 : decode cX12_init 155 = .ok (.aload_n 0, 1) := by decide +kernel
theorem dX12_init_156 : decode cX12_init 156 = .ok (.bipush 8, 2) := by decide +kernel
theorem dX12_init_158 : decode cX12_init 158 = .ok (.newarray .int, 2) := by decide +kernel
theorem dX12_init_160 : decode cX12_init 160 = .ok (.putfield 84, 3) := by decide +kernel
theorem dX12_init_163 : decode cX12_init 163 = .ok (.aload_n 0, 1) := by decide +kernel
theorem dX12_init_164 : decode cX12_init 164 = .ok (.iconst 2, 1) := by decide +kernel
theorem dX12_init_165 : decode cX12_init 165 = .ok (.newarray .int, 2) := by decide +kernel
theorem dX12_init_167 : decode cX12_init 167 = .ok (.putfield 87, 3) := by decide +kernel
theorem dX12_init_170 : decode cX12_init 170 = .ok (.aload_n 0, 1) := by decide +kernel
theorem dX12_init_171 : decode cX12_init 171 = .ok (.bipush 24, 2) := by decide +kernel
theorem dX12_init_173 : decode cX12_init 173 = .ok (.newarray .int, 2) := by decide +kernel
theorem dX12_init_175 : decode cX12_init 175 = .ok (.putfield 90, 3) := by decide +kernel
theorem dX12_init_178 : decode cX12_init 178 = .ok (.aload_n 0, 1) := by decide +kernel
theorem dX12_init_179 : decode cX12_init 179 = .ok (.iconst 2, 1) := by decide +kernel
theorem dX12_init_180 : decode cX12_init 180 = .ok (.newarray .int, 2) := by decide +kernel
theorem dX12_init_182 : decode cX12_init 182 = .ok (.putfield 93, 3) := by decide +kernel
theorem dX12_init_185 : decode cX12_init 185 = .ok (.aload_n 0, 1) := by decide +kernel
theorem dX12_init_186 : decode cX12_init 186 = .ok (.iconst 2, 1) := by decide +kernel
theorem dX12_init_187 : decode cX12_init 187 = .ok (.newarray .int, 2) := by decide +kernel
theorem dX12_init_189 : decode cX12_init 189 = .ok (.putfield 96, 3) := by decide +kernel
theorem dX12_init_192 : decode cX12_init 192 = .ok (.aload_n 0, 1) := by decide +kernel
theorem dX12_init_193 : decode cX12_init 193 = .ok (.bipush 96, 2) := by decide +kernel
theorem dX12_init_195 : decode cX12_init 195 = .ok (.newarray .int, 2) := by decide +kernel
theorem dX12_init_197 : decode cX12_init 197 = .ok (.putfield 99, 3) := by decide +kernel
theorem dX12_init_200 : decode cX12_init 200 = .ok (.aload_n 0, 1) := by decide +kernel
theorem dX12_init_201 : decode cX12_init 201 = .ok (.bipush 96, 2) := by decide +kernel
theorem dX12_init_203 : decode cX12_init 203 = .ok (.newarray .int, 2) := by decide +kernel
theorem dX12_init_205 : decode cX12_init 205 = .ok (.putfield 102, 3) := by decide +kernel
theorem dX12_init_208 : decode cX12_init 208 = .ok (.aload_n 0, 1) := by decide +kernel
theorem dX12_init_209 : decode cX12_init 209 = .ok (.sipush 5600, 3) := by decide +kernel
theorem dX12_init_212 : decode cX12_init 212 = .ok (.newarray .int, 2) := by decide +kernel
theorem dX12_init_214 : decode cX12_init 214 = .ok (.putfield 105, 3) := by decide +kernel
theorem dX12_init_217 : decode cX12_init 217 = .ok (.aload_n 0, 1) := by decide +kernel
theorem dX12_init_218 : decode cX12_init 218 = .ok (.sipush 5600, 3) := by decide +kernel
theorem dX12_init_221 : decode cX12_init 221 = .ok (.newarray .int, 2) := by decide +kernel
theorem dX12_init_223 : decode cX12_init 223 = .ok (.putfield 108, 3) := by decide +kernel
theorem dX12_init_226 : decode cX12_init 226 = .ok (.aload_n 0, 1) := by decide +kernel
theorem dX12_init_227 : decode cX12_init 227 = .ok (.sipush 5600, 3) := by decide +kernel
theorem dX12_init_230 : decode cX12_init 230 = .ok (.newarray .int, 2) := by decide +kernel
theorem dX12_init_232 : decode cX12_init 232 = .ok (.putfield 111, 3) := by decide +kernel
theorem dX12_init_235 : decode cX12_init 235 = .ok (.aload_n 0, 1) := by decide +kernel
theorem dX12_init_236 : decode cX12_init 236 = .ok (.bipush 8, 2) := by decide +kernel
theorem dX12_init_238 : decode cX12_init 238 = .ok (.newarray .long, 2) := by decide +kernel
theorem dX12_init_240 : decode cX12_init 240 = .ok (.putfield 114, 3) := by decide +kernel
theorem dX12_init_243 : decode cX12_init 243 = .ok (.aload_n 0, 1) := by decide +kernel
theorem dX12_init_244 : decode cX12_init 244 = .ok (.bipush 48, 2) := by decide +kernel
theorem dX12_init_246 : decode cX12_init 246 = .ok (.newarray .long, 2) := by decide +kernel
theorem dX12_init_248 : decode cX12_init 248 = .ok (.putfield 118, 3) := by decide +kernel
theorem dX12_init_251 : decode cX12_init 251 = .ok (.aload_n 0, 1) := by decide +kernel
theorem dX12_init_252 : decode cX12_init 252 = .ok (.iconst 0, 1) := by decide +kernel
theorem dX12_init_253 : decode cX12_init 253 = .ok (.putfield 121, 3) := by decide +kernel
theorem dX12_init_256 : decode cX12_init 256 = .ok (.aload_n 0, 1) := by decide +kernel
theorem dX12_init_257 : decode cX12_init 257 = .ok (.iconst 1, 1) := by decide +kernel
theorem dX12_init_258 : decode cX12_init 258 = .ok (.putfield 124, 3) := by decide +kernel
theorem dX12_init_261 : decode cX12_init 261 = .ok (.aload_n 0, 1) := by decide +kernel
theorem dX12_init_262 : decode cX12_init 262 = .ok (.iconst 0, 1) := by decide +kernel
theorem dX12_init_263 : decode cX12_init 263 = .ok (.putfield 127, 3) := by decide +kernel
theorem dX12_init_266 : decode cX12_init 266 = .ok (.aload_n 0, 1) := by decide +kernel
theorem dX12_init_267 : decode cX12_init 267 = .ok (.bipush 10, 2) := by decide +kernel
theorem dX12_init_269 : decode cX12_init 269 = .ok (.newarray .int, 2) := by decide +kernel
theorem dX12_init_271 : decode cX12_init 271 = .ok (.putfield 131, 3) := by decide +kernel
theorem dX12_init_274 : decode cX12_init 274 = .ok (.aload_n 0, 1) := by decide +kernel
theorem dX12_init_275 : decode cX12_init 275 = .ok (.bipush 10, 2) := by decide +kernel
theorem dX12_init_277 : decode cX12_init 277 = .ok (.newarray .int, 2) := by decide +kernel
theorem dX12_init_279 : decode cX12_init 279 = .ok (.putfield 134, 3) := by decide +kernel
theorem dX12_init_282 : decode cX12_init 282 = .ok (.aload_n 0, 1) := by decide +kernel
theorem dX12_init_283 : decode cX12_init 283 = .ok (.bipush 10, 2) := by decide +kernel
theorem dX12_init_285 : decode cX12_init 285 = .ok (.newarray .int, 2) := by decide +kernel
theorem dX12_init_287 : decode cX12_init 287 = .ok (.putfield 137, 3) := by decide +kernel
theorem dX12_init_290 : decode cX12_init 290 = .ok (.aload_n 0, 1) := by decide +kernel
theorem dX12_init_291 : decode cX12_init 291 = .ok (.bipush 10, 2) := by decide +kernel
theorem dX12_init_293 : decode cX12_init 293 = .ok (.newarray .int, 2) := by decide +kernel
theorem dX12_init_295 : decode cX12_init 295 = .ok (.putfield 140, 3) := by decide +kernel
theorem dX12_init_298 : decode cX12_init 298 = .ok (.aload_n 0, 1) := by decide +kernel
theorem dX12_init_299 : decode cX12_init 299 = .ok (.iconst 0, 1) := by decide +kernel
theorem dX12_init_300 : decode cX12_init 300 = .ok (.putfield 143, 3) := by decide +kernel
theorem dX12_init_303 : decode cX12_init 303 = .ok (.aload_n 0, 1) := by decide +kernel
theorem dX12_init_304 : decode cX12_init 304 = .ok (.iconst 0, 1) := by decide +kernel
theorem dX12_init_305 : decode cX12_init 305 = .ok (.putfield 146, 3) := by decide +kernel
theorem dX12_init_308 : decode cX12_init 308 = .ok (.aload_n 0, 1) := by decide +kernel
theorem dX12_init_309 : decode cX12_init 309 = .ok (.bipush 6, 2) := by decide +kernel
theorem dX12_init_311 : decode cX12_init 311 = .ok (.newarray .int, 2) := by decide +kernel
theorem dX12_init_313 : decode cX12_init 313 = .ok (.putfield 149, 3) := by decide +kernel
theorem dX12_init_316 : decode cX12_init 316 = .ok (.aload_n 0, 1) := by decide +kernel
theorem dX12_init_317 : decode cX12_init 317 = .ok (.bipush 12, 2) := by decide +kernel
theorem dX12_init_319 : decode cX12_init 319 = .ok (.newarray .int, 2) := by decide +kernel
theorem dX12_init_321 : decode cX12_init 321 = .ok (.putfield 152, 3) := by decide +kernel
theorem dX12_init_324 : decode cX12_init 324 = .ok (.aload_n 0, 1) := by decide +kernel
theorem dX12_init_325 : decode cX12_init 325 = .ok (.sipush 900, 3) := by decide +kernel
theorem dX12_init_328 : decode cX12_init 328 = .ok (.newarray .int, 2) := by decide +kernel
theorem dX12_init_330 : decode cX12_init 330 = .ok (.putfield 155, 3) := by decide +kernel
theorem dX12_init_333 : decode cX12_init 333 = .ok (.aload_n 0, 1) := by decide +kernel
theorem dX12_init_334 : decode cX12_init 334 = .ok (.sipush 8040, 3) := by decide +kernel
theorem dX12_init_337 : decode cX12_init 337 = .ok (.newarray .int, 2) := by decide +kernel
theorem dX12_init_339 : decode cX12_init 339 = .ok (.putfield 158, 3) := by decide +kernel
theorem dX12_init_342 : decode cX12_init 342 = .ok (.aload_n 0, 1) := by decide +kernel
theorem dX12_init_343 : decode cX12_init 343 = .ok (.sipush 8040, 3) := by decide +kernel
theorem dX12_init_346 : decode cX12_init 346 = .ok (.newarray .int, 2) := by decide +kernel
theorem dX12_init_348 : decode cX12_init 348 = .ok (.putfield 161, 3) := by decide +kernel
theorem dX12_init_351 : decode cX12_init 351 = .ok (.aload_n 0, 1) := by decide +kernel
theorem dX12_init_352 : decode cX12_init 352 = .ok (.iconst 4, 1) := by decide +kernel
theorem dX12_init_353 : decode cX12_init 353 = .ok (.newarray .int, 2) := by decide +kernel
theorem dX12_init_355 : decode cX12_init 355 = .ok (.putfield 164, 3) := by decide +kernel
theorem dX12_init_358 : decode cX12_init 358 = .ok (.aload_n 0, 1) := by decide +kernel
theorem dX12_init_359 : decode cX12_init 359 = .ok (.sipush 4096, 3) := by decide +kernel
theorem dX12_init_362 : decode cX12_init 362 = .ok (.newarray .int, 2) := by decide +kernel
theorem dX12_init_364 : decode cX12_init 364 = .ok (.putfield 167, 3) := by decide +kernel
theorem dX12_init_367 : decode cX12_init 367 = .ok (.aload_n 0, 1) := by decide +kernel
theorem dX12_init_368 : decode cX12_init 368 = .ok (.iconst 0, 1) := by decide +kernel
theorem dX12_init_369 : decode cX12_init 369 = .ok (.putfield 170, 3) := by decide +kernel
theorem dX12_init_372 : decode cX12_init 372 = .ok (.aload_n 0, 1) := by decide +kernel
theorem dX12_init_373 : decode cX12_init 373 = .ok (.bipush 22, 2) := by decide +kernel
theorem dX12_init_375 : decode cX12_init 375 = .ok (.newarray .int, 2) := by decide +kernel
theorem dX12_init_377 : decode cX12_init 377 = .ok (.putfield 173, 3) := by decide +kernel
theorem dX12_init_380 : decode cX12_init 380 = .ok (.aload_n 0, 1) := by decide +kernel
theorem dX12_init_381 : decode cX12_init 381 = .ok (.sipush 264, 3) := by decide +kernel
theorem dX12_init_384 : decode cX12_init 384 = .ok (.newarray .int, 2) := by decide +kernel
theorem dX12_init_386 : decode cX12_init 386 = .ok (.putfield 176, 3) := by decide +kernel
theorem dX12_init_389 : decode cX12_init 389 = .ok (.aload_n 0, 1) := by decide +kernel
theorem dX12_init_390 : decode cX12_init 390 = .ok (.bipush 22, 2) := by decide +kernel
theorem dX12_init_392 : decode cX12_init 392 = .ok (.newarray .int, 2) := by decide +kernel
theorem dX12_init_394 : decode cX12_init 394 = .ok (.putfield 179, 3) := by decide +kernel
theorem dX12_init_397 : decode cX12_init 397 = .ok (.aload_n 0, 1) := by decide +kernel
theorem dX12_init_398 : decode cX12_init 398 = .ok (.bipush 22, 2) := by decide +kernel
theorem dX12_init_400 : decode cX12_init 400 = .ok (.newarray .int, 2) := by decide +kernel
theorem dX12_init_402 : decode cX12_init 402 = .ok (.putfield 182, 3) := by decide +kernel
theorem dX12_init_405 : decode cX12_init 405 = .ok (.aload_n 0, 1) := by decide +kernel
theorem dX12_init_406 : decode cX12_init 406 = .ok (.bipush 22, 2) := by decide +kernel
theorem dX12_init_408 : decode cX12_init 408 = .ok (.newarray .int, 2) := by decide +kernel
theorem dX12_init_410 : decode cX12_init 410 = .ok (.putfield 185, 3) := by decide +kernel
theorem dX12_init_413 : decode cX12_init 413 = .ok (.aload_n 0, 1) := by decide +kernel
theorem dX12_init_414 : decode cX12_init 414 = .ok (.sipush 2640, 3) := by decide +kernel
theorem dX12_init_417 : decode cX12_init 417 = .ok (.newarray .int, 2) := by decide +kernel
theorem dX12_init_419 : decode cX12_init 419 = .ok (.putfield 188, 3) := by decide +kernel
theorem dX12_init_422 : decode cX12_init 422 = .ok (.aload_n 0, 1) := by decide +kernel
theorem dX12_init_423 : decode cX12_init 423 = .ok (.iconst 0, 1) := by decide +kernel
theorem dX12_init_424 : decode cX12_init 424 = .ok (.putfield 191, 3) := by decide +kernel
theorem dX12_init_427 : decode cX12_init 427 = .ok (.aload_n 0, 1) := by decide +kernel
theorem dX12_init_428 : decode cX12_init 428 = .ok (.iconst 0, 1) := by decide +kernel
theorem dX12_init_429 : decode cX12_init 429 = .ok (.putfield 194, 3) := by decide +kernel
theorem dX12_init_432 : decode cX12_init 432 = .ok (.aload_n 0, 1) := by decide +kernel
theorem dX12_init_433 : decode cX12_init 433 = .ok (.lconst 1, 1) := by decide +kernel
theorem dX12_init_434 : decode cX12_init 434 = .ok (.putfield 197, 3) := by decide +kernel
theorem dX12_init_437 : decode cX12_init 437 = .ok (.aload_n 0, 1) := by decide +kernel
theorem dX12_init_438 : decode cX12_init 438 = .ok (.iconst 0, 1) := by decide +kernel
theorem dX12_init_439 : decode cX12_init 439 = .ok (.putfield 200, 3) := by decide +kernel
theorem dX12_init_442 : decode cX12_init 442 = .ok (.aload_n 0, 1) := by decide +kernel
theorem dX12_init_443 : decode cX12_init 443 = .ok (.sipush 8040, 3) := by decide +kernel
theorem dX12_init_446 : decode cX12_init 446 = .ok (.newarray .int, 2) := by decide +kernel
theorem dX12_init_448 : decode cX12_init 448 = .ok (.putfield 203, 3) := by decide +kernel
theorem dX12_init_451 : decode cX12_init 451 = .ok (.aload_n 0, 1) := by decide +kernel
theorem dX12_init_452 : decode cX12_init 452 = .ok (.iconst 4, 1) := by decide +kernel
theorem dX12_init_453 : decode cX12_init 453 = .ok (.newarray .int, 2) := by decide +kernel
theorem dX12_init_455 : decode cX12_init 455 = .ok (.putfield 206, 3) := by decide +kernel
theorem dX12_init_458 : decode cX12_init 458 = .ok (.aload_n 0, 1) := by decide +kernel
theorem dX12_init_459 : decode cX12_init 459 = .ok (.bipush 12, 2) := by decide +kernel
theorem dX12_init_461 : decode cX12_init 461 = .ok (.newarray .int, 2) := by decide +kernel
theorem dX12_init_463 : decode cX12_init 463 = .ok (.putfield 209, 3) := by decide +kernel
theorem dX12_init_466 : decode cX12_init 466 = .ok (.aload_n 0, 1) := by decide +kernel
theorem dX12_init_467 : decode cX12_init 467 = .ok (.iconst 0, 1) := by decide +kernel
theorem dX12_init_468 : decode cX12_init 468 = .ok (.putfield 212, 3) := by decide +kernel
theorem dX12_init_471 : decode cX12_init 471 = .ok (.aload_n 0, 1) := by decide +kernel
theorem dX12_init_472 : decode cX12_init 472 = .ok (.iconst 4, 1) := by decide +kernel
theorem dX12_init_473 : decode cX12_init 473 = .ok (.newarray .int, 2) := by decide +kernel
theorem dX12_init_475 : decode cX12_init 475 = .ok (.putfield 215, 3) := by decide +kernel
theorem dX12_init_478 : decode cX12_init 478 = .ok (.aload_n 0, 1) := by decide +kernel
theorem dX12_init_479 : decode cX12_init 479 = .ok (.sipush 4096, 3) := by decide +kernel
theorem dX12_init_482 : decode cX12_init 482 = .ok (.newarray .int, 2) := by decide +kernel
theorem dX12_init_484 : decode cX12_init 484 = .ok (.putfield 218, 3) := by decide +kernel
theorem dX12_init_487 : decode cX12_init 487 = .ok (.aload_n 0, 1) := by decide +kernel
theorem dX12_init_488 : decode cX12_init 488 = .ok (.sipush 1800, 3) := by decide +kernel
theorem dX12_init_491 : decode cX12_init 491 = .ok (.newarray .int, 2) := by decide +kernel
theorem dX12_init_493 : decode cX12_init 493 = .ok (.putfield 221, 3) := by decide +kernel
theorem dX12_init_496 : decode cX12_init 496 = .ok (.aload_n 0, 1) := by decide +kernel
theorem dX12_init_497 : decode cX12_init 497 = .ok (.iconst 0, 1) := by decide +kernel
theorem dX12_init_498 : decode cX12_init 498 = .ok (.putfield 224, 3) := by decide +kernel
theorem dX12_init_501 : decode cX12_init 501 = .ok (.aload_n 0, 1) := by decide +kernel
theorem dX12_init_502 : decode cX12_init 502 = .ok (.bipush 40, 2) := by decide +kernel
theorem dX12_init_504 : decode cX12_init 504 = .ok (.newarray .int, 2) := by decide +kernel
theorem dX12_init_506 : decode cX12_init 506 = .ok (.putfield 227, 3) := by decide +kernel
theorem dX12_init_509 : decode cX12_init 509 = .ok (.aload_n 0, 1) := by decide +kernel
theorem dX12_init_510 : decode cX12_init 510 = .ok (.bipush 40, 2) := by decide +kernel
theorem dX12_init_512 : decode cX12_init 512 = .ok (.newarray .int, 2) := by decide +kernel
theorem dX12_init_514 : decode cX12_init 514 = .ok (.putfield 230, 3) := by decide +kernel
theorem dX12_init_517 : decode cX12_init 517 = .ok (.aload_n 0, 1) := by decide +kernel
theorem dX12_init_518 : decode cX12_init 518 = .ok (.iconst 0, 1) := by decide +kernel
theorem dX12_init_519 : decode cX12_init 519 = .ok (.putfield 233, 3) := by decide +kernel
theorem dX12_init_522 : decode cX12_init 522 = .ok (.aload_n 0, 1) := by decide +kernel
theorem dX12_init_523 : decode cX12_init 523 = .ok (.iconst 0, 1) := by decide +kernel
theorem dX12_init_524 : decode cX12_init 524 = .ok (.putfield 236, 3) := by decide +kernel
theorem dX12_init_527 : decode cX12_init 527 = .ok (.aload_n 0, 1) := by decide +kernel
theorem dX12_init_528 : decode cX12_init 528 = .ok (.ldc 239, 2) := by decide +kernel
theorem dX12_init_530 : decode cX12_init 530 = .ok (.newarray .int, 2) := by decide +kernel
theorem dX12_init_532 : decode cX12_init 532 = .ok (.putfield 240, 3) := by decide +kernel
theorem dX12_init_535 : decode cX12_init 535 = .ok (.aload_n 0, 1) := by decide +kernel
theorem dX12_init_536 : decode cX12_init 536 = .ok (.iconst 0, 1) := by decide +kernel
theorem dX12_init_537 : decode cX12_init 537 = .ok (.putfield 243, 3) := by decide +kernel
theorem dX12_init_540 : decode cX12_init 540 = .ok (.aload_n 0, 1) := by decide +kernel
theorem dX12_init_541 : decode cX12_init 541 = .ok (.sipush 4096, 3) := by decide +kernel
theorem dX12_init_544 : decode cX12_init 544 = .ok (.newarray .int, 2) := by decide +kernel
theorem dX12_init_546 : decode cX12_init 546 = .ok (.putfield 246, 3) := by decide +kernel
theorem dX12_init_549 : decode cX12_init 549 = .ok (.aload_n 0, 1) := by decide +kernel
theorem dX12_init_550 : decode cX12_init 550 = .ok (.iconst 0, 1) := by decide +kernel
theorem dX12_init_551 : decode cX12_init 551 = .ok (.putfield 249, 3) := by decide +kernel
theorem dX12_init_554 : decode cX12_init 554 = .ok (.aload_n 0, 1) := by decide +kernel
theorem dX12_init_555 : decode cX12_init 555 = .ok (.ldc 239, 2) := by decide +kernel
theorem dX12_init_557 : decode cX12_init 557 = .ok (.newarray .int, 2) := by decide +kernel
theorem dX12_init_559 : decode cX12_init 559 = .ok (.putfield 252, 3) := by decide +kernel
theorem dX12_init_562 : decode cX12_init 562 = .ok (.aload_n 0, 1) := by decide +kernel
theorem dX12_init_563 : decode cX12_init 563 = .ok (.ldc 239, 2) := by decide +kernel
theorem dX12_init_565 : decode cX12_init 565 = .ok (.newarray .int, 2) := by decide +kernel
theorem dX12_init_567 : decode cX12_init 567 = .ok (.putfield 255, 3) := by decide +kernel
theorem dX12_init_570 : decode cX12_init 570 = .ok (.aload_n 0, 1) := by decide +kernel
theorem dX12_init_571 : decode cX12_init 571 = .ok (.iconst 0, 1) := by decide +kernel
theorem dX12_init_572 : decode cX12_init 572 = .ok (.putfield 258, 3) := by decide +kernel
theorem dX12_init_575 : decode cX12_init 575 = .ok (.aload_n 0, 1) := by decide +kernel
theorem dX12_init_576 : decode cX12_init 576 = .ok (.ldc 239, 2) := by decide +kernel
theorem dX12_init_578 : decode cX12_init 578 = .ok (.newarray .int, 2) := by decide +kernel
theorem dX12_init_580 : decode cX12_init 580 = .ok (.putfield 261, 3) := by decide +kernel
theorem dX12_init_583 : decode cX12_init 583 = .ok (.aload_n 0, 1) := by decide +kernel
theorem dX12_init_584 : decode cX12_init 584 = .ok (.bipush 40, 2) := by decide +kernel
theorem dX12_init_586 : decode cX12_init 586 = .ok (.newarray .int, 2) := by decide +kernel
theorem dX12_init_588 : decode cX12_init 588 = .ok (.putfield 264, 3) := by decide +kernel
theorem dX12_init_591 : decode cX12_init 591 = .ok (.aload_n 0, 1) := by decide +kernel
theorem dX12_init_592 : decode cX12_init 592 = .ok (.bipush 40, 2) := by decide +kernel
theorem dX12_init_594 : decode cX12_init 594 = .ok (.newarray .int, 2) := by decide +kernel
theorem dX12_init_596 : decode cX12_init 596 = .ok (.putfield 267, 3) := by decide +kernel
theorem dX12_init_599 : decode cX12_init 599 = .ok (.aload_n 0, 1) := by decide +kernel
theorem dX12_init_600 : decode cX12_init 600 = .ok (.bipush 40, 2) := by decide +kernel
theorem dX12_init_602 : decode cX12_init 602 = .ok (.newarray .int, 2) := by decide +kernel
theorem dX12_init_604 : decode cX12_init 604 = .ok (.putfield 270, 3) := by decide +kernel
theorem dX12_init_607 : decode cX12_init 607 = .ok (.aload_n 0, 1) := by decide +kernel
theorem dX12_init_608 : decode cX12_init 608 = .ok (.sipush 1000, 3) := by decide +kernel
theorem dX12_init_611 : decode cX12_init 611 = .ok (.newarray .int, 2) := by decide +kernel
theorem dX12_init_613 : decode cX12_init 613 = .ok (.putfield 273, 3) := by decide +kernel
theorem dX12_init_616 : decode cX12_init 616 = .ok (.aload_n 0, 1) := by decide +kernel
theorem dX12_init_617 : decode cX12_init 617 = .ok (.iconst 0, 1) := by decide +kernel
theorem dX12_init_618 : decode cX12_init 618 = .ok (.putfield 276, 3) := by decide +kernel
theorem dX12_init_621 : decode cX12_init 621 = .ok (.aload_n 0, 1) := by decide +kernel
theorem dX12_init_622 : decode cX12_init 622 = .ok (.iconst 0, 1) := by decide +kernel
theorem dX12_init_623 : decode cX12_init 623 = .ok (.putfield 279, 3) := by decide +kernel
theorem dX12_init_626 : decode cX12_init 626 = .ok (.aload_n 0, 1) := by decide +kernel
theorem dX12_init_627 : decode cX12_init 627 = .ok (.iconst 0, 1) := by decide +kernel
theorem dX12_init_628 : decode cX12_init 628 = .ok (.putfield 282, 3) := by decide +kernel
theorem dX12_init_631 : decode cX12_init 631 = .ok (.aload_n 0, 1) := by decide +kernel
theorem dX12_init_632 : decode cX12_init 632 = .ok (.iconst 0, 1) := by decide +kernel
theorem dX12_init_633 : decode cX12_init 633 = .ok (.putfield 285, 3) := by decide +kernel
theorem dX12_init_636 : decode cX12_init 636 = .ok (.aload_n 0, 1) := by decide +kernel
theorem dX12_init_637 : decode cX12_init 637 = .ok (.bipush 12, 2) := by decide +kernel
theorem dX12_init_639 : decode cX12_init 639 = .ok (.newarray .int, 2) := by decide +kernel
theorem dX12_init_641 : decode cX12_init 641 = .ok (.putfield 288, 3) := by decide +kernel
theorem dX12_init_644 : decode cX12_init 644 = .ok (.aload_n 0, 1) := by decide +kernel
theorem dX12_init_645 : decode cX12_init 645 = .ok (.iconst 0, 1) := by decide +kernel
theorem dX12_init_646 : decode cX12_init 646 = .ok (.putfield 291, 3) := by decide +kernel
theorem dX12_init_649 : decode cX12_init 649 = .ok (.aload_n 0, 1) := by decide +kernel
theorem dX12_init_650 : decode cX12_init 650 = .ok (.bipush 16, 2) := by decide +kernel
theorem dX12_init_652 : decode cX12_init 652 = .ok (.newarray .int, 2) := by decide +kernel
theorem dX12_init_654 : decode cX12_init 654 = .ok (.putfield 294, 3) := by decide +kernel
theorem dX12_init_657 : decode cX12_init 657 = .ok (.aload_n 0, 1) := by decide +kernel
theorem dX12_init_658 : decode cX12_init 658 = .ok (.bipush 16, 2) := by decide +kernel
theorem dX12_init_660 : decode cX12_init 660 = .ok (.newarray .int, 2) := by decide +kernel
theorem dX12_init_662 : decode cX12_init 662 = .ok (.putfield 297, 3) := by decide +kernel
theorem dX12_init_665 : decode cX12_init 665 = .ok (.aload_n 0, 1) := by decide +kernel
theorem dX12_init_666 : decode cX12_init 666 = .ok (.sipush 256, 3) := by decide +kernel
theorem dX12_init_669 : decode cX12_init 669 = .ok (.newarray .int, 2) := by decide +kernel
theorem dX12_init_671 : decode cX12_init 671 = .ok (.putfield 300, 3) := by decide +kernel
theorem dX12_init_674 : decode cX12_init 674 = .ok (.aload_n 0, 1) := by decide +kernel
theorem dX12_init_675 : decode cX12_init 675 = .ok (.sipush 256, 3) := by decide +kernel
theorem dX12_init_678 : decode cX12_init 678 = .ok (.newarray .int, 2) := by decide +kernel
theorem dX12_init_680 : decode cX12_init 680 = .ok (.putfield 303, 3) := by decide +kernel
theorem dX12_init_683 : decode cX12_init 683 = .ok (.aload_n 0, 1) := by decide +kernel
theorem dX12_init_684 : decode cX12_init 684 = .ok (.bipush 13, 2) := by decide +kernel
theorem dX12_init_686 : decode cX12_init 686 = .ok (.newarray .int, 2) := by decide +kernel
theorem dX12_init_688 : decode cX12_init 688 = .ok (.putfield 306, 3) := by decide +kernel
theorem dX12_init_691 : decode cX12_init 691 = .ok (.aload_n 0, 1) := by decide +kernel
theorem dX12_init_692 : decode cX12_init 692 = .ok (.invokevirtual 309, 3) := by decide +kernel
theorem dX12_init_695 : decode cX12_init 695 = .ok (.return_, 1) := by decide +kernel
theorem dX12_is_0 : decode cX12_is 0 = .ok (.iload_n 0, 1) := by decide +kernel
theorem dX12_is_1 : decode cX12_is 1 = .ok (.iload_n 1, 1) := by decide +kernel
theorem dX12_is_2 : decode cX12_is 2 = .ok (.if_icmp .lt 12, 3) := by decide +kernel
theorem dX12_is_5 : decode cX12_is 5 = .ok (.iload_n 0, 1) := by decide +kernel
theorem dX12_is_6 : decode cX12_is 6 = .ok (.iload_n 2, 1) := by decide +kernel
theorem dX12_is_7 : decode cX12_is 7 = .ok (.if_icmp .gt 7, 3) := by decide +kernel
theorem dX12_is_10 : decode cX12_is 10 = .ok (.iconst 1, 1) := by decide +kernel
theorem dX12_is_11 : decode cX12_is 11 = .ok (.goto 4, 3) := by decide +kernel
theorem dX12_is_14 : decode cX12_is 14 = .ok (.iconst 0, 1) := by decide +kernel
theorem dX12_is_15 : decode cX12_is 15 = .ok (.ireturn, 1) := by decide +kernel
theorem dX12_put_0 : decode cX12_put 0 = .ok (.bipush 24, 2) := by decide +kernel
theorem dX12_put_2 : decode cX12_put 2 = .ok (.istore_n 2, 1) := by decide +kernel
theorem dX12_put_3 : decode cX12_put 3 = .ok (.iload_n 2, 1) := by decide +kernel
theorem dX12_put_4 : decode cX12_put 4 = .ok (.ifCond .lt 35, 3) := by decide +kernel
theorem dX12_put_7 : decode cX12_put 7 = .ok (.aload_n 0, 1) := by decide +kernel
theorem dX12_put_8 : decode cX12_put 8 = .ok (.getfield 7, 3) := by decide +kernel
theorem dX12_put_11 : decode cX12_put 11 = .ok (.aload_n 0, 1) := by decide +kernel
theorem dX12_put_12 : decode cX12_put 12 = .ok (.getfield 13, 3) := by decide +kernel
theorem dX12_put_15 : decode cX12_put 15 = .ok (.iload_n 1, 1) := by decide +kernel
theorem dX12_put_16 : decode cX12_put 16 = .ok (.iload_n 2, 1) := by decide +kernel
theorem dX12_put_17 : decode cX12_put 17 = .ok (.ishr, 1) := by decide +kernel
theorem dX12_put_18 : decode cX12_put 18 = .ok (.sipush 255, 3) := by decide +kernel
theorem dX12_put_21 : decode cX12_put 21 = .ok (.iand, 1) := by decide +kernel
theorem dX12_put_22 : decode cX12_put 22 = .ok (.iastore, 1) := by decide +kernel
theorem dX12_put_23 : decode cX12_put 23 = .ok (.aload_n 0, 1) := by decide +kernel
theorem dX12_put_24 : decode cX12_put 24 = .ok (.dup, 1) := by decide +kernel
theorem dX12_put_25 : decode cX12_put 25 = .ok (.getfield 13, 3) := by decide +kernel
theorem dX12_put_28 : decode cX12_put 28 = .ok (.iconst 1, 1) := by decide +kernel
theorem dX12_put_29 : decode cX12_put 29 = .ok (.iadd, 1) := by decide +kernel
theorem dX12_put_30 : decode cX12_put 30 = .ok (.putfield 13, 3) := by decide +kernel
theorem dX12_put_33 : decode cX12_put 33 = .ok (.iinc 2 (-8), 3) := by decide +kernel
theorem dX12_put_36 : decode cX12_put 36 = .ok (.goto (-33), 3) := by decide +kernel
theorem dX12_put_39 : decode cX12_put 39 = .ok (.return_, 1) := by decide +kernel
theorem dX12_feed_0 : decode cX12_feed 0 = .ok (.aload_n 0, 1) := by decide +kernel
theorem dX12_feed_1 : decode cX12_feed 1 = .ok (.getfield 13, 3) := by decide +kernel
theorem dX12_feed_4 : decode cX12_feed 4 = .ok (.bipush 20, 2) := by decide +kernel
theorem dX12_feed_6 : decode cX12_feed 6 = .ok (.iadd, 1) := by decide +kernel
theorem dX12_feed_7 : decode cX12_feed 7 = .ok (.sipush 1600, 3) := by decide +kernel
theorem dX12_feed_10 : decode cX12_feed 10 = .ok (.if_icmp .le 9, 3) := by decide +kernel
theorem dX12_feed_19 : decode cX12_feed 19 = .ok (.aload_n 0, 1) := by decide +kernel
theorem dX12_feed_20 : decode cX12_feed 20 = .ok (.iload_n 1, 1) := by decide +kernel
theorem dX12_feed_21 : decode cX12_feed 21 = .ok (.invokevirtual 316, 3) := by decide +kernel
theorem dX12_feed_24 : decode cX12_feed 24 = .ok (.aload_n 0, 1) := by decide +kernel
theorem dX12_feed_25 : decode cX12_feed 25 = .ok (.iload_n 2, 1) := by decide +kernel
theorem dX12_feed_26 : decode cX12_feed 26 = .ok (.invokevirtual 316, 3) := by decide +kernel
theorem dX12_feed_29 : decode cX12_feed 29 = .ok (.aload_n 0, 1) := by decide +kernel
theorem dX12_feed_30 : decode cX12_feed 30 = .ok (.iload_n 3, 1) := by decide +kernel
theorem dX12_feed_31 : decode cX12_feed 31 = .ok (.invokevirtual 316, 3) := by decide +kernel
theorem dX12_feed_34 : decode cX12_feed 34 = .ok (.aload_n 0, 1) := by decide +kernel
theorem dX12_feed_35 : decode cX12_feed 35 = .ok (.iload 4, 2) := by decide +kernel
theorem dX12_feed_37 : decode cX12_feed 37 = .ok (.invokevirtual 316, 3) := by decide +kernel
theorem dX12_feed_40 : decode cX12_feed 40 = .ok (.aload_n 0, 1) := by decide +kernel
theorem dX12_feed_41 : decode cX12_feed 41 = .ok (.iload 5, 2) := by decide +kernel
theorem dX12_feed_43 : decode cX12_feed 43 = .ok (.invokevirtual 316, 3) := by decide +kernel
theorem dX12_feed_46 : decode cX12_feed 46 = .ok (.aload_n 0, 1) := by decide +kernel
theorem dX12_feed_47 : decode cX12_feed 47 = .ok (.getfield 13, 3) := by decide +kernel
theorem dX12_feed_50 : decode cX12_feed 50 = .ok (.ireturn, 1) := by decide +kernel
theorem dX12_end_0 : decode cX12_end 0 = .ok (.iload_n 1, 1) := by decide +kernel
theorem dX12_end_1 : decode cX12_end 1 = .ok (.ifCond .lt 11, 3) := by decide +kernel
theorem dX12_end_4 : decode cX12_end 4 = .ok (.iload_n 1, 1) := by decide +kernel
theorem dX12_end_5 : decode cX12_end 5 = .ok (.aload_n 0, 1) := by decide +kernel
theorem dX12_end_6 : decode cX12_end 6 = .ok (.getfield 13, 3) := by decide +kernel
theorem dX12_end_9 : decode cX12_end 9 = .ok (.if_icmp .le 17, 3) := by decide +kernel
theorem dX12_end_12 : decode cX12_end 12 = .ok (.aload_n 0, 1) := by decide +kernel
theorem dX12_end_13 : decode cX12_end 13 = .ok (.iconst 0, 1) := by decide +kernel
theorem dX12_end_14 : decode cX12_end 14 = .ok (.invokevirtual 312, 3) := by decide +kernel
theorem dX12_end_17 : decode cX12_end 17 = .ok (.ifCond .lt 7, 3) := by decide +kernel
theorem dX12_end_24 : decode cX12_end 24 = .ok (.iconst 0, 1) := by decide +kernel
theorem dX12_end_25 : decode cX12_end 25 = .ok (.ireturn, 1) := by decide +kernel
theorem dX12_end_26 : decode cX12_end 26 = .ok (.aload_n 0, 1) := by decide +kernel
theorem dX12_end_27 : decode cX12_end 27 = .ok (.iload_n 1, 1) := by decide +kernel
theorem dX12_end_28 : decode cX12_end 28 = .ok (.putfield 13, 3) := by decide +kernel
theorem dX12_end_31 : decode cX12_end 31 = .ok (.iconst 1, 1) := by decide +kernel
theorem dX12_end_32 : decode cX12_end 32 = .ok (.ireturn, 1) := by decide +kernel
theorem dX12_blame_0 : decode cX12_blame 0 = .ok (.aload_n 0, 1) := by decide +kernel
theorem dX12_blame_1 : decode cX12_blame 1 = .ok (.getfield 36, 3) := by decide +kernel
theorem dX12_blame_4 : decode cX12_blame 4 = .ok (.ifCond .le 4, 3) := by decide +kernel
theorem dX12_blame_8 : decode cX12_blame 8 = .ok (.aload_n 0, 1) := by decide +kernel
theorem dX12_blame_9 : decode cX12_blame 9 = .ok (.iload_n 1, 1) := by decide +kernel
theorem dX12_blame_10 : decode cX12_blame 10 = .ok (.putfield 36, 3) := by decide +kernel
theorem dX12_blame_13 : decode cX12_blame 13 = .ok (.aload_n 0, 1) := by decide +kernel
theorem dX12_blame_14 : decode cX12_blame 14 = .ok (.iload_n 2, 1) := by decide +kernel
theorem dX12_blame_15 : decode cX12_blame 15 = .ok (.putfield 39, 3) := by decide +kernel
theorem dX12_blame_18 : decode cX12_blame 18 = .ok (.return_, 1) := by decide +kernel
theorem dX12_ahead_0 : decode cX12_ahead 0 = .ok (.aload_n 0, 1) := by decide +kernel
theorem dX12_ahead_1 : decode cX12_ahead 1 = .ok (.getfield 26, 3) := by decide +kernel
theorem dX12_ahead_4 : decode cX12_ahead 4 = .ok (.istore_n 1, 1) := by decide +kernel
theorem dX12_ahead_5 : decode cX12_ahead 5 = .ok (.iload_n 1, 1) := by decide +kernel
theorem dX12_ahead_6 : decode cX12_ahead 6 = .ok (.aload_n 0, 1) := by decide +kernel
theorem dX12_ahead_7 : decode cX12_ahead 7 = .ok (.getfield 17, 3) := by decide +kernel
theorem dX12_ahead_10 : decode cX12_ahead 10 = .ok (.if_icmp .ge 31, 3) := by decide +kernel
theorem dX12_ahead_41 : decode cX12_ahead 41 = .ok (.aload_n 0, 1) := by decide +kernel
theorem dX12_ahead_42 : decode cX12_ahead 42 = .ok (.iload_n 1, 1) := by decide +kernel
theorem dX12_ahead_43 : decode cX12_ahead 43 = .ok (.putfield 23, 3) := by decide +kernel
theorem dX12_ahead_46 : decode cX12_ahead 46 = .ok (.aload_n 0, 1) := by decide +kernel
theorem dX12_ahead_47 : decode cX12_ahead 47 = .ok (.iload_n 1, 1) := by decide +kernel
theorem dX12_ahead_48 : decode cX12_ahead 48 = .ok (.putfield 26, 3) := by decide +kernel
theorem dX12_ahead_51 : decode cX12_ahead 51 = .ok (.aload_n 0, 1) := by decide +kernel
theorem dX12_ahead_52 : decode cX12_ahead 52 = .ok (.iconst 0, 1) := by decide +kernel
theorem dX12_ahead_53 : decode cX12_ahead 53 = .ok (.putfield 20, 3) := by decide +kernel
theorem dX12_ahead_56 : decode cX12_ahead 56 = .ok (.aload_n 0, 1) := by decide +kernel
theorem dX12_ahead_57 : decode cX12_ahead 57 = .ok (.iconst (-1), 1) := by decide +kernel
theorem dX12_ahead_58 : decode cX12_ahead 58 = .ok (.putfield 48, 3) := by decide +kernel
theorem dX12_ahead_61 : decode cX12_ahead 61 = .ok (.iload_n 1, 1) := by decide +kernel
theorem dX12_ahead_62 : decode cX12_ahead 62 = .ok (.aload_n 0, 1) := by decide +kernel
theorem dX12_ahead_63 : decode cX12_ahead 63 = .ok (.getfield 17, 3) := by decide +kernel
theorem dX12_ahead_66 : decode cX12_ahead 66 = .ok (.if_icmp .lt 4, 3) := by decide +kernel
theorem dX12_ahead_69 : decode cX12_ahead 69 = .ok (.return_, 1) := by decide +kernel
theorem dX12_match_0 : decode cX12_match 0 = .ok (.aload_n 0, 1) := by decide +kernel
theorem dX12_match_1 : decode cX12_match 1 = .ok (.aload_n 0, 1) := by decide +kernel
theorem dX12_match_2 : decode cX12_match 2 = .ok (.getfield 13, 3) := by decide +kernel
end
section
theorem dX12_match_5 : decode cX12_match 5 = .ok (.putfield 17, 3) := by decide +kernel
theorem dX12_match_8 : decode cX12_match 8 = .ok (.aload_n 0, 1) := by decide +kernel
theorem dX12_match_9 : decode cX12_match 9 = .ok (.iconst 0, 1) := by decide +kernel
theorem dX12_match_10 : decode cX12_match 10 = .ok (.putfield 13, 3) := by decide +kernel
theorem dX12_match_13 : decode cX12_match 13 = .ok (.aload_n 0, 1) := by decide +kernel
theorem dX12_match_14 : decode cX12_match 14 = .ok (.iconst 0, 1) := by decide +kernel
theorem dX12_match_15 : decode cX12_match 15 = .ok (.putfield 26, 3) := by decide +kernel
theorem dX12_match_18 : decode cX12_match 18 = .ok (.aload_n 0, 1) := by decide +kernel
theorem dX12_match_19 : decode cX12_match 19 = .ok (.iconst 0, 1) := by decide +kernel
theorem dX12_match_20 : decode cX12_match 20 = .ok (.putfield 36, 3) := by decide +kernel
theorem dX12_match_23 : decode cX12_match 23 = .ok (.aload_n 0, 1) := by decide +kernel
theorem dX12_match_24 : decode cX12_match 24 = .ok (.iconst (-1), 1) := by decide +kernel
theorem dX12_match_25 : decode cX12_match 25 = .ok (.putfield 39, 3) := by decide +kernel
theorem dX12_match_28 : decode cX12_match 28 = .ok (.aload_n 0, 1) := by decide +kernel
theorem dX12_match_29 : decode cX12_match 29 = .ok (.iconst 1, 1) := by decide +kernel
theorem dX12_match_30 : decode cX12_match 30 = .ok (.aload_n 0, 1) := by decide +kernel
theorem dX12_match_31 : decode cX12_match 31 = .ok (.getfield 51, 3) := by decide +kernel
theorem dX12_match_34 : decode cX12_match 34 = .ok (.isub, 1) := by decide +kernel
theorem dX12_match_35 : decode cX12_match 35 = .ok (.putfield 124, 3) := by decide +kernel
theorem dX12_match_38 : decode cX12_match 38 = .ok (.aload_n 0, 1) := by decide +kernel
theorem dX12_match_39 : decode cX12_match 39 = .ok (.getfield 54, 3) := by decide +kernel
theorem dX12_match_42 : decode cX12_match 42 = .ok (.aload_n 0, 1) := by decide +kernel
theorem dX12_match_43 : decode cX12_match 43 = .ok (.getfield 124, 3) := by decide +kernel
theorem dX12_match_46 : decode cX12_match 46 = .ok (.iconst 0, 1) := by decide +kernel
theorem dX12_match_47 : decode cX12_match 47 = .ok (.iastore, 1) := by decide +kernel
theorem dX12_match_48 : decode cX12_match 48 = .ok (.aload_n 0, 1) := by decide +kernel
theorem dX12_match_49 : decode cX12_match 49 = .ok (.getfield 63, 3) := by decide +kernel
theorem dX12_match_52 : decode cX12_match 52 = .ok (.aload_n 0, 1) := by decide +kernel
theorem dX12_match_53 : decode cX12_match 53 = .ok (.getfield 124, 3) := by decide +kernel
theorem dX12_match_56 : decode cX12_match 56 = .ok (.iconst 0, 1) := by decide +kernel
theorem dX12_match_57 : decode cX12_match 57 = .ok (.iastore, 1) := by decide +kernel
theorem dX12_match_58 : decode cX12_match 58 = .ok (.aload_n 0, 1) := by decide +kernel
theorem dX12_match_59 : decode cX12_match 59 = .ok (.getfield 81, 3) := by decide +kernel
theorem dX12_match_62 : decode cX12_match 62 = .ok (.aload_n 0, 1) := by decide +kernel
theorem dX12_match_63 : decode cX12_match 63 = .ok (.getfield 124, 3) := by decide +kernel
theorem dX12_match_66 : decode cX12_match 66 = .ok (.iconst 0, 1) := by decide +kernel
theorem dX12_match_67 : decode cX12_match 67 = .ok (.iastore, 1) := by decide +kernel
theorem dX12_match_68 : decode cX12_match 68 = .ok (.aload_n 0, 1) := by decide +kernel
theorem dX12_match_69 : decode cX12_match 69 = .ok (.getfield 87, 3) := by decide +kernel
theorem dX12_match_72 : decode cX12_match 72 = .ok (.aload_n 0, 1) := by decide +kernel
theorem dX12_match_73 : decode cX12_match 73 = .ok (.getfield 124, 3) := by decide +kernel
theorem dX12_match_76 : decode cX12_match 76 = .ok (.iconst 0, 1) := by decide +kernel
theorem dX12_match_77 : decode cX12_match 77 = .ok (.iastore, 1) := by decide +kernel
theorem dX12_match_78 : decode cX12_match 78 = .ok (.aload_n 0, 1) := by decide +kernel
theorem dX12_match_79 : decode cX12_match 79 = .ok (.getfield 93, 3) := by decide +kernel
theorem dX12_match_82 : decode cX12_match 82 = .ok (.aload_n 0, 1) := by decide +kernel
theorem dX12_match_83 : decode cX12_match 83 = .ok (.getfield 124, 3) := by decide +kernel
theorem dX12_match_86 : decode cX12_match 86 = .ok (.iconst 0, 1) := by decide +kernel
theorem dX12_match_87 : decode cX12_match 87 = .ok (.iastore, 1) := by decide +kernel
theorem dX12_match_88 : decode cX12_match 88 = .ok (.aload_n 0, 1) := by decide +kernel
theorem dX12_match_89 : decode cX12_match 89 = .ok (.getfield 96, 3) := by decide +kernel
theorem dX12_match_92 : decode cX12_match 92 = .ok (.aload_n 0, 1) := by decide +kernel
theorem dX12_match_93 : decode cX12_match 93 = .ok (.getfield 124, 3) := by decide +kernel
theorem dX12_match_96 : decode cX12_match 96 = .ok (.sipush 300, 3) := by decide +kernel
theorem dX12_match_99 : decode cX12_match 99 = .ok (.iastore, 1) := by decide +kernel
theorem dX12_match_100 : decode cX12_match 100 = .ok (.aload_n 0, 1) := by decide +kernel
theorem dX12_match_101 : decode cX12_match 101 = .ok (.iconst 0, 1) := by decide +kernel
theorem dX12_match_102 : decode cX12_match 102 = .ok (.putfield 127, 3) := by decide +kernel
theorem dX12_match_105 : decode cX12_match 105 = .ok (.aload_n 0, 1) := by decide +kernel
theorem dX12_match_106 : decode cX12_match 106 = .ok (.iconst 0, 1) := by decide +kernel
theorem dX12_match_107 : decode cX12_match 107 = .ok (.putfield 121, 3) := by decide +kernel
theorem dX12_match_110 : decode cX12_match 110 = .ok (.iconst 0, 1) := by decide +kernel
theorem dX12_match_111 : decode cX12_match 111 = .ok (.istore_n 1, 1) := by decide +kernel
theorem dX12_match_112 : decode cX12_match 112 = .ok (.aload_n 0, 1) := by decide +kernel
theorem dX12_match_113 : decode cX12_match 113 = .ok (.invokevirtual 337, 3) := by decide +kernel
theorem dX12_match_116 : decode cX12_match 116 = .ok (.aload_n 0, 1) := by decide +kernel
theorem dX12_match_117 : decode cX12_match 117 = .ok (.getfield 36, 3) := by decide +kernel
theorem dX12_match_120 : decode cX12_match 120 = .ok (.ifCond .ne 25, 3) := by decide +kernel
theorem dX12_match_123 : decode cX12_match 123 = .ok (.aload_n 0, 1) := by decide +kernel
theorem dX12_match_124 : decode cX12_match 124 = .ok (.getfield 20, 3) := by decide +kernel
theorem dX12_match_127 : decode cX12_match 127 = .ok (.ifCond .eq 18, 3) := by decide +kernel
theorem dX12_match_145 : decode cX12_match 145 = .ok (.aload_n 0, 1) := by decide +kernel
theorem dX12_match_146 : decode cX12_match 146 = .ok (.getfield 36, 3) := by decide +kernel
theorem dX12_match_149 : decode cX12_match 149 = .ok (.ifCond .ne 19, 3) := by decide +kernel
theorem dX12_match_152 : decode cX12_match 152 = .ok (.aload_n 0, 1) := by decide +kernel
theorem dX12_match_153 : decode cX12_match 153 = .ok (.getfield 127, 3) := by decide +kernel
theorem dX12_match_156 : decode cX12_match 156 = .ok (.ifCond .ne 12, 3) := by decide +kernel
theorem dX12_match_159 : decode cX12_match 159 = .ok (.aload_n 0, 1) := by decide +kernel
theorem dX12_match_160 : decode cX12_match 160 = .ok (.iconst 1, 1) := by decide +kernel
theorem dX12_match_161 : decode cX12_match 161 = .ok (.aload_n 0, 1) := by decide +kernel
theorem dX12_match_162 : decode cX12_match 162 = .ok (.getfield 17, 3) := by decide +kernel
theorem dX12_match_165 : decode cX12_match 165 = .ok (.invokevirtual 320, 3) := by decide +kernel
theorem dX12_match_168 : decode cX12_match 168 = .ok (.aload_n 0, 1) := by decide +kernel
theorem dX12_match_169 : decode cX12_match 169 = .ok (.aload_n 0, 1) := by decide +kernel
theorem dX12_match_170 : decode cX12_match 170 = .ok (.getfield 36, 3) := by decide +kernel
theorem dX12_match_173 : decode cX12_match 173 = .ok (.putfield 42, 3) := by decide +kernel
theorem dX12_match_176 : decode cX12_match 176 = .ok (.aload_n 0, 1) := by decide +kernel
theorem dX12_match_177 : decode cX12_match 177 = .ok (.aload_n 0, 1) := by decide +kernel
theorem dX12_match_178 : decode cX12_match 178 = .ok (.getfield 39, 3) := by decide +kernel
theorem dX12_match_181 : decode cX12_match 181 = .ok (.putfield 45, 3) := by decide +kernel
theorem dX12_match_184 : decode cX12_match 184 = .ok (.aload_n 0, 1) := by decide +kernel
theorem dX12_match_185 : decode cX12_match 185 = .ok (.getfield 36, 3) := by decide +kernel
theorem dX12_match_188 : decode cX12_match 188 = .ok (.ifCond .le 9, 3) := by decide +kernel
theorem dX12_match_191 : decode cX12_match 191 = .ok (.aload_n 0, 1) := by decide +kernel
theorem dX12_match_192 : decode cX12_match 192 = .ok (.iconst 1, 1) := by decide +kernel
theorem dX12_match_193 : decode cX12_match 193 = .ok (.invokevirtual 312, 3) := by decide +kernel
theorem dX12_match_196 : decode cX12_match 196 = .ok (.ireturn, 1) := by decide +kernel
theorem dX12_fault_0 : decode cX12_fault 0 = .ok (.iload_n 1, 1) := by decide +kernel
theorem dX12_fault_1 : decode cX12_fault 1 = .ok (.ifCond .ne 10, 3) := by decide +kernel
theorem dX12_fault_4 : decode cX12_fault 4 = .ok (.aload_n 0, 1) := by decide +kernel
theorem dX12_fault_5 : decode cX12_fault 5 = .ok (.getfield 42, 3) := by decide +kernel
theorem dX12_fault_8 : decode cX12_fault 8 = .ok (.goto 16, 3) := by decide +kernel
theorem dX12_fault_11 : decode cX12_fault 11 = .ok (.iload_n 1, 1) := by decide +kernel
theorem dX12_fault_12 : decode cX12_fault 12 = .ok (.iconst 1, 1) := by decide +kernel
theorem dX12_fault_13 : decode cX12_fault 13 = .ok (.if_icmp .ne 10, 3) := by decide +kernel
theorem dX12_fault_16 : decode cX12_fault 16 = .ok (.aload_n 0, 1) := by decide +kernel
theorem dX12_fault_17 : decode cX12_fault 17 = .ok (.getfield 45, 3) := by decide +kernel
theorem dX12_fault_20 : decode cX12_fault 20 = .ok (.goto 4, 3) := by decide +kernel
theorem dX12_fault_23 : decode cX12_fault 23 = .ok (.iconst (-1), 1) := by decide +kernel
theorem dX12_fault_24 : decode cX12_fault 24 = .ok (.ireturn, 1) := by decide +kernel
theorem dX12_refuses_0 : decode cX12_refuses 0 = .ok (.aload_n 0, 1) := by decide +kernel
theorem dX12_refuses_1 : decode cX12_refuses 1 = .ok (.getfield 149, 3) := by decide +kernel
theorem dX12_refuses_4 : decode cX12_refuses 4 = .ok (.iload_n 1, 1) := by decide +kernel
theorem dX12_refuses_5 : decode cX12_refuses 5 = .ok (.dup2, 1) := by decide +kernel
theorem dX12_refuses_6 : decode cX12_refuses 6 = .ok (.iaload, 1) := by decide +kernel
theorem dX12_refuses_7 : decode cX12_refuses 7 = .ok (.iconst 1, 1) := by decide +kernel
theorem dX12_refuses_8 : decode cX12_refuses 8 = .ok (.iadd, 1) := by decide +kernel
theorem dX12_refuses_9 : decode cX12_refuses 9 = .ok (.iastore, 1) := by decide +kernel
theorem dX12_refuses_10 : decode cX12_refuses 10 = .ok (.iconst (-1), 1) := by decide +kernel
theorem dX12_refuses_11 : decode cX12_refuses 11 = .ok (.ireturn, 1) := by decide +kernel
theorem dX12_status_0 : decode cX12_status 0 = .ok (.iload_n 1, 1) := by decide +kernel
theorem dX12_status_1 : decode cX12_status 1 = .ok (.iconst 0, 1) := by decide +kernel
theorem dX12_status_2 : decode cX12_status 2 = .ok (.iconst 5, 1) := by decide +kernel
theorem dX12_status_3 : decode cX12_status 3 = .ok (.invokestatic 362, 3) := by decide +kernel
theorem dX12_status_6 : decode cX12_status 6 = .ok (.ifCond .eq 12, 3) := by decide +kernel
theorem dX12_status_9 : decode cX12_status 9 = .ok (.aload_n 0, 1) := by decide +kernel
theorem dX12_status_10 : decode cX12_status 10 = .ok (.getfield 149, 3) := by decide +kernel
theorem dX12_status_13 : decode cX12_status 13 = .ok (.iload_n 1, 1) := by decide +kernel
theorem dX12_status_14 : decode cX12_status 14 = .ok (.iaload, 1) := by decide +kernel
theorem dX12_status_15 : decode cX12_status 15 = .ok (.goto 4, 3) := by decide +kernel
theorem dX12_status_18 : decode cX12_status 18 = .ok (.iconst (-1), 1) := by decide +kernel
theorem dX12_status_19 : decode cX12_status 19 = .ok (.ireturn, 1) := by decide +kernel
theorem dX12_columns_0 : decode cX12_columns 0 = .ok (.aload_n 0, 1) := by decide +kernel
theorem dX12_columns_1 : decode cX12_columns 1 = .ok (.getfield 81, 3) := by decide +kernel
theorem dX12_columns_4 : decode cX12_columns 4 = .ok (.aload_n 0, 1) := by decide +kernel
theorem dX12_columns_5 : decode cX12_columns 5 = .ok (.getfield 51, 3) := by decide +kernel
theorem dX12_columns_8 : decode cX12_columns 8 = .ok (.iaload, 1) := by decide +kernel
theorem dX12_columns_9 : decode cX12_columns 9 = .ok (.ireturn, 1) := by decide +kernel
theorem dX12_begin_0 : decode cX12_begin 0 = .ok (.aload_n 0, 1) := by decide +kernel
theorem dX12_begin_1 : decode cX12_begin 1 = .ok (.getfield 173, 3) := by decide +kernel
theorem dX12_begin_4 : decode cX12_begin 4 = .ok (.iconst 0, 1) := by decide +kernel
theorem dX12_begin_5 : decode cX12_begin 5 = .ok (.aload_n 0, 1) := by decide +kernel
theorem dX12_begin_6 : decode cX12_begin 6 = .ok (.getfield 87, 3) := by decide +kernel
theorem dX12_begin_9 : decode cX12_begin 9 = .ok (.aload_n 0, 1) := by decide +kernel
theorem dX12_begin_10 : decode cX12_begin 10 = .ok (.getfield 51, 3) := by decide +kernel
theorem dX12_begin_13 : decode cX12_begin 13 = .ok (.iaload, 1) := by decide +kernel
theorem dX12_begin_14 : decode cX12_begin 14 = .ok (.iastore, 1) := by decide +kernel
theorem dX12_begin_15 : decode cX12_begin 15 = .ok (.iconst 0, 1) := by decide +kernel
theorem dX12_begin_16 : decode cX12_begin 16 = .ok (.istore_n 1, 1) := by decide +kernel
theorem dX12_begin_17 : decode cX12_begin 17 = .ok (.iload_n 1, 1) := by decide +kernel
theorem dX12_begin_18 : decode cX12_begin 18 = .ok (.bipush 12, 2) := by decide +kernel
theorem dX12_begin_20 : decode cX12_begin 20 = .ok (.if_icmp .ge 16, 3) := by decide +kernel
theorem dX12_begin_23 : decode cX12_begin 23 = .ok (.aload_n 0, 1) := by decide +kernel
theorem dX12_begin_24 : decode cX12_begin 24 = .ok (.getfield 176, 3) := by decide +kernel
theorem dX12_begin_27 : decode cX12_begin 27 = .ok (.iload_n 1, 1) := by decide +kernel
theorem dX12_begin_28 : decode cX12_begin 28 = .ok (.iload_n 1, 1) := by decide +kernel
theorem dX12_begin_29 : decode cX12_begin 29 = .ok (.iastore, 1) := by decide +kernel
theorem dX12_begin_30 : decode cX12_begin 30 = .ok (.iinc 1 1, 3) := by decide +kernel
theorem dX12_begin_33 : decode cX12_begin 33 = .ok (.goto (-16), 3) := by decide +kernel
theorem dX12_begin_36 : decode cX12_begin 36 = .ok (.aload_n 0, 1) := by decide +kernel
theorem dX12_begin_37 : decode cX12_begin 37 = .ok (.getfield 179, 3) := by decide +kernel
theorem dX12_begin_40 : decode cX12_begin 40 = .ok (.iconst 0, 1) := by decide +kernel
theorem dX12_begin_41 : decode cX12_begin 41 = .ok (.aload_n 0, 1) := by decide +kernel
theorem dX12_begin_42 : decode cX12_begin 42 = .ok (.getfield 146, 3) := by decide +kernel
theorem dX12_begin_45 : decode cX12_begin 45 = .ok (.ifCond .eq 9, 3) := by decide +kernel
theorem dX12_begin_54 : decode cX12_begin 54 = .ok (.iconst 0, 1) := by decide +kernel
theorem dX12_begin_55 : decode cX12_begin 55 = .ok (.iastore, 1) := by decide +kernel
theorem dX12_begin_56 : decode cX12_begin 56 = .ok (.aload_n 0, 1) := by decide +kernel
theorem dX12_begin_57 : decode cX12_begin 57 = .ok (.getfield 182, 3) := by decide +kernel
theorem dX12_begin_60 : decode cX12_begin 60 = .ok (.iconst 0, 1) := by decide +kernel
theorem dX12_begin_61 : decode cX12_begin 61 = .ok (.aload_n 0, 1) := by decide +kernel
theorem dX12_begin_62 : decode cX12_begin 62 = .ok (.getfield 93, 3) := by decide +kernel
theorem dX12_begin_65 : decode cX12_begin 65 = .ok (.aload_n 0, 1) := by decide +kernel
theorem dX12_begin_66 : decode cX12_begin 66 = .ok (.getfield 51, 3) := by decide +kernel
theorem dX12_begin_69 : decode cX12_begin 69 = .ok (.iaload, 1) := by decide +kernel
theorem dX12_begin_70 : decode cX12_begin 70 = .ok (.iastore, 1) := by decide +kernel
theorem dX12_begin_71 : decode cX12_begin 71 = .ok (.aload_n 0, 1) := by decide +kernel
theorem dX12_begin_72 : decode cX12_begin 72 = .ok (.getfield 185, 3) := by decide +kernel
theorem dX12_begin_75 : decode cX12_begin 75 = .ok (.iconst 0, 1) := by decide +kernel
theorem dX12_begin_76 : decode cX12_begin 76 = .ok (.iconst 0, 1) := by decide +kernel
theorem dX12_begin_77 : decode cX12_begin 77 = .ok (.iastore, 1) := by decide +kernel
theorem dX12_begin_78 : decode cX12_begin 78 = .ok (.aload_n 0, 1) := by decide +kernel
theorem dX12_begin_79 : decode cX12_begin 79 = .ok (.iconst 0, 1) := by decide +kernel
theorem dX12_begin_80 : decode cX12_begin 80 = .ok (.putfield 194, 3) := by decide +kernel
theorem dX12_begin_83 : decode cX12_begin 83 = .ok (.aload_n 0, 1) := by decide +kernel
theorem dX12_begin_84 : decode cX12_begin 84 = .ok (.iconst 0, 1) := by decide +kernel
theorem dX12_begin_85 : decode cX12_begin 85 = .ok (.putfield 291, 3) := by decide +kernel
theorem dX12_begin_88 : decode cX12_begin 88 = .ok (.return_, 1) := by decide +kernel
theorem dX12_undo_0 : decode cX12_undo 0 = .ok (.aload_n 0, 1) := by decide +kernel
theorem dX12_undo_1 : decode cX12_undo 1 = .ok (.getfield 194, 3) := by decide +kernel
theorem dX12_undo_4 : decode cX12_undo 4 = .ok (.ifCond .ne 17, 3) := by decide +kernel
theorem dX12_undo_7 : decode cX12_undo 7 = .ok (.aload_n 0, 1) := by decide +kernel
theorem dX12_undo_8 : decode cX12_undo 8 = .ok (.iconst 4, 1) := by decide +kernel
theorem dX12_undo_9 : decode cX12_undo 9 = .ok (.invokevirtual 312, 3) := by decide +kernel
theorem dX12_undo_12 : decode cX12_undo 12 = .ok (.ifCond .lt 7, 3) := by decide +kernel
theorem dX12_undo_19 : decode cX12_undo 19 = .ok (.iconst 0, 1) := by decide +kernel
theorem dX12_undo_20 : decode cX12_undo 20 = .ok (.ireturn, 1) := by decide +kernel
theorem dX12_has_0 : decode cX12_has 0 = .ok (.iload_n 1, 1) := by decide +kernel
theorem dX12_has_1 : decode cX12_has 1 = .ok (.tableswitch 144 0 10 #[59, 69, 79, 84, 100, 107, 114, 121, 128, 133, 138], 59) := by decide +kernel
theorem dX12_has_60 : decode cX12_has 60 = .ok (.aload_n 0, 1) := by decide +kernel
theorem dX12_has_61 : decode cX12_has 61 = .ok (.getfield 54, 3) := by decide +kernel
theorem dX12_has_64 : decode cX12_has 64 = .ok (.aload_n 0, 1) := by decide +kernel
theorem dX12_has_65 : decode cX12_has 65 = .ok (.getfield 51, 3) := by decide +kernel
theorem dX12_has_68 : decode cX12_has 68 = .ok (.iaload, 1) := by decide +kernel
theorem dX12_has_69 : decode cX12_has 69 = .ok (.ireturn, 1) := by decide +kernel
theorem dX12_has_70 : decode cX12_has 70 = .ok (.aload_n 0, 1) := by decide +kernel
theorem dX12_has_71 : decode cX12_has 71 = .ok (.getfield 63, 3) := by decide +kernel
theorem dX12_has_74 : decode cX12_has 74 = .ok (.aload_n 0, 1) := by decide +kernel
theorem dX12_has_75 : decode cX12_has 75 = .ok (.getfield 51, 3) := by decide +kernel
theorem dX12_has_78 : decode cX12_has 78 = .ok (.iaload, 1) := by decide +kernel
theorem dX12_has_79 : decode cX12_has 79 = .ok (.ireturn, 1) := by decide +kernel
theorem dX12_has_80 : decode cX12_has 80 = .ok (.aload_n 0, 1) := by decide +kernel
theorem dX12_has_81 : decode cX12_has 81 = .ok (.invokevirtual 459, 3) := by decide +kernel
theorem dX12_has_84 : decode cX12_has 84 = .ok (.ireturn, 1) := by decide +kernel
theorem dX12_has_85 : decode cX12_has 85 = .ok (.aload_n 0, 1) := by decide +kernel
theorem dX12_has_86 : decode cX12_has 86 = .ok (.getfield 146, 3) := by decide +kernel
theorem dX12_has_89 : decode cX12_has 89 = .ok (.ifCond .eq 10, 3) := by decide +kernel
theorem dX12_has_99 : decode cX12_has 99 = .ok (.iconst 0, 1) := by decide +kernel
theorem dX12_has_100 : decode cX12_has 100 = .ok (.ireturn, 1) := by decide +kernel
theorem dX12_has_101 : decode cX12_has 101 = .ok (.aload_n 0, 1) := by decide +kernel
theorem dX12_has_102 : decode cX12_has 102 = .ok (.getfield 173, 3) := by decide +kernel
theorem dX12_has_105 : decode cX12_has 105 = .ok (.iconst 0, 1) := by decide +kernel
theorem dX12_has_106 : decode cX12_has 106 = .ok (.iaload, 1) := by decide +kernel
theorem dX12_has_107 : decode cX12_has 107 = .ok (.ireturn, 1) := by decide +kernel
theorem dX12_has_108 : decode cX12_has 108 = .ok (.aload_n 0, 1) := by decide +kernel
theorem dX12_has_109 : decode cX12_has 109 = .ok (.getfield 179, 3) := by decide +kernel
theorem dX12_has_112 : decode cX12_has 112 = .ok (.iconst 0, 1) := by decide +kernel
theorem dX12_has_113 : decode cX12_has 113 = .ok (.iaload, 1) := by decide +kernel
theorem dX12_has_114 : decode cX12_has 114 = .ok (.ireturn, 1) := by decide +kernel
theorem dX12_has_115 : decode cX12_has 115 = .ok (.aload_n 0, 1) := by decide +kernel
theorem dX12_has_116 : decode cX12_has 116 = .ok (.getfield 182, 3) := by decide +kernel
theorem dX12_has_119 : decode cX12_has 119 = .ok (.iconst 0, 1) := by decide +kernel
theorem dX12_has_120 : decode cX12_has 120 = .ok (.iaload, 1) := by decide +kernel
theorem dX12_has_121 : decode cX12_has 121 = .ok (.ireturn, 1) := by decide +kernel
theorem dX12_has_122 : decode cX12_has 122 = .ok (.aload_n 0, 1) := by decide +kernel
theorem dX12_has_123 : decode cX12_has 123 = .ok (.getfield 185, 3) := by decide +kernel
theorem dX12_has_126 : decode cX12_has 126 = .ok (.iconst 0, 1) := by decide +kernel
theorem dX12_has_127 : decode cX12_has 127 = .ok (.iaload, 1) := by decide +kernel
theorem dX12_has_128 : decode cX12_has 128 = .ok (.ireturn, 1) := by decide +kernel
theorem dX12_has_129 : decode cX12_has 129 = .ok (.aload_n 0, 1) := by decide +kernel
theorem dX12_has_130 : decode cX12_has 130 = .ok (.getfield 291, 3) := by decide +kernel
theorem dX12_has_133 : decode cX12_has 133 = .ok (.ireturn, 1) := by decide +kernel
theorem dX12_has_134 : decode cX12_has 134 = .ok (.aload_n 0, 1) := by decide +kernel
theorem dX12_has_135 : decode cX12_has 135 = .ok (.getfield 194, 3) := by decide +kernel
theorem dX12_has_138 : decode cX12_has 138 = .ok (.ireturn, 1) := by decide +kernel
theorem dX12_has_139 : decode cX12_has 139 = .ok (.aload_n 0, 1) := by decide +kernel
theorem dX12_has_140 : decode cX12_has 140 = .ok (.getfield 197, 3) := by decide +kernel
theorem dX12_has_143 : decode cX12_has 143 = .ok (.l2i, 1) := by decide +kernel
theorem dX12_has_144 : decode cX12_has 144 = .ok (.ireturn, 1) := by decide +kernel
theorem dX12_has_145 : decode cX12_has 145 = .ok (.iconst (-1), 1) := by decide +kernel
theorem dX12_has_146 : decode cX12_has 146 = .ok (.ireturn, 1) := by decide +kernel
theorem dX12_letter_0 : decode cX12_letter 0 = .ok (.iload_n 3, 1) := by decide +kernel
theorem dX12_letter_1 : decode cX12_letter 1 = .ok (.iconst 0, 1) := by decide +kernel
theorem dX12_letter_2 : decode cX12_letter 2 = .ok (.iconst 5, 1) := by decide +kernel
theorem dX12_letter_3 : decode cX12_letter 3 = .ok (.invokestatic 362, 3) := by decide +kernel
theorem dX12_letter_6 : decode cX12_letter 6 = .ok (.ifCond .eq 47, 3) := by decide +kernel
theorem dX12_letter_9 : decode cX12_letter 9 = .ok (.iload_n 1, 1) := by decide +kernel
theorem dX12_letter_10 : decode cX12_letter 10 = .ok (.iconst 0, 1) := by decide +kernel
theorem dX12_letter_11 : decode cX12_letter 11 = .ok (.iconst 1, 1) := by decide +kernel
theorem dX12_letter_12 : decode cX12_letter 12 = .ok (.invokestatic 362, 3) := by decide +kernel
theorem dX12_letter_15 : decode cX12_letter 15 = .ok (.ifCond .eq 38, 3) := by decide +kernel
theorem dX12_letter_18 : decode cX12_letter 18 = .ok (.iload_n 2, 1) := by decide +kernel
theorem dX12_letter_19 : decode cX12_letter 19 = .ok (.iconst 0, 1) := by decide +kernel
theorem dX12_letter_20 : decode cX12_letter 20 = .ok (.iload_n 1, 1) := by decide +kernel
theorem dX12_letter_21 : decode cX12_letter 21 = .ok (.ifCond .ne 15, 3) := by decide +kernel
theorem dX12_letter_24 : decode cX12_letter 24 = .ok (.aload_n 0, 1) := by decide +kernel
theorem dX12_letter_25 : decode cX12_letter 25 = .ok (.getfield 54, 3) := by decide +kernel
theorem dX12_letter_28 : decode cX12_letter 28 = .ok (.aload_n 0, 1) := by decide +kernel
theorem dX12_letter_29 : decode cX12_letter 29 = .ok (.getfield 51, 3) := by decide +kernel
theorem dX12_letter_32 : decode cX12_letter 32 = .ok (.iaload, 1) := by decide +kernel
theorem dX12_letter_33 : decode cX12_letter 33 = .ok (.goto 12, 3) := by decide +kernel
theorem dX12_letter_36 : decode cX12_letter 36 = .ok (.aload_n 0, 1) := by decide +kernel
theorem dX12_letter_37 : decode cX12_letter 37 = .ok (.getfield 63, 3) := by decide +kernel
theorem dX12_letter_40 : decode cX12_letter 40 = .ok (.aload_n 0, 1) := by decide +kernel
theorem dX12_letter_41 : decode cX12_letter 41 = .ok (.getfield 51, 3) := by decide +kernel
theorem dX12_letter_44 : decode cX12_letter 44 = .ok (.iaload, 1) := by decide +kernel
theorem dX12_letter_45 : decode cX12_letter 45 = .ok (.iconst 1, 1) := by decide +kernel
theorem dX12_letter_46 : decode cX12_letter 46 = .ok (.isub, 1) := by decide +kernel
theorem dX12_letter_47 : decode cX12_letter 47 = .ok (.invokestatic 362, 3) := by decide +kernel
theorem dX12_letter_50 : decode cX12_letter 50 = .ok (.ifCond .ne 5, 3) := by decide +kernel
theorem dX12_letter_53 : decode cX12_letter 53 = .ok (.iconst (-1), 1) := by decide +kernel
theorem dX12_letter_54 : decode cX12_letter 54 = .ok (.ireturn, 1) := by decide +kernel
theorem dX12_values_0 : decode cX12_values 0 = .ok (.aload_n 0, 1) := by decide +kernel
theorem dX12_values_1 : decode cX12_values 1 = .ok (.getfield 146, 3) := by decide +kernel
theorem dX12_values_4 : decode cX12_values 4 = .ok (.ifCond .eq 22, 3) := by decide +kernel
theorem dX12_values_26 : decode cX12_values 26 = .ok (.iconst (-1), 1) := by decide +kernel
theorem dX12_values_27 : decode cX12_values 27 = .ok (.ireturn, 1) := by decide +kernel
theorem dX12_isPlace_0 : decode cX12_isPlace 0 = .ok (.aload_n 0, 1) := by decide +kernel
theorem dX12_isPlace_1 : decode cX12_isPlace 1 = .ok (.getfield 146, 3) := by decide +kernel
theorem dX12_isPlace_4 : decode cX12_isPlace 4 = .ok (.ifCond .eq 23, 3) := by decide +kernel
theorem dX12_isPlace_27 : decode cX12_isPlace 27 = .ok (.iconst 0, 1) := by decide +kernel
theorem dX12_isPlace_28 : decode cX12_isPlace 28 = .ok (.ireturn, 1) := by decide +kernel
theorem dX12_arm_0 : decode cX12_arm 0 = .ok (.aload_n 0, 1) := by decide +kernel
theorem dX12_arm_1 : decode cX12_arm 1 = .ok (.iload_n 1, 1) := by decide +kernel
theorem dX12_arm_2 : decode cX12_arm 2 = .ok (.invokevirtual 498, 3) := by decide +kernel
theorem dX12_arm_5 : decode cX12_arm 5 = .ok (.ifCond .ne 5, 3) := by decide +kernel
theorem dX12_arm_8 : decode cX12_arm 8 = .ok (.iconst (-1), 1) := by decide +kernel
theorem dX12_arm_9 : decode cX12_arm 9 = .ok (.ireturn, 1) := by decide +kernel
theorem dX12_fits_0 : decode cX12_fits 0 = .ok (.aload_n 0, 1) := by decide +kernel
theorem dX12_fits_1 : decode cX12_fits 1 = .ok (.iload_n 1, 1) := by decide +kernel
theorem dX12_fits_2 : decode cX12_fits 2 = .ok (.invokevirtual 498, 3) := by decide +kernel
theorem dX12_fits_5 : decode cX12_fits 5 = .ok (.ifCond .eq 32, 3) := by decide +kernel
theorem dX12_fits_37 : decode cX12_fits 37 = .ok (.iconst (-1), 1) := by decide +kernel
theorem dX12_fits_38 : decode cX12_fits 38 = .ok (.ireturn, 1) := by decide +kernel
theorem dX12_holds_0 : decode cX12_holds 0 = .ok (.aload_n 0, 1) := by decide +kernel
theorem dX12_holds_1 : decode cX12_holds 1 = .ok (.iload_n 1, 1) := by decide +kernel
theorem dX12_holds_2 : decode cX12_holds 2 = .ok (.invokevirtual 498, 3) := by decide +kernel
theorem dX12_holds_5 : decode cX12_holds 5 = .ok (.ifCond .eq 11, 3) := by decide +kernel
theorem dX12_holds_16 : decode cX12_holds 16 = .ok (.iconst (-1), 1) := by decide +kernel
theorem dX12_holds_17 : decode cX12_holds 17 = .ok (.ireturn, 1) := by decide +kernel
theorem dX12_missing_0 : decode cX12_missing 0 = .ok (.aload_n 0, 1) := by decide +kernel
theorem dX12_missing_1 : decode cX12_missing 1 = .ok (.getfield 146, 3) := by decide +kernel
theorem dX12_missing_4 : decode cX12_missing 4 = .ok (.ifCond .eq 8, 3) := by decide +kernel
theorem dX12_missing_12 : decode cX12_missing 12 = .ok (.iconst (-1), 1) := by decide +kernel
theorem dX12_missing_13 : decode cX12_missing 13 = .ok (.ireturn, 1) := by decide +kernel
theorem dX12_isRow_0 : decode cX12_isRow 0 = .ok (.aload_n 0, 1) := by decide +kernel
theorem dX12_isRow_1 : decode cX12_isRow 1 = .ok (.getfield 146, 3) := by decide +kernel
theorem dX12_isRow_4 : decode cX12_isRow 4 = .ok (.ifCond .eq 21, 3) := by decide +kernel
theorem dX12_isRow_25 : decode cX12_isRow 25 = .ok (.iconst 0, 1) := by decide +kernel
theorem dX12_isRow_26 : decode cX12_isRow 26 = .ok (.ireturn, 1) := by decide +kernel
theorem dX12_taken_0 : decode cX12_taken 0 = .ok (.aload_n 0, 1) := by decide +kernel
theorem dX12_taken_1 : decode cX12_taken 1 = .ok (.iload_n 1, 1) := by decide +kernel
theorem dX12_taken_2 : decode cX12_taken 2 = .ok (.invokevirtual 516, 3) := by decide +kernel
theorem dX12_taken_5 : decode cX12_taken 5 = .ok (.ifCond .ne 5, 3) := by decide +kernel
theorem dX12_taken_8 : decode cX12_taken 8 = .ok (.iconst (-1), 1) := by decide +kernel
theorem dX12_taken_9 : decode cX12_taken 9 = .ok (.ireturn, 1) := by decide +kernel
theorem dX12_row_0 : decode cX12_row 0 = .ok (.aload_n 0, 1) := by decide +kernel
theorem dX12_row_1 : decode cX12_row 1 = .ok (.aload_n 0, 1) := by decide +kernel
theorem dX12_row_2 : decode cX12_row 2 = .ok (.getfield 13, 3) := by decide +kernel
theorem dX12_row_5 : decode cX12_row 5 = .ok (.putfield 17, 3) := by decide +kernel
theorem dX12_row_8 : decode cX12_row 8 = .ok (.aload_n 0, 1) := by decide +kernel
theorem dX12_row_9 : decode cX12_row 9 = .ok (.iconst 0, 1) := by decide +kernel
theorem dX12_row_10 : decode cX12_row 10 = .ok (.putfield 13, 3) := by decide +kernel
theorem dX12_row_13 : decode cX12_row 13 = .ok (.aload_n 0, 1) := by decide +kernel
theorem dX12_row_14 : decode cX12_row 14 = .ok (.iconst 0, 1) := by decide +kernel
theorem dX12_row_15 : decode cX12_row 15 = .ok (.putfield 26, 3) := by decide +kernel
theorem dX12_row_18 : decode cX12_row 18 = .ok (.aload_n 0, 1) := by decide +kernel
theorem dX12_row_19 : decode cX12_row 19 = .ok (.iconst 0, 1) := by decide +kernel
theorem dX12_row_20 : decode cX12_row 20 = .ok (.putfield 36, 3) := by decide +kernel
theorem dX12_row_23 : decode cX12_row 23 = .ok (.aload_n 0, 1) := by decide +kernel
theorem dX12_row_24 : decode cX12_row 24 = .ok (.iconst (-1), 1) := by decide +kernel
theorem dX12_row_25 : decode cX12_row 25 = .ok (.putfield 39, 3) := by decide +kernel
theorem dX12_row_28 : decode cX12_row 28 = .ok (.iconst 0, 1) := by decide +kernel
theorem dX12_row_29 : decode cX12_row 29 = .ok (.istore_n 1, 1) := by decide +kernel
theorem dX12_row_30 : decode cX12_row 30 = .ok (.aload_n 0, 1) := by decide +kernel
theorem dX12_row_31 : decode cX12_row 31 = .ok (.getfield 146, 3) := by decide +kernel
theorem dX12_row_34 : decode cX12_row 34 = .ok (.ifCond .ne 9, 3) := by decide +kernel
theorem dX12_row_37 : decode cX12_row 37 = .ok (.aload_n 0, 1) := by decide +kernel
theorem dX12_row_38 : decode cX12_row 38 = .ok (.iconst 1, 1) := by decide +kernel
theorem dX12_row_39 : decode cX12_row 39 = .ok (.iconst 0, 1) := by decide +kernel
theorem dX12_row_40 : decode cX12_row 40 = .ok (.invokevirtual 320, 3) := by decide +kernel
theorem dX12_row_43 : decode cX12_row 43 = .ok (.aload_n 0, 1) := by decide +kernel
theorem dX12_row_44 : decode cX12_row 44 = .ok (.getfield 36, 3) := by decide +kernel
theorem dX12_row_47 : decode cX12_row 47 = .ok (.ifCond .ne 7, 3) := by decide +kernel
theorem dX12_row_54 : decode cX12_row 54 = .ok (.iconst 0, 1) := by decide +kernel
theorem dX12_row_55 : decode cX12_row 55 = .ok (.istore_n 2, 1) := by decide +kernel
theorem dX12_row_56 : decode cX12_row 56 = .ok (.iload_n 2, 1) := by decide +kernel
theorem dX12_row_57 : decode cX12_row 57 = .ok (.aload_n 0, 1) := by decide +kernel
theorem dX12_row_58 : decode cX12_row 58 = .ok (.invokevirtual 459, 3) := by decide +kernel
theorem dX12_row_61 : decode cX12_row 61 = .ok (.if_icmp .ge 67, 3) := by decide +kernel
theorem dX12_row_128 : decode cX12_row 128 = .ok (.aload_n 0, 1) := by decide +kernel
theorem dX12_row_129 : decode cX12_row 129 = .ok (.getfield 36, 3) := by decide +kernel
theorem dX12_row_132 : decode cX12_row 132 = .ok (.ifCond .ne 7, 3) := by decide +kernel
theorem dX12_row_139 : decode cX12_row 139 = .ok (.aload_n 0, 1) := by decide +kernel
theorem dX12_row_140 : decode cX12_row 140 = .ok (.getfield 36, 3) := by decide +kernel
theorem dX12_row_143 : decode cX12_row 143 = .ok (.ifCond .ne 19, 3) := by decide +kernel
theorem dX12_row_162 : decode cX12_row 162 = .ok (.aload_n 0, 1) := by decide +kernel
theorem dX12_row_163 : decode cX12_row 163 = .ok (.aload_n 0, 1) := by decide +kernel
theorem dX12_row_164 : decode cX12_row 164 = .ok (.getfield 36, 3) := by decide +kernel
theorem dX12_row_167 : decode cX12_row 167 = .ok (.putfield 42, 3) := by decide +kernel
theorem dX12_row_170 : decode cX12_row 170 = .ok (.aload_n 0, 1) := by decide +kernel
theorem dX12_row_171 : decode cX12_row 171 = .ok (.aload_n 0, 1) := by decide +kernel
theorem dX12_row_172 : decode cX12_row 172 = .ok (.getfield 39, 3) := by decide +kernel
theorem dX12_row_175 : decode cX12_row 175 = .ok (.putfield 45, 3) := by decide +kernel
theorem dX12_row_178 : decode cX12_row 178 = .ok (.aload_n 0, 1) := by decide +kernel
theorem dX12_row_179 : decode cX12_row 179 = .ok (.getfield 36, 3) := by decide +kernel
theorem dX12_row_182 : decode cX12_row 182 = .ok (.ifCond .le 11, 3) := by decide +kernel
theorem dX12_row_185 : decode cX12_row 185 = .ok (.aload_n 0, 1) := by decide +kernel
theorem dX12_row_186 : decode cX12_row 186 = .ok (.iconst 1, 1) := by decide +kernel
theorem dX12_row_187 : decode cX12_row 187 = .ok (.invokevirtual 312, 3) := by decide +kernel
theorem dX12_row_190 : decode cX12_row 190 = .ok (.goto 4, 3) := by decide +kernel
theorem dX12_row_194 : decode cX12_row 194 = .ok (.ireturn, 1) := by decide +kernel
theorem dX12_writes_0 : decode cX12_writes 0 = .ok (.aload_n 0, 1) := by decide +kernel
theorem dX12_writes_1 : decode cX12_writes 1 = .ok (.getfield 221, 3) := by decide +kernel
theorem dX12_writes_4 : decode cX12_writes 4 = .ok (.aload_n 0, 1) := by decide +kernel
theorem dX12_writes_5 : decode cX12_writes 5 = .ok (.getfield 224, 3) := by decide +kernel
theorem dX12_writes_8 : decode cX12_writes 8 = .ok (.iload_n 1, 1) := by decide +kernel
theorem dX12_writes_9 : decode cX12_writes 9 = .ok (.sipush 255, 3) := by decide +kernel
theorem dX12_writes_12 : decode cX12_writes 12 = .ok (.iand, 1) := by decide +kernel
theorem dX12_writes_13 : decode cX12_writes 13 = .ok (.iastore, 1) := by decide +kernel
theorem dX12_writes_14 : decode cX12_writes 14 = .ok (.aload_n 0, 1) := by decide +kernel
theorem dX12_writes_15 : decode cX12_writes 15 = .ok (.dup, 1) := by decide +kernel
theorem dX12_writes_16 : decode cX12_writes 16 = .ok (.getfield 224, 3) := by decide +kernel
theorem dX12_writes_19 : decode cX12_writes 19 = .ok (.iconst 1, 1) := by decide +kernel
theorem dX12_writes_20 : decode cX12_writes 20 = .ok (.iadd, 1) := by decide +kernel
theorem dX12_writes_21 : decode cX12_writes 21 = .ok (.putfield 224, 3) := by decide +kernel
theorem dX12_writes_24 : decode cX12_writes 24 = .ok (.return_, 1) := by decide +kernel
theorem dX12_text_0 : decode cX12_text 0 = .ok (.aload_n 0, 1) := by decide +kernel
theorem dX12_text_1 : decode cX12_text 1 = .ok (.iload_n 1, 1) := by decide +kernel
theorem dX12_text_2 : decode cX12_text 2 = .ok (.invokevirtual 516, 3) := by decide +kernel
theorem dX12_text_5 : decode cX12_text 5 = .ok (.ifCond .ne 5, 3) := by decide +kernel
theorem dX12_text_8 : decode cX12_text 8 = .ok (.iconst (-1), 1) := by decide +kernel
theorem dX12_text_9 : decode cX12_text 9 = .ok (.ireturn, 1) := by decide +kernel
theorem dX12_octet_0 : decode cX12_octet 0 = .ok (.iload_n 1, 1) := by decide +kernel
theorem dX12_octet_1 : decode cX12_octet 1 = .ok (.iconst 0, 1) := by decide +kernel
theorem dX12_octet_2 : decode cX12_octet 2 = .ok (.aload_n 0, 1) := by decide +kernel
theorem dX12_octet_3 : decode cX12_octet 3 = .ok (.getfield 224, 3) := by decide +kernel
theorem dX12_octet_6 : decode cX12_octet 6 = .ok (.iconst 1, 1) := by decide +kernel
theorem dX12_octet_7 : decode cX12_octet 7 = .ok (.isub, 1) := by decide +kernel
theorem dX12_octet_8 : decode cX12_octet 8 = .ok (.invokestatic 362, 3) := by decide +kernel
theorem dX12_octet_11 : decode cX12_octet 11 = .ok (.ifCond .eq 12, 3) := by decide +kernel
theorem dX12_octet_23 : decode cX12_octet 23 = .ok (.iconst (-1), 1) := by decide +kernel
theorem dX12_octet_24 : decode cX12_octet 24 = .ok (.ireturn, 1) := by decide +kernel
theorem dX12_tree_0 : decode cX12_tree 0 = .ok (.aload_n 0, 1) := by decide +kernel
theorem dX12_tree_1 : decode cX12_tree 1 = .ok (.getfield 146, 3) := by decide +kernel
theorem dX12_tree_4 : decode cX12_tree 4 = .ok (.ifCond .eq 21, 3) := by decide +kernel
theorem dX12_tree_25 : decode cX12_tree 25 = .ok (.iconst (-1), 1) := by decide +kernel
theorem dX12_tree_26 : decode cX12_tree 26 = .ok (.ireturn, 1) := by decide +kernel
theorem dX12_first_0 : decode cX12_first 0 = .ok (.aload_n 0, 1) := by decide +kernel
theorem dX12_first_1 : decode cX12_first 1 = .ok (.getfield 146, 3) := by decide +kernel
end
section
theorem dX12_first_4 : decode cX12_first 4 = .ok (.ifCond .eq 12, 3) := by decide +kernel
theorem dX12_first_16 : decode cX12_first 16 = .ok (.iconst (-1), 1) := by decide +kernel
theorem dX12_first_17 : decode cX12_first 17 = .ok (.ireturn, 1) := by decide +kernel
theorem dX12_scopes_0 : decode cX12_scopes 0 = .ok (.aload_n 0, 1) := by decide +kernel
theorem dX12_scopes_1 : decode cX12_scopes 1 = .ok (.getfield 146, 3) := by decide +kernel
theorem dX12_scopes_4 : decode cX12_scopes 4 = .ok (.ifCond .eq 21, 3) := by decide +kernel
theorem dX12_scopes_25 : decode cX12_scopes 25 = .ok (.iconst (-1), 1) := by decide +kernel
theorem dX12_scopes_26 : decode cX12_scopes 26 = .ok (.ireturn, 1) := by decide +kernel
theorem dX12_safe_0 : decode cX12_safe 0 = .ok (.aload_n 0, 1) := by decide +kernel
theorem dX12_safe_1 : decode cX12_safe 1 = .ok (.iload_n 1, 1) := by decide +kernel
theorem dX12_safe_2 : decode cX12_safe 2 = .ok (.invokevirtual 498, 3) := by decide +kernel
theorem dX12_safe_5 : decode cX12_safe 5 = .ok (.ifCond .eq 11, 3) := by decide +kernel
theorem dX12_safe_16 : decode cX12_safe 16 = .ok (.iconst (-1), 1) := by decide +kernel
theorem dX12_safe_17 : decode cX12_safe 17 = .ok (.ireturn, 1) := by decide +kernel
theorem dX12_best_0 : decode cX12_best 0 = .ok (.aload_n 0, 1) := by decide +kernel
theorem dX12_best_1 : decode cX12_best 1 = .ok (.getfield 146, 3) := by decide +kernel
theorem dX12_best_4 : decode cX12_best 4 = .ok (.ifCond .eq 12, 3) := by decide +kernel
theorem dX12_best_16 : decode cX12_best 16 = .ok (.iconst (-1), 1) := by decide +kernel
theorem dX12_best_17 : decode cX12_best 17 = .ok (.ireturn, 1) := by decide +kernel
theorem dX12_see_0 : decode cX12_see 0 = .ok (.aload_n 0, 1) := by decide +kernel
theorem dX12_see_1 : decode cX12_see 1 = .ok (.getfield 13, 3) := by decide +kernel
theorem dX12_see_4 : decode cX12_see 4 = .ok (.istore_n 1, 1) := by decide +kernel
theorem dX12_see_5 : decode cX12_see 5 = .ok (.aload_n 0, 1) := by decide +kernel
theorem dX12_see_6 : decode cX12_see 6 = .ok (.iconst 0, 1) := by decide +kernel
theorem dX12_see_7 : decode cX12_see 7 = .ok (.putfield 13, 3) := by decide +kernel
theorem dX12_see_10 : decode cX12_see 10 = .ok (.aload_n 0, 1) := by decide +kernel
theorem dX12_see_11 : decode cX12_see 11 = .ok (.getfield 146, 3) := by decide +kernel
theorem dX12_see_14 : decode cX12_see 14 = .ok (.ifCond .eq 23, 3) := by decide +kernel
theorem dX12_see_37 : decode cX12_see 37 = .ok (.iconst 0, 1) := by decide +kernel
theorem dX12_see_38 : decode cX12_see 38 = .ok (.istore_n 2, 1) := by decide +kernel
theorem dX12_see_39 : decode cX12_see 39 = .ok (.iconst 0, 1) := by decide +kernel
theorem dX12_see_40 : decode cX12_see 40 = .ok (.istore_n 3, 1) := by decide +kernel
theorem dX12_see_41 : decode cX12_see 41 = .ok (.iload_n 3, 1) := by decide +kernel
theorem dX12_see_42 : decode cX12_see 42 = .ok (.iload_n 1, 1) := by decide +kernel
theorem dX12_see_43 : decode cX12_see 43 = .ok (.if_icmp .ge 75, 3) := by decide +kernel
theorem dX12_see_118 : decode cX12_see 118 = .ok (.iload_n 2, 1) := by decide +kernel
theorem dX12_see_119 : decode cX12_see 119 = .ok (.ifCond .ne 9, 3) := by decide +kernel
theorem dX12_see_122 : decode cX12_see 122 = .ok (.aload_n 0, 1) := by decide +kernel
theorem dX12_see_123 : decode cX12_see 123 = .ok (.iconst 5, 1) := by decide +kernel
theorem dX12_see_124 : decode cX12_see 124 = .ok (.invokevirtual 312, 3) := by decide +kernel
theorem dX12_see_127 : decode cX12_see 127 = .ok (.ireturn, 1) := by decide +kernel
theorem dX12_sets_0 : decode cX12_sets 0 = .ok (.aload_n 0, 1) := by decide +kernel
theorem dX12_sets_1 : decode cX12_sets 1 = .ok (.getfield 146, 3) := by decide +kernel
theorem dX12_sets_4 : decode cX12_sets 4 = .ok (.ifCond .eq 8, 3) := by decide +kernel
theorem dX12_sets_12 : decode cX12_sets 12 = .ok (.iconst (-1), 1) := by decide +kernel
theorem dX12_sets_13 : decode cX12_sets 13 = .ok (.ireturn, 1) := by decide +kernel
theorem dX12_tells_0 : decode cX12_tells 0 = .ok (.aload_n 0, 1) := by decide +kernel
theorem dX12_tells_1 : decode cX12_tells 1 = .ok (.getfield 146, 3) := by decide +kernel
theorem dX12_tells_4 : decode cX12_tells 4 = .ok (.ifCond .eq 12, 3) := by decide +kernel
theorem dX12_tells_16 : decode cX12_tells 16 = .ok (.iconst (-1), 1) := by decide +kernel
theorem dX12_tells_17 : decode cX12_tells 17 = .ok (.ireturn, 1) := by decide +kernel
theorem dX12_run_0 : decode cX12_run 0 = .ok (.aload_n 0, 1) := by decide +kernel
theorem dX12_run_1 : decode cX12_run 1 = .ok (.iload_n 1, 1) := by decide +kernel
theorem dX12_run_2 : decode cX12_run 2 = .ok (.invokevirtual 516, 3) := by decide +kernel
theorem dX12_run_5 : decode cX12_run 5 = .ok (.ifCond .ne 9, 3) := by decide +kernel
theorem dX12_run_8 : decode cX12_run 8 = .ok (.aload_n 0, 1) := by decide +kernel
theorem dX12_run_9 : decode cX12_run 9 = .ok (.iconst 2, 1) := by decide +kernel
theorem dX12_run_10 : decode cX12_run 10 = .ok (.invokevirtual 312, 3) := by decide +kernel
theorem dX12_run_13 : decode cX12_run 13 = .ok (.ireturn, 1) := by decide +kernel
theorem dX12_chance_0 : decode cX12_chance 0 = .ok (.aload_n 0, 1) := by decide +kernel
theorem dX12_chance_1 : decode cX12_chance 1 = .ok (.getfield 146, 3) := by decide +kernel
theorem dX12_chance_4 : decode cX12_chance 4 = .ok (.ifCond .eq 13, 3) := by decide +kernel
theorem dX12_chance_17 : decode cX12_chance 17 = .ok (.aload_n 0, 1) := by decide +kernel
theorem dX12_chance_18 : decode cX12_chance 18 = .ok (.iconst 2, 1) := by decide +kernel
theorem dX12_chance_19 : decode cX12_chance 19 = .ok (.invokevirtual 312, 3) := by decide +kernel
theorem dX12_chance_22 : decode cX12_chance 22 = .ok (.ireturn, 1) := by decide +kernel
theorem dX12_swap_0 : decode cX12_swap 0 = .ok (.aload_n 0, 1) := by decide +kernel
theorem dX12_swap_1 : decode cX12_swap 1 = .ok (.iload_n 1, 1) := by decide +kernel
theorem dX12_swap_2 : decode cX12_swap 2 = .ok (.invokevirtual 498, 3) := by decide +kernel
theorem dX12_swap_5 : decode cX12_swap 5 = .ok (.ifCond .eq 16, 3) := by decide +kernel
theorem dX12_swap_21 : decode cX12_swap 21 = .ok (.aload_n 0, 1) := by decide +kernel
theorem dX12_swap_22 : decode cX12_swap 22 = .ok (.iconst 3, 1) := by decide +kernel
theorem dX12_swap_23 : decode cX12_swap 23 = .ok (.invokevirtual 312, 3) := by decide +kernel
theorem dX12_swap_26 : decode cX12_swap 26 = .ok (.ifCond .lt 7, 3) := by decide +kernel
theorem dX12_swap_33 : decode cX12_swap 33 = .ok (.iconst 0, 1) := by decide +kernel
theorem dX12_swap_34 : decode cX12_swap 34 = .ok (.ireturn, 1) := by decide +kernel
theorem dX12_drop_0 : decode cX12_drop 0 = .ok (.aload_n 0, 1) := by decide +kernel
theorem dX12_drop_1 : decode cX12_drop 1 = .ok (.iload_n 1, 1) := by decide +kernel
theorem dX12_drop_2 : decode cX12_drop 2 = .ok (.invokevirtual 498, 3) := by decide +kernel
theorem dX12_drop_5 : decode cX12_drop 5 = .ok (.ifCond .ne 17, 3) := by decide +kernel
theorem dX12_drop_8 : decode cX12_drop 8 = .ok (.aload_n 0, 1) := by decide +kernel
theorem dX12_drop_9 : decode cX12_drop 9 = .ok (.iconst 3, 1) := by decide +kernel
theorem dX12_drop_10 : decode cX12_drop 10 = .ok (.invokevirtual 312, 3) := by decide +kernel
theorem dX12_drop_13 : decode cX12_drop 13 = .ok (.ifCond .lt 7, 3) := by decide +kernel
theorem dX12_drop_20 : decode cX12_drop 20 = .ok (.iconst 0, 1) := by decide +kernel
theorem dX12_drop_21 : decode cX12_drop 21 = .ok (.ireturn, 1) := by decide +kernel
theorem dX12_turn_0 : decode cX12_turn 0 = .ok (.aload_n 0, 1) := by decide +kernel
theorem dX12_turn_1 : decode cX12_turn 1 = .ok (.getfield 146, 3) := by decide +kernel
theorem dX12_turn_4 : decode cX12_turn 4 = .ok (.ifCond .eq 13, 3) := by decide +kernel
theorem dX12_turn_17 : decode cX12_turn 17 = .ok (.aload_n 0, 1) := by decide +kernel
theorem dX12_turn_18 : decode cX12_turn 18 = .ok (.iconst 3, 1) := by decide +kernel
theorem dX12_turn_19 : decode cX12_turn 19 = .ok (.invokevirtual 312, 3) := by decide +kernel
theorem dX12_turn_22 : decode cX12_turn 22 = .ok (.ireturn, 1) := by decide +kernel
theorem dX12_choose_0 : decode cX12_choose 0 = .ok (.aload_n 0, 1) := by decide +kernel
theorem dX12_choose_1 : decode cX12_choose 1 = .ok (.getfield 146, 3) := by decide +kernel
theorem dX12_choose_4 : decode cX12_choose 4 = .ok (.ifCond .eq 22, 3) := by decide +kernel
theorem dX12_choose_26 : decode cX12_choose 26 = .ok (.aload_n 0, 1) := by decide +kernel
theorem dX12_choose_27 : decode cX12_choose 27 = .ok (.iconst 3, 1) := by decide +kernel
theorem dX12_choose_28 : decode cX12_choose 28 = .ok (.invokevirtual 312, 3) := by decide +kernel
theorem dX12_choose_31 : decode cX12_choose 31 = .ok (.ifCond .lt 7, 3) := by decide +kernel
theorem dX12_choose_38 : decode cX12_choose 38 = .ok (.iconst 0, 1) := by decide +kernel
theorem dX12_choose_39 : decode cX12_choose 39 = .ok (.ireturn, 1) := by decide +kernel
theorem dX12_seed_0 : decode cX12_seed 0 = .ok (.iload_n 1, 1) := by decide +kernel
theorem dX12_seed_1 : decode cX12_seed 1 = .ok (.ifCond .ge 17, 3) := by decide +kernel
theorem dX12_seed_4 : decode cX12_seed 4 = .ok (.aload_n 0, 1) := by decide +kernel
theorem dX12_seed_5 : decode cX12_seed 5 = .ok (.iconst 5, 1) := by decide +kernel
theorem dX12_seed_6 : decode cX12_seed 6 = .ok (.invokevirtual 312, 3) := by decide +kernel
theorem dX12_seed_9 : decode cX12_seed 9 = .ok (.ifCond .lt 7, 3) := by decide +kernel
theorem dX12_seed_16 : decode cX12_seed 16 = .ok (.iconst 0, 1) := by decide +kernel
theorem dX12_seed_17 : decode cX12_seed 17 = .ok (.ireturn, 1) := by decide +kernel
theorem dX12_seed_18 : decode cX12_seed 18 = .ok (.aload_n 0, 1) := by decide +kernel
theorem dX12_seed_19 : decode cX12_seed 19 = .ok (.iload_n 1, 1) := by decide +kernel
theorem dX12_seed_20 : decode cX12_seed 20 = .ok (.i2l, 1) := by decide +kernel
theorem dX12_seed_21 : decode cX12_seed 21 = .ok (.putfield 197, 3) := by decide +kernel
theorem dX12_seed_24 : decode cX12_seed 24 = .ok (.iconst 1, 1) := by decide +kernel
theorem dX12_seed_25 : decode cX12_seed 25 = .ok (.ireturn, 1) := by decide +kernel
theorem dX12_kept_0 : decode cX12_kept 0 = .ok (.iload_n 1, 1) := by decide +kernel
theorem dX12_kept_1 : decode cX12_kept 1 = .ok (.iconst 0, 1) := by decide +kernel
theorem dX12_kept_2 : decode cX12_kept 2 = .ok (.aload_n 0, 1) := by decide +kernel
theorem dX12_kept_3 : decode cX12_kept 3 = .ok (.getfield 185, 3) := by decide +kernel
theorem dX12_kept_6 : decode cX12_kept 6 = .ok (.iconst 0, 1) := by decide +kernel
theorem dX12_kept_7 : decode cX12_kept 7 = .ok (.iaload, 1) := by decide +kernel
theorem dX12_kept_8 : decode cX12_kept 8 = .ok (.iconst 1, 1) := by decide +kernel
theorem dX12_kept_9 : decode cX12_kept 9 = .ok (.isub, 1) := by decide +kernel
theorem dX12_kept_10 : decode cX12_kept 10 = .ok (.invokestatic 362, 3) := by decide +kernel
theorem dX12_kept_13 : decode cX12_kept 13 = .ok (.ifCond .eq 25, 3) := by decide +kernel
theorem dX12_kept_38 : decode cX12_kept 38 = .ok (.iconst (-1), 1) := by decide +kernel
theorem dX12_kept_39 : decode cX12_kept 39 = .ok (.ireturn, 1) := by decide +kernel
theorem dX12_image_0 : decode cX12_image 0 = .ok (.aload_n 0, 1) := by decide +kernel
theorem dX12_image_1 : decode cX12_image 1 = .ok (.iconst 0, 1) := by decide +kernel
theorem dX12_image_2 : decode cX12_image 2 = .ok (.putfield 224, 3) := by decide +kernel
theorem dX12_image_5 : decode cX12_image 5 = .ok (.aload_n 0, 1) := by decide +kernel
theorem dX12_image_6 : decode cX12_image 6 = .ok (.aload_n 0, 1) := by decide +kernel
theorem dX12_image_7 : decode cX12_image 7 = .ok (.getfield 173, 3) := by decide +kernel
theorem dX12_image_10 : decode cX12_image 10 = .ok (.iconst 0, 1) := by decide +kernel
theorem dX12_image_11 : decode cX12_image 11 = .ok (.iaload, 1) := by decide +kernel
theorem dX12_image_12 : decode cX12_image 12 = .ok (.invokevirtual 528, 3) := by decide +kernel
theorem dX12_image_15 : decode cX12_image 15 = .ok (.iconst 0, 1) := by decide +kernel
theorem dX12_image_16 : decode cX12_image 16 = .ok (.istore_n 1, 1) := by decide +kernel
theorem dX12_image_17 : decode cX12_image 17 = .ok (.iload_n 1, 1) := by decide +kernel
theorem dX12_image_18 : decode cX12_image 18 = .ok (.aload_n 0, 1) := by decide +kernel
theorem dX12_image_19 : decode cX12_image 19 = .ok (.getfield 173, 3) := by decide +kernel
theorem dX12_image_22 : decode cX12_image 22 = .ok (.iconst 0, 1) := by decide +kernel
theorem dX12_image_23 : decode cX12_image 23 = .ok (.iaload, 1) := by decide +kernel
theorem dX12_image_24 : decode cX12_image 24 = .ok (.if_icmp .ge 19, 3) := by decide +kernel
theorem dX12_image_43 : decode cX12_image 43 = .ok (.aload_n 0, 1) := by decide +kernel
theorem dX12_image_44 : decode cX12_image 44 = .ok (.aload_n 0, 1) := by decide +kernel
theorem dX12_image_45 : decode cX12_image 45 = .ok (.getfield 179, 3) := by decide +kernel
theorem dX12_image_48 : decode cX12_image 48 = .ok (.iconst 0, 1) := by decide +kernel
theorem dX12_image_49 : decode cX12_image 49 = .ok (.iaload, 1) := by decide +kernel
theorem dX12_image_50 : decode cX12_image 50 = .ok (.invokevirtual 528, 3) := by decide +kernel
theorem dX12_image_53 : decode cX12_image 53 = .ok (.aload_n 0, 1) := by decide +kernel
theorem dX12_image_54 : decode cX12_image 54 = .ok (.aload_n 0, 1) := by decide +kernel
theorem dX12_image_55 : decode cX12_image 55 = .ok (.getfield 182, 3) := by decide +kernel
theorem dX12_image_58 : decode cX12_image 58 = .ok (.iconst 0, 1) := by decide +kernel
theorem dX12_image_59 : decode cX12_image 59 = .ok (.iaload, 1) := by decide +kernel
theorem dX12_image_60 : decode cX12_image 60 = .ok (.invokevirtual 528, 3) := by decide +kernel
theorem dX12_image_63 : decode cX12_image 63 = .ok (.sipush 199, 3) := by decide +kernel
theorem dX12_image_66 : decode cX12_image 66 = .ok (.istore_n 1, 1) := by decide +kernel
theorem dX12_image_67 : decode cX12_image 67 = .ok (.iconst 0, 1) := by decide +kernel
theorem dX12_image_68 : decode cX12_image 68 = .ok (.istore_n 2, 1) := by decide +kernel
theorem dX12_image_69 : decode cX12_image 69 = .ok (.iload_n 2, 1) := by decide +kernel
theorem dX12_image_70 : decode cX12_image 70 = .ok (.aload_n 0, 1) := by decide +kernel
theorem dX12_image_71 : decode cX12_image 71 = .ok (.getfield 224, 3) := by decide +kernel
theorem dX12_image_74 : decode cX12_image 74 = .ok (.if_icmp .ge 24, 3) := by decide +kernel
theorem dX12_image_77 : decode cX12_image 77 = .ok (.iconst 5, 1) := by decide +kernel
theorem dX12_image_78 : decode cX12_image 78 = .ok (.iload_n 1, 1) := by decide +kernel
theorem dX12_image_79 : decode cX12_image 79 = .ok (.imul, 1) := by decide +kernel
theorem dX12_image_80 : decode cX12_image 80 = .ok (.aload_n 0, 1) := by decide +kernel
theorem dX12_image_81 : decode cX12_image 81 = .ok (.getfield 221, 3) := by decide +kernel
theorem dX12_image_84 : decode cX12_image 84 = .ok (.iload_n 2, 1) := by decide +kernel
theorem dX12_image_85 : decode cX12_image 85 = .ok (.iaload, 1) := by decide +kernel
theorem dX12_image_86 : decode cX12_image 86 = .ok (.iadd, 1) := by decide +kernel
theorem dX12_image_87 : decode cX12_image 87 = .ok (.sipush 251, 3) := by decide +kernel
theorem dX12_image_90 : decode cX12_image 90 = .ok (.irem, 1) := by decide +kernel
theorem dX12_image_91 : decode cX12_image 91 = .ok (.istore_n 1, 1) := by decide +kernel
theorem dX12_image_92 : decode cX12_image 92 = .ok (.iinc 2 1, 3) := by decide +kernel
theorem dX12_image_95 : decode cX12_image 95 = .ok (.goto (-26), 3) := by decide +kernel
theorem dX12_image_98 : decode cX12_image 98 = .ok (.aload_n 0, 1) := by decide +kernel
theorem dX12_image_99 : decode cX12_image 99 = .ok (.iload_n 1, 1) := by decide +kernel
theorem dX12_image_100 : decode cX12_image 100 = .ok (.invokevirtual 528, 3) := by decide +kernel
theorem dX12_image_103 : decode cX12_image 103 = .ok (.aload_n 0, 1) := by decide +kernel
theorem dX12_image_104 : decode cX12_image 104 = .ok (.getfield 224, 3) := by decide +kernel
theorem dX12_image_107 : decode cX12_image 107 = .ok (.ireturn, 1) := by decide +kernel
theorem dX12_comesOn_0 : decode cX12_comesOn 0 = .ok (.aload_n 0, 1) := by decide +kernel
theorem dX12_comesOn_1 : decode cX12_comesOn 1 = .ok (.getfield 146, 3) := by decide +kernel
theorem dX12_comesOn_4 : decode cX12_comesOn 4 = .ok (.ifCond .eq 38, 3) := by decide +kernel
theorem dX12_comesOn_42 : decode cX12_comesOn 42 = .ok (.iconst 0, 1) := by decide +kernel
theorem dX12_comesOn_43 : decode cX12_comesOn 43 = .ok (.ireturn, 1) := by decide +kernel
theorem dX12_on_0 : decode cX12_on 0 = .ok (.aload_n 0, 1) := by decide +kernel
theorem dX12_on_1 : decode cX12_on 1 = .ok (.getfield 13, 3) := by decide +kernel
theorem dX12_on_4 : decode cX12_on 4 = .ok (.istore_n 1, 1) := by decide +kernel
theorem dX12_on_5 : decode cX12_on 5 = .ok (.aload_n 0, 1) := by decide +kernel
theorem dX12_on_6 : decode cX12_on 6 = .ok (.iconst 0, 1) := by decide +kernel
theorem dX12_on_7 : decode cX12_on 7 = .ok (.putfield 13, 3) := by decide +kernel
theorem dX12_on_10 : decode cX12_on 10 = .ok (.aload_n 0, 1) := by decide +kernel
theorem dX12_on_11 : decode cX12_on 11 = .ok (.iload_n 1, 1) := by decide +kernel
theorem dX12_on_12 : decode cX12_on 12 = .ok (.invokevirtual 645, 3) := by decide +kernel
theorem dX12_on_15 : decode cX12_on 15 = .ok (.ifCond .ne 17, 3) := by decide +kernel
theorem dX12_on_18 : decode cX12_on 18 = .ok (.aload_n 0, 1) := by decide +kernel
theorem dX12_on_19 : decode cX12_on 19 = .ok (.iconst 5, 1) := by decide +kernel
theorem dX12_on_20 : decode cX12_on 20 = .ok (.invokevirtual 312, 3) := by decide +kernel
theorem dX12_on_23 : decode cX12_on 23 = .ok (.ifCond .lt 7, 3) := by decide +kernel
theorem dX12_on_30 : decode cX12_on 30 = .ok (.iconst 0, 1) := by decide +kernel
theorem dX12_on_31 : decode cX12_on 31 = .ok (.ireturn, 1) := by decide +kernel
theorem dJ0_length_8abf5_0 : decode cJ0_length_8abf5 0 = .ok (.aload_n 0, 1) := by decide +kernel
theorem dJ0_length_8abf5_1 : decode cJ0_length_8abf5 1 = .ok (.getfield 9, 3) := by decide +kernel
theorem dJ0_length_8abf5_4 : decode cJ0_length_8abf5 4 = .ok (.arraylength, 1) := by decide +kernel
theorem dJ0_length_8abf5_5 : decode cJ0_length_8abf5 5 = .ok (.aload_n 0, 1) := by decide +kernel
theorem dJ0_length_8abf5_6 : decode cJ0_length_8abf5 6 = .ok (.invokevirtual 335, 3) := by decide +kernel
theorem dJ0_length_8abf5_9 : decode cJ0_length_8abf5 9 = .ok (.ishr, 1) := by decide +kernel
theorem dJ0_length_8abf5_10 : decode cJ0_length_8abf5 10 = .ok (.ireturn, 1) := by decide +kernel
theorem dJ0_charAt_5068e_0 : decode cJ0_charAt_5068e 0 = .ok (.aload_n 0, 1) := by decide +kernel
theorem dJ0_charAt_5068e_1 : decode cJ0_charAt_5068e 1 = .ok (.invokevirtual 492, 3) := by decide +kernel
theorem dJ0_charAt_5068e_4 : decode cJ0_charAt_5068e 4 = .ok (.ifCond .eq 12, 3) := by decide +kernel
theorem dJ0_charAt_5068e_7 : decode cJ0_charAt_5068e 7 = .ok (.aload_n 0, 1) := by decide +kernel
theorem dJ0_charAt_5068e_8 : decode cJ0_charAt_5068e 8 = .ok (.getfield 9, 3) := by decide +kernel
theorem dJ0_charAt_5068e_11 : decode cJ0_charAt_5068e 11 = .ok (.iload_n 1, 1) := by decide +kernel
theorem dJ0_charAt_5068e_12 : decode cJ0_charAt_5068e 12 = .ok (.invokestatic 495, 3) := by decide +kernel
theorem dJ0_charAt_5068e_15 : decode cJ0_charAt_5068e 15 = .ok (.ireturn, 1) := by decide +kernel
theorem dJ0_coder_7d493_0 : decode cJ0_coder_7d493 0 = .ok (.getstatic 38, 3) := by decide +kernel
theorem dJ0_coder_7d493_3 : decode cJ0_coder_7d493 3 = .ok (.ifCond .eq 10, 3) := by decide +kernel
theorem dJ0_coder_7d493_6 : decode cJ0_coder_7d493 6 = .ok (.aload_n 0, 1) := by decide +kernel
theorem dJ0_coder_7d493_7 : decode cJ0_coder_7d493 7 = .ok (.getfield 15, 3) := by decide +kernel
theorem dJ0_coder_7d493_10 : decode cJ0_coder_7d493 10 = .ok (.goto 4, 3) := by decide +kernel
theorem dJ0_coder_7d493_14 : decode cJ0_coder_7d493 14 = .ok (.ireturn, 1) := by decide +kernel
theorem dJ0_isLatin1_aae02_0 : decode cJ0_isLatin1_aae02 0 = .ok (.getstatic 38, 3) := by decide +kernel
theorem dJ0_isLatin1_aae02_3 : decode cJ0_isLatin1_aae02 3 = .ok (.ifCond .eq 14, 3) := by decide +kernel
theorem dJ0_isLatin1_aae02_6 : decode cJ0_isLatin1_aae02 6 = .ok (.aload_n 0, 1) := by decide +kernel
theorem dJ0_isLatin1_aae02_7 : decode cJ0_isLatin1_aae02 7 = .ok (.getfield 15, 3) := by decide +kernel
theorem dJ0_isLatin1_aae02_10 : decode cJ0_isLatin1_aae02 10 = .ok (.ifCond .ne 7, 3) := by decide +kernel
theorem dJ0_isLatin1_aae02_13 : decode cJ0_isLatin1_aae02 13 = .ok (.iconst 1, 1) := by decide +kernel
theorem dJ0_isLatin1_aae02_14 : decode cJ0_isLatin1_aae02 14 = .ok (.goto 4, 3) := by decide +kernel
theorem dJ0_isLatin1_aae02_18 : decode cJ0_isLatin1_aae02 18 = .ok (.ireturn, 1) := by decide +kernel
theorem dJ0_checkIndex_df160_0 : decode cJ0_checkIndex_df160 0 = .ok (.iload_n 0, 1) := by decide +kernel
theorem dJ0_checkIndex_df160_1 : decode cJ0_checkIndex_df160 1 = .ok (.iload_n 1, 1) := by decide +kernel
theorem dJ0_checkIndex_df160_2 : decode cJ0_checkIndex_df160 2 = .ok (.getstatic 1053, 3) := by decide +kernel
theorem dJ0_checkIndex_df160_5 : decode cJ0_checkIndex_df160 5 = .ok (.invokestatic 1059, 3) := by decide +kernel
theorem dJ0_checkIndex_df160_8 : decode cJ0_checkIndex_df160 8 = .ok (.pop, 1) := by decide +kernel
theorem dJ0_checkIndex_df160_9 : decode cJ0_checkIndex_df160 9 = .ok (.return_, 1) := by decide +kernel
theorem dJ1_charAt_3b067_0 : decode cJ1_charAt_3b067 0 = .ok (.iload_n 1, 1) := by decide +kernel
theorem dJ1_charAt_3b067_1 : decode cJ1_charAt_3b067 1 = .ok (.aload_n 0, 1) := by decide +kernel
theorem dJ1_charAt_3b067_2 : decode cJ1_charAt_3b067 2 = .ok (.arraylength, 1) := by decide +kernel
theorem dJ1_charAt_3b067_3 : decode cJ1_charAt_3b067 3 = .ok (.invokestatic 9, 3) := by decide +kernel
theorem dJ1_charAt_3b067_6 : decode cJ1_charAt_3b067 6 = .ok (.aload_n 0, 1) := by decide +kernel
theorem dJ1_charAt_3b067_7 : decode cJ1_charAt_3b067 7 = .ok (.iload_n 1, 1) := by decide +kernel
theorem dJ1_charAt_3b067_8 : decode cJ1_charAt_3b067 8 = .ok (.baload, 1) := by decide +kernel
theorem dJ1_charAt_3b067_9 : decode cJ1_charAt_3b067 9 = .ok (.sipush 255, 3) := by decide +kernel
theorem dJ1_charAt_3b067_12 : decode cJ1_charAt_3b067 12 = .ok (.iand, 1) := by decide +kernel
theorem dJ1_charAt_3b067_13 : decode cJ1_charAt_3b067 13 = .ok (.i2c, 1) := by decide +kernel
theorem dJ1_charAt_3b067_14 : decode cJ1_charAt_3b067 14 = .ok (.ireturn, 1) := by decide +kernel
theorem dJ3_checkIndex_8e157_0 : decode cJ3_checkIndex_8e157 0 = .ok (.iload_n 0, 1) := by decide +kernel
theorem dJ3_checkIndex_8e157_1 : decode cJ3_checkIndex_8e157 1 = .ok (.ifCond .lt 8, 3) := by decide +kernel
theorem dJ3_checkIndex_8e157_4 : decode cJ3_checkIndex_8e157 4 = .ok (.iload_n 0, 1) := by decide +kernel
theorem dJ3_checkIndex_8e157_5 : decode cJ3_checkIndex_8e157 5 = .ok (.iload_n 1, 1) := by decide +kernel
theorem dJ3_checkIndex_8e157_6 : decode cJ3_checkIndex_8e157 6 = .ok (.if_icmp .lt 10, 3) := by decide +kernel
theorem dJ3_checkIndex_8e157_16 : decode cJ3_checkIndex_8e157 16 = .ok (.iload_n 0, 1) := by decide +kernel
theorem dJ3_checkIndex_8e157_17 : decode cJ3_checkIndex_8e157 17 = .ok (.ireturn, 1) := by decide +kernel
end
section
set_option maxRecDepth 20000 in
theorem ggX0_init_X5_init : GoodIn wsX0_init wsX5_init := goodIn_r _ [14, 15, 2, 3, 4, 16, 25, 26, 27, 28] rfl (by decide +kernel)
set_option maxRecDepth 20000 in
theorem gX0_init_X5_init_n30 : GoodIn wsX0_init (wsX5_init) := ggX0_init_X5_init
set_option maxRecDepth 20000 in
theorem ggX0_tellKept_X0_keptTold : GoodIn wsX0_tellKept wsX0_keptTold := goodIn_r _ [9, 1, 10, 11, 12, 13, 18, 19, 20, 21, 22, 23, 24, 25] rfl (by decide +kernel)
set_option maxRecDepth 20000 in
theorem gX0_tellKept_X0_keptTold : GoodIn wsX0_tellKept (wsV RX0 47 RX0 yX0_keptTold wsX0_keptTold) := goodIn_app (goodIn_of _ (by decide +kernel)) ggX0_tellKept_X0_keptTold
set_option maxRecDepth 20000 in
theorem ggX1_addFour_X1_add : GoodIn wsX1_addFour wsX1_add := goodIn_r _ [5, 6, 7, 8, 9] rfl (by decide +kernel)
set_option maxRecDepth 20000 in
theorem gX1_addFour_X1_add : GoodIn wsX1_addFour (wsV RX1 25 RX1 yX1_add wsX1_add) := goodIn_app (goodIn_of _ (by decide +kernel)) ggX1_addFour_X1_add
set_option maxRecDepth 20000 in
theorem ggX5_armAt_X5_isPlace : GoodIn wsX5_armAt wsX5_isPlace := goodIn_r _ [6, 7, 8, 9, 10, 11] rfl (by decide +kernel)
set_option maxRecDepth 20000 in
theorem gX5_armAt_X5_isPlace : GoodIn wsX5_armAt (wsV RX5 34 RX5 yX5_isPlace wsX5_isPlace) := goodIn_app (goodIn_of _ (by decide +kernel)) ggX5_armAt_X5_isPlace
set_option maxRecDepth 20000 in
theorem ggX6_init_X7_init : GoodIn wsX6_init wsX7_init := goodIn_r _ [14, 15, 2, 3, 9, 16, 17, 18, 19, 6, 20, 21, 22, 23, 24, 25, 26, 27, 28, 29, 30, 31, 32, 33, 34, 35, 36, 37, 38, 39, 40, 41, 42, 43, 44, 45, 46, 47, 48, 49, 50, 51, 52, 53, 54, 55, 56, 57, 58, 59, 60, 61, 62, 63, 64, 65, 66, 67, 68, 69, 70, 71, 72, 73, 74, 75, 76, 77, 78] rfl (by decide +kernel)
set_option maxRecDepth 20000 in
theorem gX6_init_X7_init_n11 : GoodIn wsX6_init (wsX7_init) := ggX6_init_X7_init
set_option maxRecDepth 20000 in
theorem ggX6_readMatch_X9_clear : GoodIn wsX6_readMatch wsX9_clear := goodIn_r _ [11, 12, 13, 14, 15, 16, 17, 18, 19, 20, 21, 22, 23, 24, 250, 251, 252, 253, 254, 255, 256, 257, 258, 259, 260, 261, 262, 263, 264, 265, 266, 267, 268, 269, 270, 271] rfl (by decide +kernel)
set_option maxRecDepth 20000 in
theorem gX6_readMatch_X9_clear : GoodIn wsX6_readMatch (wsV RX6 31 RX9 yX9_clear wsX9_clear) := goodIn_app (goodIn_of _ (by decide +kernel)) ggX6_readMatch_X9_clear
set_option maxRecDepth 20000 in
theorem ggX6_readMatch_X6_begin : GoodIn wsX6_readMatch wsX6_begin := goodIn_r _ [29, 30, 31, 2, 32, 33, 34, 35, 36, 37, 38, 39, 40, 41, 42, 43, 44, 45, 46, 47, 48, 49, 50, 51, 52, 53, 54, 55, 56, 57, 58, 59, 60, 61, 62, 63, 64, 65, 66, 236, 237, 238, 239, 240, 272, 273, 241, 242, 243, 244, 245, 246, 247, 248, 249] rfl (by decide +kernel)
set_option maxRecDepth 20000 in
theorem gX6_readMatch_X6_begin : GoodIn wsX6_readMatch (wsV RX6 36 RX6 yX6_begin wsX6_begin) := goodIn_app (goodIn_of _ (by decide +kernel)) ggX6_readMatch_X6_begin
set_option maxRecDepth 20000 in
theorem ggX6_readMatch_X6_failHere : GoodIn wsX6_readMatch wsX6_failHere := goodIn_r _ [77, 30, 2, 3, 78, 5, 31, 236, 237, 238, 239, 240, 241, 242, 243, 244, 245, 246, 247, 248, 249] rfl (by decide +kernel)
set_option maxRecDepth 20000 in
theorem gX6_readMatch_X6_failHere : GoodIn wsX6_readMatch (wsV RX6 65 RX6 yX6_failHere wsX6_failHere) := goodIn_app (goodIn_of _ (by decide +kernel)) ggX6_readMatch_X6_failHere
set_option maxRecDepth 20000 in
theorem ggX6_begin_X7_begin : GoodIn wsX6_begin wsX7_begin := goodIn_r _ [8, 9, 10, 11, 12, 13, 14, 15, 16, 17, 18, 19, 20, 21, 22, 23, 24, 7, 25, 26, 27, 28, 29, 30, 31, 32, 33, 34, 35, 36, 37, 38, 44, 45, 46, 47, 48, 49, 50, 51, 52, 53, 54] rfl (by decide +kernel)
set_option maxRecDepth 20000 in
theorem gX6_begin_X7_begin : GoodIn wsX6_begin (wsV RX6 85 RX7 yX7_begin wsX7_begin) := goodIn_app (goodIn_of _ (by decide +kernel)) ggX6_begin_X7_begin
set_option maxRecDepth 20000 in
theorem ggX6_readRow_X6_begin : GoodIn wsX6_readRow wsX6_begin := goodIn_r _ [11, 12, 13, 5, 14, 15, 16, 17, 18, 19, 20, 21, 22, 23, 24, 25, 26, 27, 28, 29, 30, 31, 32, 33, 34, 35, 36, 37, 38, 39, 40, 41, 42, 43, 44, 45, 46, 47, 48, 122, 123, 124, 125, 126, 147, 148, 138, 139, 140, 141, 142, 143, 144, 145, 146] rfl (by decide +kernel)
set_option maxRecDepth 20000 in
theorem gX6_readRow_X6_begin : GoodIn wsX6_readRow (wsV RX6 36 RX6 yX6_begin wsX6_begin) := goodIn_app (goodIn_of _ (by decide +kernel)) ggX6_readRow_X6_begin
set_option maxRecDepth 20000 in
theorem ggX6_readRow_X6_fail : GoodIn wsX6_readRow wsX6_fail := goodIn_r _ [52, 12, 13, 122, 123, 124, 125, 126] rfl (by decide +kernel)
set_option maxRecDepth 20000 in
theorem gX6_readRow_X6_fail : GoodIn wsX6_readRow (wsV RX6 75 RX6 yX6_fail wsX6_fail) := goodIn_app (goodIn_of _ (by decide +kernel)) ggX6_readRow_X6_fail
set_option maxRecDepth 20000 in
theorem ggX7_init_X7_spell : GoodIn wsX7_init wsX7_spell := goodIn_r _ [10, 11, 12, 13, 14, 15, 16, 17, 18, 19, 20, 21, 22, 23, 24, 25, 26, 27, 28, 29, 30, 31, 32, 33, 34, 35, 36, 37, 38, 39, 40, 41, 42, 43, 44, 45, 46, 47, 48, 49, 50, 51, 52, 53, 54, 55, 56, 57, 58, 59] rfl (by decide +kernel)
set_option maxRecDepth 20000 in
theorem gX7_init_X7_spell : GoodIn wsX7_init (va_wsS RX7 11 yX7_spell wsX7_spell) := goodIn_app (goodIn_of _ (by decide +kernel)) ggX7_init_X7_spell
set_option maxRecDepth 20000 in
theorem ggX7_spell_J0_length_8abf5 : GoodIn wsX7_spell wsJ0_length_8abf5 := goodIn_r _ [5, 6, 7, 8, 9, 4, 10, 11, 12] rfl (by decide +kernel)
set_option maxRecDepth 20000 in
theorem gX7_spell_J0_length_8abf5 : GoodIn wsX7_spell (wsV RX7 44 RJ0 yJ0_length_8abf5 wsJ0_length_8abf5) := goodIn_app (goodIn_of _ (by decide +kernel)) ggX7_spell_J0_length_8abf5
set_option maxRecDepth 20000 in
theorem ggX7_spell_J0_charAt_5068e : GoodIn wsX7_spell wsJ0_charAt_5068e := goodIn_r _ [16, 6, 17, 18, 19, 4, 20, 11, 12, 21, 22, 23, 24, 25, 26, 27, 28, 29, 30, 31, 32, 33, 34, 35, 36, 37, 38, 39, 40, 41, 42, 43, 44, 45, 46, 47, 48, 49] rfl (by decide +kernel)
set_option maxRecDepth 20000 in
theorem gX7_spell_J0_charAt_5068e : GoodIn wsX7_spell (wsV RX7 50 RJ0 yJ0_charAt_5068e wsJ0_charAt_5068e) := goodIn_app (goodIn_of _ (by decide +kernel)) ggX7_spell_J0_charAt_5068e
set_option maxRecDepth 20000 in
theorem ggX7_begin_X7_step : GoodIn wsX7_begin wsX7_step := goodIn_r _ [18, 13, 12, 11, 2, 19, 20, 21, 22, 23, 24, 25, 17, 26, 27, 28, 29, 30, 31, 34, 35, 36, 37, 38, 39, 40, 41, 42] rfl (by decide +kernel)
set_option maxRecDepth 20000 in
theorem gX7_begin_X7_step : GoodIn wsX7_begin (wsV RX7 78 RX7 yX7_step wsX7_step) := goodIn_app (goodIn_of _ (by decide +kernel)) ggX7_begin_X7_step
set_option maxRecDepth 20000 in
theorem ggX9_init_X3_init : GoodIn wsX9_init wsX3_init := goodIn_r _ [16, 17, 2, 3, 8, 18, 19, 20, 21, 22, 23, 24, 25, 26, 27, 28, 29, 30, 31, 32, 33, 34, 35, 36, 37] rfl (by decide +kernel)
set_option maxRecDepth 20000 in
theorem gX9_init_X3_init_n11 : GoodIn wsX9_init (wsX3_init) := ggX9_init_X3_init
set_option maxRecDepth 20000 in
theorem ggX9_clear_X3_clear : GoodIn wsX9_clear wsX3_clear := goodIn_r _ [11, 12, 13, 25, 26, 27, 28, 29, 30, 31, 32, 33, 34, 35] rfl (by decide +kernel)
set_option maxRecDepth 20000 in
theorem gX9_clear_X3_clear : GoodIn wsX9_clear (wsV RX9 36 RX3 yX3_clear wsX3_clear) := goodIn_app (goodIn_of _ (by decide +kernel)) ggX9_clear_X3_clear
set_option maxRecDepth 20000 in
theorem ggX10_init_X2_init : GoodIn wsX10_init wsX2_init := goodIn_r _ [19, 20, 2, 3, 21, 22, 23, 24, 10, 25, 26, 27, 43, 44, 45, 46] rfl (by decide +kernel)
set_option maxRecDepth 20000 in
theorem gX10_init_X2_init : GoodIn wsX10_init (wsX2_init) := ggX10_init_X2_init
set_option maxRecDepth 20000 in
theorem ggX11_init_X1_init : GoodIn wsX11_init wsX1_init := goodIn_r _ [49, 50, 2, 3, 51, 52, 53, 54, 31, 55, 199, 200] rfl (by decide +kernel)
set_option maxRecDepth 20000 in
theorem gX11_init_X1_init : GoodIn wsX11_init (wsX1_init) := ggX11_init_X1_init
set_option maxRecDepth 20000 in
theorem ggX11_init_X4_init : GoodIn wsX11_init wsX4_init := goodIn_r _ [57, 58, 2, 3, 31, 59, 60, 216, 217, 218] rfl (by decide +kernel)
set_option maxRecDepth 20000 in
theorem gX11_init_X4_init_n23 : GoodIn wsX11_init (wsX4_init) := ggX11_init_X4_init
set_option maxRecDepth 20000 in
theorem ggX11_init_X2_init : GoodIn wsX11_init wsX2_init := goodIn_r _ [63, 64, 2, 3, 65, 52, 53, 54, 31, 66, 67, 68, 219, 220, 221, 222] rfl (by decide +kernel)
set_option maxRecDepth 20000 in
theorem gX11_init_X2_init : GoodIn wsX11_init (wsX2_init) := ggX11_init_X2_init
set_option maxRecDepth 20000 in
theorem ggX11_init_X5_init : GoodIn wsX11_init wsX5_init := goodIn_r _ [70, 71, 2, 3, 31, 72, 223, 224, 225, 226] rfl (by decide +kernel)
set_option maxRecDepth 20000 in
theorem gX11_init_X5_init_n42 : GoodIn wsX11_init (wsX5_init) := ggX11_init_X5_init
set_option maxRecDepth 20000 in
theorem ggX11_init_X0_init : GoodIn wsX11_init wsX0_init := goodIn_r _ [75, 76, 2, 3, 31, 77, 78, 79, 80, 81, 82, 19, 20, 69, 70, 71, 72, 227, 228, 229, 230, 231, 232, 233, 234, 223, 224, 225, 226] rfl (by decide +kernel)
set_option maxRecDepth 20000 in
theorem gX11_init_X0_init : GoodIn wsX11_init (wsX0_init) := ggX11_init_X0_init
set_option maxRecDepth 20000 in
theorem ggX11_init_X8_init : GoodIn wsX11_init wsX8_init := goodIn_r _ [84, 85, 2, 3, 31, 86, 87, 88, 89, 235, 236, 237, 238, 239, 240] rfl (by decide +kernel)
set_option maxRecDepth 20000 in
theorem gX11_init_X8_init_n59 : GoodIn wsX11_init (wsX8_init) := ggX11_init_X8_init
set_option maxRecDepth 20000 in
theorem ggX11_init_X9_init : GoodIn wsX11_init wsX9_init := goodIn_r _ [91, 92, 2, 3, 93, 94, 95, 96, 31, 97, 98, 99, 100, 101, 102, 103, 104, 105, 106, 107, 108, 109, 110, 111, 112, 113, 114, 272, 273, 274, 275, 276, 277, 278, 279, 280, 281, 282, 241, 242, 243, 244, 245, 246, 247, 248, 249, 250, 251] rfl (by decide +kernel)
set_option maxRecDepth 20000 in
theorem gX11_init_X9_init_n70 : GoodIn wsX11_init (wsX9_init) := ggX11_init_X9_init
set_option maxRecDepth 20000 in
theorem ggX11_init_X6_init : GoodIn wsX11_init wsX6_init := goodIn_r _ [117, 118, 2, 3, 119, 120, 121, 122, 123, 31, 124, 125, 126, 127, 128, 129, 130, 131, 132, 133, 134, 135, 136, 137, 138, 139, 140, 141, 142, 143, 144, 145, 146, 147, 148, 149, 150, 151, 152, 153, 154, 155, 156, 157, 158, 159, 160, 161, 162, 163, 164, 165, 166, 167, 168, 169, 170, 171, 172, 173, 174, 175, 176, 177, 178, 179, 180, 181, 182, 183, 283, 284, 285, 286, 287, 288, 289, 290, 291, 252, 253, 254, 255, 256] rfl (by decide +kernel)
set_option maxRecDepth 20000 in
theorem gX11_init_X6_init : GoodIn wsX11_init (wsX6_init) := ggX11_init_X6_init
set_option maxRecDepth 20000 in
theorem ggX11_init_X10_init : GoodIn wsX11_init wsX10_init := goodIn_r _ [186, 187, 2, 3, 188, 189, 190, 191, 192, 193, 31, 194, 195, 196, 197, 14, 15, 198, 62, 63, 64, 65, 52, 53, 54, 66, 67, 68, 257, 258, 259, 260, 261, 262, 263, 264, 265, 266, 267, 268, 269, 270, 271, 219, 220, 221, 222] rfl (by decide +kernel)
set_option maxRecDepth 20000 in
theorem gX11_init_X10_init : GoodIn wsX11_init (wsX10_init) := ggX11_init_X10_init
set_option maxRecDepth 20000 in
theorem ggX11_feed_X1_addFour : GoodIn wsX11_feed wsX1_addFour := goodIn_r _ [13, 14, 15, 16, 12, 17, 18, 19, 35, 36] rfl (by decide +kernel)
set_option maxRecDepth 20000 in
theorem gX11_feed_X1_addFour : GoodIn wsX11_feed (wsV RX11 107 RX1 yX1_addFour wsX1_addFour) := goodIn_app (goodIn_of _ (by decide +kernel)) ggX11_feed_X1_addFour
set_option maxRecDepth 20000 in
theorem ggX11_end_X11_refuse : GoodIn wsX11_end wsX11_refuse := goodIn_r _ [7, 8, 9, 10, 11, 12, 13, 14, 15, 16, 17, 18, 19, 20, 21, 22, 23] rfl (by decide +kernel)
set_option maxRecDepth 20000 in
theorem gX11_end_X11_refuse : GoodIn wsX11_end (wsV RX11 103 RX11 yX11_refuse wsX11_refuse) := goodIn_app (goodIn_of _ (by decide +kernel)) ggX11_end_X11_refuse
set_option maxRecDepth 20000 in
theorem ggX11_match_X6_readMatch : GoodIn wsX11_match wsX6_readMatch := goodIn_r _ [10, 11, 12, 13, 14, 15, 16, 17, 18, 19, 20, 21, 22, 23, 24, 25, 26, 27, 28, 29, 30, 31, 32, 33, 34, 35, 36, 37, 9, 38, 39, 40, 41, 42, 43, 44, 45, 46, 47, 48, 49, 50, 51, 52, 53, 54, 55, 56, 57, 58, 59, 60, 61, 62, 63, 64, 65, 66, 67, 68, 69, 70, 71, 72, 73, 74, 75, 76, 77, 78, 79, 80, 81, 82, 83, 84, 85, 86, 87, 88, 89, 90, 91, 92, 93, 94, 95, 96, 97, 98, 99, 100, 101, 102, 103, 104, 105, 106, 107, 108, 109, 110, 111, 112, 113, 114, 115, 116, 117, 118, 119, 120, 121, 122, 123, 124, 125, 126, 127, 128, 129, 130, 131, 132, 133, 134, 135, 136, 137, 138, 139, 140, 141, 142, 143, 144, 145, 146, 147, 148, 149, 150, 151, 152, 153, 154, 155, 156, 157, 158, 159, 160, 161, 162, 163, 164, 165, 166, 167, 168, 169, 170, 171, 172, 173, 174, 175, 176, 177, 178, 179, 180, 181, 182, 183, 184, 185, 186, 187, 188, 189, 190, 191, 192, 193, 194, 195, 196, 197, 198, 199, 200, 201, 202, 203, 204, 205, 206, 207, 208, 209, 210, 211, 212, 213, 214, 215, 216, 217, 218, 219, 220, 221, 222, 223, 224, 225, 226, 227, 228, 229, 230, 231, 232, 233, 234, 235, 236, 237, 238, 239, 240, 241, 242, 243, 244, 351, 352, 353, 354, 355, 356, 357, 358, 359, 360, 361, 362, 363, 364, 365, 366, 367, 368, 369, 370, 371, 372, 373, 374, 375, 376, 377, 378, 379, 380, 381, 382, 383, 384, 385, 386, 349, 350] rfl (by decide +kernel)
set_option maxRecDepth 20000 in
theorem gX11_match_X6_readMatch : GoodIn wsX11_match (wsV RX11 110 RX6 yX6_readMatch wsX6_readMatch) := goodIn_app (goodIn_of _ (by decide +kernel)) ggX11_match_X6_readMatch
set_option maxRecDepth 20000 in
theorem ggX11_match_X11_refuse : GoodIn wsX11_match wsX11_refuse := goodIn_r _ [249, 250, 334, 335, 336, 337, 338, 339, 340, 341, 342, 343, 344, 345, 346, 347, 348] rfl (by decide +kernel)
set_option maxRecDepth 20000 in
theorem gX11_match_X11_refuse : GoodIn wsX11_match (wsV RX11 103 RX11 yX11_refuse wsX11_refuse) := goodIn_app (goodIn_of _ (by decide +kernel)) ggX11_match_X11_refuse
set_option maxRecDepth 20000 in
theorem ggX11_has_X0_keptTold : GoodIn wsX11_has wsX0_keptTold := goodIn_r _ [20, 21, 22, 23, 24, 25, 73, 74, 75, 76, 77, 78, 79, 80] rfl (by decide +kernel)
set_option maxRecDepth 20000 in
theorem gX11_has_X0_keptTold : GoodIn wsX11_has (wsV RX11 181 RX0 yX0_keptTold wsX0_keptTold) := goodIn_app (goodIn_of _ (by decide +kernel)) ggX11_has_X0_keptTold
set_option maxRecDepth 20000 in
theorem ggX11_letter_X3_isKind : GoodIn wsX11_letter wsX3_isKind := goodIn_r _ [9, 10, 46, 47, 48, 49, 50, 51, 52, 53, 54, 55, 56] rfl (by decide +kernel)
set_option maxRecDepth 20000 in
theorem gX11_letter_X3_isKind : GoodIn wsX11_letter (wsV RX11 188 RX3 yX3_isKind wsX3_isKind) := goodIn_app (goodIn_of _ (by decide +kernel)) ggX11_letter_X3_isKind
set_option maxRecDepth 20000 in
theorem ggX11_letter_X3_isCon : GoodIn wsX11_letter wsX3_isCon := goodIn_r _ [18, 19, 46, 47, 48, 49, 50, 51, 52, 53, 54, 55, 56] rfl (by decide +kernel)
set_option maxRecDepth 20000 in
theorem gX11_letter_X3_isCon : GoodIn wsX11_letter (wsV RX11 198 RX3 yX3_isCon wsX3_isCon) := goodIn_app (goodIn_of _ (by decide +kernel)) ggX11_letter_X3_isCon
set_option maxRecDepth 20000 in
theorem ggX11_values_X11_matched : GoodIn wsX11_values wsX11_matched := goodIn_r _ [7, 1, 8, 20, 21, 22, 23, 24, 25, 26, 27, 28, 29, 30, 31, 32, 33, 34, 35, 36, 37, 38, 39, 40, 41, 42, 43, 44, 45] rfl (by decide +kernel)
set_option maxRecDepth 20000 in
theorem gX11_values_X11_matched : GoodIn wsX11_values (wsV RX11 204 RX11 yX11_matched wsX11_matched) := goodIn_app (goodIn_of _ (by decide +kernel)) ggX11_values_X11_matched
set_option maxRecDepth 20000 in
theorem ggX11_arm_X5_armAt : GoodIn wsX11_arm wsX5_armAt := goodIn_r _ [7, 8, 9, 10, 11, 6, 12, 13, 66, 67, 68, 69] rfl (by decide +kernel)
set_option maxRecDepth 20000 in
theorem gX11_arm_X5_armAt : GoodIn wsX11_arm (wsV RX11 212 RX5 yX5_armAt wsX5_armAt) := goodIn_app (goodIn_of _ (by decide +kernel)) ggX11_arm_X5_armAt
set_option maxRecDepth 20000 in
theorem ggX11_fits_X5_armAt : GoodIn wsX11_fits wsX5_armAt := goodIn_r _ [9, 10, 11, 12, 13, 8, 14, 15, 53, 54, 55, 56] rfl (by decide +kernel)
set_option maxRecDepth 20000 in
theorem gX11_fits_X5_armAt : GoodIn wsX11_fits (wsV RX11 212 RX5 yX5_armAt wsX5_armAt) := goodIn_app (goodIn_of _ (by decide +kernel)) ggX11_fits_X5_armAt
set_option maxRecDepth 20000 in
theorem ggX11_holds_X5_armAt : GoodIn wsX11_holds wsX5_armAt := goodIn_r _ [9, 10, 11, 12, 13, 8, 14, 15, 39, 40, 41, 42] rfl (by decide +kernel)
set_option maxRecDepth 20000 in
theorem gX11_holds_X5_armAt : GoodIn wsX11_holds (wsV RX11 212 RX5 yX5_armAt wsX5_armAt) := goodIn_app (goodIn_of _ (by decide +kernel)) ggX11_holds_X5_armAt
set_option maxRecDepth 20000 in
theorem ggX11_missing_X11_matched : GoodIn wsX11_missing wsX11_matched := goodIn_r _ [8, 2, 9, 52, 53, 54, 55, 56, 57, 58, 59, 60, 61, 62, 63, 64, 65, 66, 71, 72, 73, 74, 75, 76, 77, 78, 79, 80, 81] rfl (by decide +kernel)
set_option maxRecDepth 20000 in
theorem gX11_missing_X11_matched : GoodIn wsX11_missing (wsV RX11 204 RX11 yX11_matched wsX11_matched) := goodIn_app (goodIn_of _ (by decide +kernel)) ggX11_missing_X11_matched
set_option maxRecDepth 20000 in
theorem ggX11_taken_X9_isRow : GoodIn wsX11_taken wsX9_isRow := goodIn_r _ [8, 9, 60, 61, 62, 63, 64, 65, 66, 67, 68, 69, 70] rfl (by decide +kernel)
set_option maxRecDepth 20000 in
theorem gX11_taken_X9_isRow : GoodIn wsX11_taken (wsV RX11 258 RX9 yX9_isRow wsX9_isRow) := goodIn_app (goodIn_of _ (by decide +kernel)) ggX11_taken_X9_isRow
set_option maxRecDepth 20000 in
theorem ggX11_row_X6_readRow : GoodIn wsX11_row wsX6_readRow := goodIn_r _ [9, 10, 11, 12, 13, 14, 15, 16, 17, 18, 8, 19, 20, 21, 22, 23, 24, 25, 26, 27, 28, 29, 30, 31, 32, 33, 34, 35, 36, 37, 38, 39, 40, 41, 42, 43, 44, 45, 46, 47, 48, 49, 50, 51, 52, 53, 54, 55, 56, 57, 58, 59, 60, 61, 62, 63, 64, 65, 66, 67, 68, 69, 70, 71, 72, 73, 74, 75, 76, 77, 78, 79, 80, 81, 82, 83, 84, 85, 86, 87, 88, 89, 90, 91, 92, 93, 94, 95, 96, 97, 98, 99, 100, 101, 102, 103, 104, 105, 106, 107, 108, 109, 110, 111, 112, 113, 114, 115, 116, 117, 118, 119, 120, 121, 122, 123, 124, 125, 126, 127, 128, 129, 153, 154, 155, 156, 157, 158, 159, 160, 161, 162, 163, 164, 165, 166, 167, 168, 169, 170, 171, 172, 173, 174, 175, 176, 177, 151, 152, 178, 179, 180, 181, 182, 183, 184, 185, 186, 187, 188] rfl (by decide +kernel)
set_option maxRecDepth 20000 in
theorem gX11_row_X6_readRow : GoodIn wsX11_row (wsV RX11 261 RX6 yX6_readRow wsX6_readRow) := goodIn_app (goodIn_of _ (by decide +kernel)) ggX11_row_X6_readRow
set_option maxRecDepth 20000 in
theorem ggX11_row_X11_refuse : GoodIn wsX11_row wsX11_refuse := goodIn_r _ [134, 135, 136, 137, 138, 139, 140, 141, 142, 143, 144, 145, 146, 147, 148, 149, 150] rfl (by decide +kernel)
set_option maxRecDepth 20000 in
theorem gX11_row_X11_refuse : GoodIn wsX11_row (wsV RX11 103 RX11 yX11_refuse wsX11_refuse) := goodIn_app (goodIn_of _ (by decide +kernel)) ggX11_row_X11_refuse
set_option maxRecDepth 20000 in
theorem ggX11_text_X9_isRow : GoodIn wsX11_text wsX9_isRow := goodIn_r _ [11, 12, 92, 93, 94, 95, 96, 97, 98, 99, 100, 101, 102] rfl (by decide +kernel)
set_option maxRecDepth 20000 in
theorem gX11_text_X9_isRow : GoodIn wsX11_text (wsV RX11 258 RX9 yX9_isRow wsX9_isRow) := goodIn_app (goodIn_of _ (by decide +kernel)) ggX11_text_X9_isRow
set_option maxRecDepth 20000 in
theorem ggX11_octet_X1_byteAt : GoodIn wsX11_octet wsX1_byteAt := goodIn_r _ [6, 7, 8, 24, 25] rfl (by decide +kernel)
set_option maxRecDepth 20000 in
theorem gX11_octet_X1_byteAt : GoodIn wsX11_octet (wsV RX11 300 RX1 yX1_byteAt wsX1_byteAt) := goodIn_app (goodIn_of _ (by decide +kernel)) ggX11_octet_X1_byteAt
set_option maxRecDepth 20000 in
theorem ggX11_tree_X11_matched : GoodIn wsX11_tree wsX11_matched := goodIn_r _ [8, 9, 10, 154, 155, 156, 157, 158, 159, 160, 161, 162, 163, 164, 165, 166, 167, 168, 184, 185, 186, 187, 188, 189, 190, 191, 192, 193, 194] rfl (by decide +kernel)
set_option maxRecDepth 20000 in
theorem gX11_tree_X11_matched : GoodIn wsX11_tree (wsV RX11 204 RX11 yX11_matched wsX11_matched) := goodIn_app (goodIn_of _ (by decide +kernel)) ggX11_tree_X11_matched
set_option maxRecDepth 20000 in
theorem ggX11_first_X11_matched : GoodIn wsX11_first wsX11_matched := goodIn_r _ [7, 8, 9, 95, 96, 97, 98, 99, 100, 101, 102, 103, 104, 105, 106, 107, 108, 109, 110, 111, 112, 113, 114, 115, 116, 117, 118, 119, 120] rfl (by decide +kernel)
set_option maxRecDepth 20000 in
theorem gX11_first_X11_matched : GoodIn wsX11_first (wsV RX11 204 RX11 yX11_matched wsX11_matched) := goodIn_app (goodIn_of _ (by decide +kernel)) ggX11_first_X11_matched
set_option maxRecDepth 20000 in
theorem ggX11_scopes_X11_matched : GoodIn wsX11_scopes wsX11_matched := goodIn_r _ [10, 11, 12, 148, 149, 150, 151, 152, 153, 154, 155, 156, 157, 158, 159, 160, 161, 162, 178, 179, 180, 181, 182, 183, 184, 185, 186, 187, 188] rfl (by decide +kernel)
set_option maxRecDepth 20000 in
theorem gX11_scopes_X11_matched : GoodIn wsX11_scopes (wsV RX11 204 RX11 yX11_matched wsX11_matched) := goodIn_app (goodIn_of _ (by decide +kernel)) ggX11_scopes_X11_matched
set_option maxRecDepth 20000 in
theorem ggX11_safe_X5_isPlace : GoodIn wsX11_safe wsX5_isPlace := goodIn_r _ [7, 8, 59, 60, 61, 62] rfl (by decide +kernel)
set_option maxRecDepth 20000 in
theorem gX11_safe_X5_isPlace : GoodIn wsX11_safe (wsV RX11 344 RX5 yX5_isPlace wsX5_isPlace) := goodIn_app (goodIn_of _ (by decide +kernel)) ggX11_safe_X5_isPlace
set_option maxRecDepth 20000 in
theorem ggX11_best_X11_matched : GoodIn wsX11_best wsX11_matched := goodIn_r _ [8, 9, 10, 182, 183, 184, 185, 186, 187, 188, 189, 190, 191, 192, 193, 194, 195, 196, 201, 202, 203, 204, 205, 206, 207, 208, 209, 210, 211] rfl (by decide +kernel)
set_option maxRecDepth 20000 in
theorem gX11_best_X11_matched : GoodIn wsX11_best (wsV RX11 204 RX11 yX11_matched wsX11_matched) := goodIn_app (goodIn_of _ (by decide +kernel)) ggX11_best_X11_matched
set_option maxRecDepth 20000 in
theorem ggX11_see_X11_matched : GoodIn wsX11_see wsX11_matched := goodIn_r _ [11, 3, 12, 55, 56, 57, 58, 59, 60, 61, 62, 63, 64, 65, 66, 67, 68, 69, 78, 79, 80, 81, 82, 83, 84, 85, 86, 87, 88] rfl (by decide +kernel)
set_option maxRecDepth 20000 in
theorem gX11_see_X11_matched : GoodIn wsX11_see (wsV RX11 204 RX11 yX11_matched wsX11_matched) := goodIn_app (goodIn_of _ (by decide +kernel)) ggX11_see_X11_matched
set_option maxRecDepth 20000 in
theorem ggX11_see_X11_refuse : GoodIn wsX11_see wsX11_refuse := goodIn_r _ [53, 54, 55, 56, 57, 58, 59, 60, 61, 62, 63, 64, 65, 66, 67, 68, 69] rfl (by decide +kernel)
set_option maxRecDepth 20000 in
theorem gX11_see_X11_refuse : GoodIn wsX11_see (wsV RX11 103 RX11 yX11_refuse wsX11_refuse) := goodIn_app (goodIn_of _ (by decide +kernel)) ggX11_see_X11_refuse
set_option maxRecDepth 20000 in
theorem ggX11_sets_X11_matched : GoodIn wsX11_sets wsX11_matched := goodIn_r _ [10, 2, 11, 65, 66, 67, 68, 69, 70, 71, 72, 73, 74, 75, 76, 77, 78, 79, 86, 87, 88, 89, 90, 91, 92, 93, 94, 95, 96] rfl (by decide +kernel)
set_option maxRecDepth 20000 in
theorem gX11_sets_X11_matched : GoodIn wsX11_sets (wsV RX11 204 RX11 yX11_matched wsX11_matched) := goodIn_app (goodIn_of _ (by decide +kernel)) ggX11_sets_X11_matched
set_option maxRecDepth 20000 in
theorem ggX11_tells_X11_matched : GoodIn wsX11_tells wsX11_matched := goodIn_r _ [11, 2, 12, 84, 85, 86, 87, 88, 89, 90, 91, 92, 93, 94, 95, 96, 97, 98, 105, 106, 107, 108, 109, 110, 111, 112, 113, 114, 115] rfl (by decide +kernel)
set_option maxRecDepth 20000 in
theorem gX11_tells_X11_matched : GoodIn wsX11_tells (wsV RX11 204 RX11 yX11_matched wsX11_matched) := goodIn_app (goodIn_of _ (by decide +kernel)) ggX11_tells_X11_matched
set_option maxRecDepth 20000 in
theorem ggX11_run_X9_isRow : GoodIn wsX11_run wsX9_isRow := goodIn_r _ [6, 7, 184, 185, 186, 187, 188, 189, 190, 191, 192, 193, 194] rfl (by decide +kernel)
set_option maxRecDepth 20000 in
theorem gX11_run_X9_isRow : GoodIn wsX11_run (wsV RX11 258 RX9 yX9_isRow wsX9_isRow) := goodIn_app (goodIn_of _ (by decide +kernel)) ggX11_run_X9_isRow
set_option maxRecDepth 20000 in
theorem ggX11_run_X11_refuse : GoodIn wsX11_run wsX11_refuse := goodIn_r _ [12, 13, 169, 170, 171, 172, 173, 174, 175, 176, 177, 178, 179, 180, 181, 182, 183] rfl (by decide +kernel)
set_option maxRecDepth 20000 in
theorem gX11_run_X11_refuse : GoodIn wsX11_run (wsV RX11 103 RX11 yX11_refuse wsX11_refuse) := goodIn_app (goodIn_of _ (by decide +kernel)) ggX11_run_X11_refuse
set_option maxRecDepth 20000 in
theorem ggX11_chance_X11_matched : GoodIn wsX11_chance wsX11_matched := goodIn_r _ [7, 1, 8, 177, 178, 179, 180, 181, 182, 183, 184, 185, 186, 187, 188, 189, 190, 191, 192, 193, 194, 195, 196, 197, 198, 199, 200, 201, 202] rfl (by decide +kernel)
set_option maxRecDepth 20000 in
theorem gX11_chance_X11_matched : GoodIn wsX11_chance (wsV RX11 204 RX11 yX11_matched wsX11_matched) := goodIn_app (goodIn_of _ (by decide +kernel)) ggX11_chance_X11_matched
set_option maxRecDepth 20000 in
theorem ggX11_chance_X11_refuse : GoodIn wsX11_chance wsX11_refuse := goodIn_r _ [12, 13, 177, 178, 179, 180, 181, 182, 183, 184, 185, 186, 187, 188, 189, 190, 191] rfl (by decide +kernel)
set_option maxRecDepth 20000 in
theorem gX11_chance_X11_refuse : GoodIn wsX11_chance (wsV RX11 103 RX11 yX11_refuse wsX11_refuse) := goodIn_app (goodIn_of _ (by decide +kernel)) ggX11_chance_X11_refuse
set_option maxRecDepth 20000 in
theorem ggX11_swap_X5_isPlace : GoodIn wsX11_swap wsX5_isPlace := goodIn_r _ [6, 7, 64, 65, 66, 67] rfl (by decide +kernel)
set_option maxRecDepth 20000 in
theorem gX11_swap_X5_isPlace : GoodIn wsX11_swap (wsV RX11 344 RX5 yX5_isPlace wsX5_isPlace) := goodIn_app (goodIn_of _ (by decide +kernel)) ggX11_swap_X5_isPlace
set_option maxRecDepth 20000 in
theorem ggX11_swap_X11_refuse : GoodIn wsX11_swap wsX11_refuse := goodIn_r _ [12, 13, 49, 50, 51, 52, 53, 54, 55, 56, 57, 58, 59, 60, 61, 62, 63] rfl (by decide +kernel)
set_option maxRecDepth 20000 in
theorem gX11_swap_X11_refuse : GoodIn wsX11_swap (wsV RX11 103 RX11 yX11_refuse wsX11_refuse) := goodIn_app (goodIn_of _ (by decide +kernel)) ggX11_swap_X11_refuse
set_option maxRecDepth 20000 in
theorem ggX11_drop_X5_isPlace : GoodIn wsX11_drop wsX5_isPlace := goodIn_r _ [6, 7, 64, 65, 66, 67] rfl (by decide +kernel)
set_option maxRecDepth 20000 in
theorem gX11_drop_X5_isPlace : GoodIn wsX11_drop (wsV RX11 344 RX5 yX5_isPlace wsX5_isPlace) := goodIn_app (goodIn_of _ (by decide +kernel)) ggX11_drop_X5_isPlace
set_option maxRecDepth 20000 in
theorem ggX11_drop_X11_refuse : GoodIn wsX11_drop wsX11_refuse := goodIn_r _ [12, 13, 49, 50, 51, 52, 53, 54, 55, 56, 57, 58, 59, 60, 61, 62, 63] rfl (by decide +kernel)
set_option maxRecDepth 20000 in
theorem gX11_drop_X11_refuse : GoodIn wsX11_drop (wsV RX11 103 RX11 yX11_refuse wsX11_refuse) := goodIn_app (goodIn_of _ (by decide +kernel)) ggX11_drop_X11_refuse
set_option maxRecDepth 20000 in
theorem ggX11_turn_X11_matched : GoodIn wsX11_turn wsX11_matched := goodIn_r _ [7, 8, 9, 50, 51, 52, 53, 54, 55, 56, 57, 58, 59, 60, 61, 62, 63, 64, 69, 70, 71, 72, 73, 74, 75, 76, 77, 78, 79] rfl (by decide +kernel)
set_option maxRecDepth 20000 in
theorem gX11_turn_X11_matched : GoodIn wsX11_turn (wsV RX11 204 RX11 yX11_matched wsX11_matched) := goodIn_app (goodIn_of _ (by decide +kernel)) ggX11_turn_X11_matched
set_option maxRecDepth 20000 in
theorem ggX11_turn_X11_refuse : GoodIn wsX11_turn wsX11_refuse := goodIn_r _ [13, 14, 50, 51, 52, 53, 54, 55, 56, 57, 58, 59, 60, 61, 62, 63, 64] rfl (by decide +kernel)
set_option maxRecDepth 20000 in
theorem gX11_turn_X11_refuse : GoodIn wsX11_turn (wsV RX11 103 RX11 yX11_refuse wsX11_refuse) := goodIn_app (goodIn_of _ (by decide +kernel)) ggX11_turn_X11_refuse
set_option maxRecDepth 20000 in
theorem ggX11_choose_X11_matched : GoodIn wsX11_choose wsX11_matched := goodIn_r _ [7, 8, 9, 50, 51, 52, 53, 54, 55, 56, 57, 58, 59, 60, 61, 62, 63, 64, 69, 70, 71, 72, 73, 74, 75, 76, 77, 78, 79] rfl (by decide +kernel)
set_option maxRecDepth 20000 in
theorem gX11_choose_X11_matched : GoodIn wsX11_choose (wsV RX11 204 RX11 yX11_matched wsX11_matched) := goodIn_app (goodIn_of _ (by decide +kernel)) ggX11_choose_X11_matched
set_option maxRecDepth 20000 in
theorem ggX11_choose_X11_refuse : GoodIn wsX11_choose wsX11_refuse := goodIn_r _ [16, 17, 50, 51, 52, 53, 54, 55, 56, 57, 58, 59, 60, 61, 62, 63, 64] rfl (by decide +kernel)
set_option maxRecDepth 20000 in
theorem gX11_choose_X11_refuse : GoodIn wsX11_choose (wsV RX11 103 RX11 yX11_refuse wsX11_refuse) := goodIn_app (goodIn_of _ (by decide +kernel)) ggX11_choose_X11_refuse
set_option maxRecDepth 20000 in
theorem ggX11_undo_X11_refuse : GoodIn wsX11_undo wsX11_refuse := goodIn_r _ [8, 9, 37, 38, 39, 40, 41, 42, 43, 44, 45, 46, 47, 48, 49, 50, 51] rfl (by decide +kernel)
set_option maxRecDepth 20000 in
theorem gX11_undo_X11_refuse : GoodIn wsX11_undo (wsV RX11 103 RX11 yX11_refuse wsX11_refuse) := goodIn_app (goodIn_of _ (by decide +kernel)) ggX11_undo_X11_refuse
set_option maxRecDepth 20000 in
theorem ggX11_seed_X11_refuse : GoodIn wsX11_seed wsX11_refuse := goodIn_r _ [6, 7, 8, 9, 10, 11, 12, 13, 14, 15, 16, 17, 18, 19, 20, 21, 22] rfl (by decide +kernel)
set_option maxRecDepth 20000 in
theorem gX11_seed_X11_refuse : GoodIn wsX11_seed (wsV RX11 103 RX11 yX11_refuse wsX11_refuse) := goodIn_app (goodIn_of _ (by decide +kernel)) ggX11_seed_X11_refuse
set_option maxRecDepth 20000 in
theorem ggX11_kept_X0_tellKept : GoodIn wsX11_kept wsX0_tellKept := goodIn_r _ [6, 7, 8, 9, 10, 11, 12, 13, 5, 14, 15, 16, 17, 18, 19, 20, 21, 22, 38, 39, 40, 41, 42, 43, 44, 45] rfl (by decide +kernel)
set_option maxRecDepth 20000 in
theorem gX11_kept_X0_tellKept : GoodIn wsX11_kept (wsV RX11 414 RX0 yX0_tellKept wsX0_tellKept) := goodIn_app (goodIn_of _ (by decide +kernel)) ggX11_kept_X0_tellKept
set_option maxRecDepth 20000 in
theorem ggX11_image_X1_add : GoodIn wsX11_image wsX1_add := goodIn_r _ [12, 13, 14, 34, 35] rfl (by decide +kernel)
set_option maxRecDepth 20000 in
theorem gX11_image_X1_add : GoodIn wsX11_image (wsV RX11 264 RX1 yX1_add wsX1_add) := goodIn_app (goodIn_of _ (by decide +kernel)) ggX11_image_X1_add
set_option maxRecDepth 20000 in
theorem ggX11_image_X1_checkByte : GoodIn wsX11_image wsX1_checkByte := goodIn_r _ [18, 14, 34, 35] rfl (by decide +kernel)
set_option maxRecDepth 20000 in
theorem gX11_image_X1_checkByte : GoodIn wsX11_image (wsV RX11 420 RX1 yX1_checkByte wsX1_checkByte) := goodIn_app (goodIn_of _ (by decide +kernel)) ggX11_image_X1_checkByte
set_option maxRecDepth 20000 in
theorem ggX11_on_X11_matched : GoodIn wsX11_on wsX11_matched := goodIn_r _ [7, 8, 9, 61, 62, 63, 64, 65, 66, 67, 68, 69, 70, 71, 72, 73, 74, 75, 78, 79, 80, 81, 82, 83, 84, 85, 86, 87, 88] rfl (by decide +kernel)
set_option maxRecDepth 20000 in
theorem gX11_on_X11_matched : GoodIn wsX11_on (wsV RX11 204 RX11 yX11_matched wsX11_matched) := goodIn_app (goodIn_of _ (by decide +kernel)) ggX11_on_X11_matched
set_option maxRecDepth 20000 in
theorem ggX11_on_X11_refuse : GoodIn wsX11_on wsX11_refuse := goodIn_r _ [59, 60, 61, 62, 63, 64, 65, 66, 67, 68, 69, 70, 71, 72, 73, 74, 75] rfl (by decide +kernel)
set_option maxRecDepth 20000 in
theorem gX11_on_X11_refuse : GoodIn wsX11_on (wsV RX11 103 RX11 yX11_refuse wsX11_refuse) := goodIn_app (goodIn_of _ (by decide +kernel)) ggX11_on_X11_refuse
set_option maxRecDepth 20000 in
theorem ggX12_init_X12_begin : GoodIn wsX12_init wsX12_begin := goodIn_r _ [109, 59, 30, 18, 60, 61, 50, 62, 32, 63, 66, 99, 110, 111, 112, 113, 114, 115, 116, 117, 118, 119, 120, 121, 122, 123, 124, 125, 126, 127, 128, 129, 130, 131, 132, 133, 134, 135, 136, 137, 138, 139, 140, 141, 142, 143, 144, 145, 146, 147, 148, 149, 150, 151, 152, 153, 154, 155, 156, 157, 158, 159, 160, 161, 162, 163, 164, 165, 166, 167, 168, 169, 170, 171, 172, 173, 174, 175, 176, 177, 178, 179, 180, 181, 182, 183, 184, 185, 186, 187, 188, 189, 190, 191, 192, 193, 194, 195, 196, 197, 198, 199, 200, 201, 202, 203, 204, 205, 206, 207] rfl (by decide +kernel)
set_option maxRecDepth 20000 in
theorem gX12_init_X12_begin : GoodIn wsX12_init (wsV RX12 309 RX12 yX12_begin wsX12_begin) := goodIn_app (goodIn_of _ (by decide +kernel)) ggX12_init_X12_begin
set_option maxRecDepth 20000 in
theorem ggX12_feed_X12_put : GoodIn wsX12_feed wsX12_put := goodIn_r _ [11, 12, 1, 13, 14, 15, 16, 17, 18, 19, 20, 21, 22, 23, 24, 25, 26, 27, 28, 29, 30, 31, 32, 33, 34, 35, 36, 37, 38, 39, 40, 41, 42, 43, 44, 45, 46, 47, 48, 49, 50, 51, 52, 53, 54, 55, 56, 57, 58, 59, 60, 61, 62, 63, 64, 65, 66, 67, 68, 69, 70, 71, 72, 73, 74, 75, 76, 77, 78, 79, 80, 81, 82, 83, 84, 85, 86, 87, 88, 89, 90, 91, 92, 93, 94, 95, 96, 97, 98, 99, 100, 101, 102, 103, 104, 105, 106, 107, 108, 109, 110] rfl (by decide +kernel)
set_option maxRecDepth 20000 in
theorem gX12_feed_X12_put : GoodIn wsX12_feed (wsV RX12 316 RX12 yX12_put wsX12_put) := goodIn_app (goodIn_of _ (by decide +kernel)) ggX12_feed_X12_put
set_option maxRecDepth 20000 in
theorem ggX12_end_X12_refuses : GoodIn wsX12_end wsX12_refuses := goodIn_r _ [6, 7, 8, 9, 10, 11, 12, 13, 14, 15, 16, 17, 18, 19, 20, 21, 22, 23, 24, 25, 26, 27, 28, 29, 30, 31, 32, 33, 34, 35, 36, 37, 38, 39, 40, 41, 42, 43, 44, 45, 46, 47, 48, 49, 50, 51, 52, 53, 54, 55, 56, 57, 58, 59, 60, 61, 62, 63, 64, 65, 66, 67, 68, 69, 70, 71, 72, 73, 74, 75, 76, 77, 78, 79, 80, 81, 82, 83, 84, 85, 86, 87, 88, 89, 90, 91, 92, 93, 94, 95, 96, 97, 98, 99, 100, 101, 102, 103, 104, 105] rfl (by decide +kernel)
set_option maxRecDepth 20000 in
theorem gX12_end_X12_refuses : GoodIn wsX12_end (wsV RX12 312 RX12 yX12_refuses wsX12_refuses) := goodIn_app (goodIn_of _ (by decide +kernel)) ggX12_end_X12_refuses
set_option maxRecDepth 20000 in
theorem ggX12_match_X12_ahead : GoodIn wsX12_match wsX12_ahead := goodIn_r _ [24, 3, 2, 25, 26, 16, 27, 28, 29, 30, 31, 23, 32, 33, 34, 35, 230, 231, 232, 233, 234, 235, 236, 237, 238, 239, 240, 241, 242, 243, 244, 245, 246, 247, 248, 249, 250, 251, 252, 253, 254, 255, 256, 257, 258, 259, 260, 261, 262, 263, 264, 265, 266, 267, 268, 269, 270, 271, 272, 273, 274, 275, 276, 277, 278, 279, 280, 281, 282, 283, 284, 285, 286, 287, 288, 289, 290, 291, 292, 293, 294, 295, 296, 297, 298, 299, 300, 301, 302, 303, 304, 305, 306, 307, 308, 309, 310, 311, 312, 313, 314, 315, 316, 317, 318, 319, 320, 321, 322, 323, 324, 325, 326, 327] rfl (by decide +kernel)
set_option maxRecDepth 20000 in
theorem gX12_match_X12_ahead : GoodIn wsX12_match (wsV RX12 337 RX12 yX12_ahead wsX12_ahead) := goodIn_app (goodIn_of _ (by decide +kernel)) ggX12_match_X12_ahead
set_option maxRecDepth 20000 in
theorem ggX12_match_X12_blame : GoodIn wsX12_match wsX12_blame := goodIn_r _ [53, 4, 5, 230, 231, 232, 233, 234, 235, 236, 237, 238, 239, 240, 241, 242, 243, 244, 245, 246, 247, 248, 249, 250, 251, 252, 253, 254, 255, 256, 257, 258, 259, 260, 261, 262, 263, 264, 265, 266, 267, 268, 269, 270, 271, 272, 273, 274, 275, 276, 277, 278, 279, 280, 281, 282, 283, 284, 285, 286, 287, 288, 289, 290, 291, 292, 293, 294, 295, 296, 297, 298, 299, 300, 301, 302, 303, 304, 305, 306, 307, 308, 309, 310, 311, 312, 313, 314, 315, 316, 317, 318, 319, 320, 321, 322, 323, 324, 325, 326, 327] rfl (by decide +kernel)
set_option maxRecDepth 20000 in
theorem gX12_match_X12_blame : GoodIn wsX12_match (wsV RX12 320 RX12 yX12_blame wsX12_blame) := goodIn_app (goodIn_of _ (by decide +kernel)) ggX12_match_X12_blame
set_option maxRecDepth 20000 in
theorem ggX12_match_X12_refuses : GoodIn wsX12_match wsX12_refuses := goodIn_r _ [190, 191, 230, 231, 232, 233, 234, 235, 236, 237, 238, 239, 240, 241, 242, 243, 244, 245, 246, 247, 248, 249, 250, 251, 252, 253, 254, 255, 256, 257, 258, 259, 260, 261, 262, 263, 264, 265, 266, 267, 268, 269, 270, 271, 272, 273, 274, 275, 276, 277, 278, 279, 280, 281, 282, 283, 284, 285, 286, 287, 288, 289, 290, 291, 292, 293, 294, 295, 296, 297, 298, 299, 300, 301, 302, 303, 304, 305, 306, 307, 308, 309, 310, 311, 312, 313, 314, 315, 316, 317, 318, 319, 320, 321, 322, 323, 324, 325, 326, 327] rfl (by decide +kernel)
set_option maxRecDepth 20000 in
theorem gX12_match_X12_refuses : GoodIn wsX12_match (wsV RX12 312 RX12 yX12_refuses wsX12_refuses) := goodIn_app (goodIn_of _ (by decide +kernel)) ggX12_match_X12_refuses
set_option maxRecDepth 20000 in
theorem ggX12_status_X12_is : GoodIn wsX12_status wsX12_is := goodIn_r _ [5] rfl (by decide +kernel)
set_option maxRecDepth 20000 in
theorem gX12_status_X12_is : GoodIn wsX12_status (va_wsS RX12 362 yX12_is wsX12_is) := goodIn_app (goodIn_of _ (by decide +kernel)) ggX12_status_X12_is
set_option maxRecDepth 20000 in
theorem ggX12_undo_X12_refuses : GoodIn wsX12_undo wsX12_refuses := goodIn_r _ [6, 7, 23, 24, 25, 26, 27, 28, 29, 30, 31, 32, 33, 34, 35, 36, 37, 38, 39, 40, 41, 42, 43, 44, 45, 46, 47, 48, 49, 50, 51, 52, 53, 54, 55, 56, 57, 58, 59, 60, 61, 62, 63, 64, 65, 66, 67, 68, 69, 70, 71, 72, 73, 74, 75, 76, 77, 78, 79, 80, 81, 82, 83, 84, 85, 86, 87, 88, 89, 90, 91, 92, 93, 94, 95, 96, 97, 98, 99, 100, 101, 102, 103, 104, 105, 106, 107, 108, 109, 110, 111, 112, 113, 114, 115, 116, 117, 118, 119, 120] rfl (by decide +kernel)
set_option maxRecDepth 20000 in
theorem gX12_undo_X12_refuses : GoodIn wsX12_undo (wsV RX12 312 RX12 yX12_refuses wsX12_refuses) := goodIn_app (goodIn_of _ (by decide +kernel)) ggX12_undo_X12_refuses
set_option maxRecDepth 20000 in
theorem ggX12_has_X12_columns : GoodIn wsX12_has wsX12_columns := goodIn_r _ [17, 18, 2, 19, 20, 21, 22, 23, 24, 25, 26, 27, 28, 29, 30, 31, 32, 33, 34, 35, 36, 37, 38, 39, 40, 41, 42, 43, 44, 45, 46, 47, 48, 49, 50, 51, 52, 53, 54, 55, 56, 57, 58, 59, 60, 61, 62, 63, 64, 65, 66, 67, 68, 69, 70, 71, 72, 73, 74, 75, 76, 77, 78, 79, 80, 81, 82, 83, 84, 85, 86, 87, 88, 89, 90, 91, 92, 93, 94, 95, 96, 97, 98, 99, 100, 101, 102, 103, 104, 105, 106, 107, 108, 109, 110, 111, 112, 113, 114, 115, 116] rfl (by decide +kernel)
set_option maxRecDepth 20000 in
theorem gX12_has_X12_columns : GoodIn wsX12_has (wsV RX12 459 RX12 yX12_columns wsX12_columns) := goodIn_app (goodIn_of _ (by decide +kernel)) ggX12_has_X12_columns
set_option maxRecDepth 20000 in
theorem ggX12_letter_X12_is : GoodIn wsX12_letter wsX12_is := goodIn_r _ [10] rfl (by decide +kernel)
set_option maxRecDepth 20000 in
theorem gX12_letter_X12_is : GoodIn wsX12_letter (va_wsS RX12 362 yX12_is wsX12_is) := goodIn_app (goodIn_of _ (by decide +kernel)) ggX12_letter_X12_is
set_option maxRecDepth 20000 in
theorem ggX12_arm_X12_isPlace : GoodIn wsX12_arm wsX12_isPlace := goodIn_r _ [7, 8, 9, 10, 11, 6, 12, 85, 86, 87, 88, 89, 90, 91, 92, 93, 94, 95, 96, 97, 98, 99, 100, 101, 102, 103, 104, 105, 106, 107, 108, 109, 110, 111, 112, 113, 114, 115, 116, 117, 118, 119, 120, 121, 122, 123, 124, 125, 126, 127, 128, 129, 130, 131, 132, 133, 134, 135, 136, 137, 138, 139, 140, 141, 142, 143, 144, 145, 146, 147, 148, 149, 150, 151, 152, 153, 154, 155, 156, 157, 158, 159, 160, 161, 162, 163, 164, 165, 166, 167, 168, 169, 170, 171, 172, 173, 174, 175, 176, 177, 178, 179, 180, 181, 182] rfl (by decide +kernel)
set_option maxRecDepth 20000 in
theorem gX12_arm_X12_isPlace : GoodIn wsX12_arm (wsV RX12 498 RX12 yX12_isPlace wsX12_isPlace) := goodIn_app (goodIn_of _ (by decide +kernel)) ggX12_arm_X12_isPlace
set_option maxRecDepth 20000 in
theorem ggX12_fits_X12_isPlace : GoodIn wsX12_fits wsX12_isPlace := goodIn_r _ [5, 6, 7, 8, 9, 4, 10, 50, 51, 52, 53, 54, 55, 56, 57, 58, 59, 60, 61, 62, 63, 64, 65, 66, 67, 68, 69, 70, 71, 72, 73, 74, 75, 76, 77, 78, 79, 80, 81, 82, 83, 84, 85, 86, 87, 88, 89, 90, 91, 92, 93, 94, 95, 96, 97, 98, 99, 100, 101, 102, 103, 104, 105, 106, 107, 108, 109, 110, 111, 112, 113, 114, 115, 116, 117, 118, 119, 120, 121, 122, 123, 124, 125, 126, 127, 128, 129, 130, 131, 132, 133, 134, 135, 136, 137, 138, 139, 140, 141, 142, 143, 144, 145, 146, 147] rfl (by decide +kernel)
set_option maxRecDepth 20000 in
theorem gX12_fits_X12_isPlace : GoodIn wsX12_fits (wsV RX12 498 RX12 yX12_isPlace wsX12_isPlace) := goodIn_app (goodIn_of _ (by decide +kernel)) ggX12_fits_X12_isPlace
set_option maxRecDepth 20000 in
theorem ggX12_holds_X12_isPlace : GoodIn wsX12_holds wsX12_isPlace := goodIn_r _ [6, 7, 8, 9, 10, 5, 11, 65, 66, 67, 68, 69, 70, 71, 72, 73, 74, 75, 76, 77, 78, 79, 80, 81, 82, 83, 84, 85, 86, 87, 88, 89, 90, 91, 92, 93, 94, 95, 96, 97, 98, 99, 100, 101, 102, 103, 104, 105, 106, 107, 108, 109, 110, 111, 112, 113, 114, 115, 116, 117, 118, 119, 120, 121, 122, 123, 124, 125, 126, 127, 128, 129, 130, 131, 132, 133, 134, 135, 136, 137, 138, 139, 140, 141, 142, 143, 144, 145, 146, 147, 148, 149, 150, 151, 152, 153, 154, 155, 156, 157, 158, 159, 160, 161, 162] rfl (by decide +kernel)
set_option maxRecDepth 20000 in
theorem gX12_holds_X12_isPlace : GoodIn wsX12_holds (wsV RX12 498 RX12 yX12_isPlace wsX12_isPlace) := goodIn_app (goodIn_of _ (by decide +kernel)) ggX12_holds_X12_isPlace
set_option maxRecDepth 20000 in
theorem ggX12_taken_X12_isRow : GoodIn wsX12_taken wsX12_isRow := goodIn_r _ [6, 7, 8, 9, 10, 5, 11, 68, 69, 70, 71, 72, 73, 74, 75, 76, 77, 78, 79, 80, 81, 82, 83, 84, 85, 86, 87, 88, 89, 90, 91, 92, 93, 94, 95, 96, 97, 98, 99, 100, 101, 102, 103, 104, 105, 106, 107, 108, 109, 110, 111, 112, 113, 114, 115, 116, 117, 118, 119, 120, 121, 122, 123, 124, 125, 126, 127, 128, 129, 130, 131, 132, 133, 134, 135, 136, 137, 138, 139, 140, 141, 142, 143, 144, 145, 146, 147, 148, 149, 150, 151, 152, 153, 154, 155, 156, 157, 158, 159, 160, 161, 162, 163, 164, 165] rfl (by decide +kernel)
set_option maxRecDepth 20000 in
theorem gX12_taken_X12_isRow : GoodIn wsX12_taken (wsV RX12 516 RX12 yX12_isRow wsX12_isRow) := goodIn_app (goodIn_of _ (by decide +kernel)) ggX12_taken_X12_isRow
set_option maxRecDepth 20000 in
theorem ggX12_row_X12_blame : GoodIn wsX12_row wsX12_blame := goodIn_r _ [17, 4, 5, 116, 117, 118, 119, 120, 121, 122, 123, 124, 125, 126, 127, 128, 129, 130, 131, 132, 133, 134, 135, 136, 137, 138, 139, 140, 141, 142, 143, 144, 145, 146, 147, 148, 149, 150, 151, 152, 153, 154, 155, 156, 157, 158, 159, 160, 161, 162, 163, 164, 165, 166, 167, 168, 169, 170, 171, 172, 173, 174, 175, 176, 177, 178, 179, 180, 181, 182, 183, 184, 185, 186, 187, 188, 189, 190, 191, 192, 193, 194, 195, 196, 197, 198, 199, 200, 201, 202, 203, 204, 205, 206, 207, 208, 209, 210, 211, 212, 213] rfl (by decide +kernel)
set_option maxRecDepth 20000 in
theorem gX12_row_X12_blame : GoodIn wsX12_row (wsV RX12 320 RX12 yX12_blame wsX12_blame) := goodIn_app (goodIn_of _ (by decide +kernel)) ggX12_row_X12_blame
set_option maxRecDepth 20000 in
theorem ggX12_row_X12_columns : GoodIn wsX12_row wsX12_columns := goodIn_r _ [35, 36, 8, 116, 117, 118, 119, 120, 121, 122, 123, 124, 125, 126, 127, 128, 129, 130, 131, 132, 133, 134, 135, 136, 137, 138, 139, 140, 141, 142, 143, 144, 145, 146, 147, 148, 149, 150, 151, 152, 153, 154, 155, 156, 157, 158, 159, 160, 161, 162, 163, 164, 165, 166, 167, 168, 169, 170, 171, 172, 173, 174, 175, 176, 177, 178, 179, 180, 181, 182, 183, 184, 185, 186, 187, 188, 189, 190, 191, 192, 193, 194, 195, 196, 197, 198, 199, 200, 201, 202, 203, 204, 205, 206, 207, 208, 209, 210, 211, 212, 213] rfl (by decide +kernel)
set_option maxRecDepth 20000 in
theorem gX12_row_X12_columns : GoodIn wsX12_row (wsV RX12 459 RX12 yX12_columns wsX12_columns) := goodIn_app (goodIn_of _ (by decide +kernel)) ggX12_row_X12_columns
set_option maxRecDepth 20000 in
theorem ggX12_row_X12_refuses : GoodIn wsX12_row wsX12_refuses := goodIn_r _ [114, 115, 116, 117, 118, 119, 120, 121, 122, 123, 124, 125, 126, 127, 128, 129, 130, 131, 132, 133, 134, 135, 136, 137, 138, 139, 140, 141, 142, 143, 144, 145, 146, 147, 148, 149, 150, 151, 152, 153, 154, 155, 156, 157, 158, 159, 160, 161, 162, 163, 164, 165, 166, 167, 168, 169, 170, 171, 172, 173, 174, 175, 176, 177, 178, 179, 180, 181, 182, 183, 184, 185, 186, 187, 188, 189, 190, 191, 192, 193, 194, 195, 196, 197, 198, 199, 200, 201, 202, 203, 204, 205, 206, 207, 208, 209, 210, 211, 212, 213] rfl (by decide +kernel)
set_option maxRecDepth 20000 in
theorem gX12_row_X12_refuses : GoodIn wsX12_row (wsV RX12 312 RX12 yX12_refuses wsX12_refuses) := goodIn_app (goodIn_of _ (by decide +kernel)) ggX12_row_X12_refuses
set_option maxRecDepth 20000 in
theorem ggX12_text_X12_isRow : GoodIn wsX12_text wsX12_isRow := goodIn_r _ [12, 13, 14, 15, 16, 11, 17, 72, 73, 74, 75, 76, 77, 78, 79, 80, 81, 82, 83, 84, 85, 86, 87, 88, 89, 90, 91, 92, 93, 94, 95, 96, 97, 98, 99, 100, 101, 102, 103, 104, 105, 106, 107, 108, 109, 110, 111, 112, 113, 114, 115, 116, 117, 118, 119, 120, 121, 122, 123, 124, 125, 126, 127, 128, 129, 130, 131, 132, 133, 134, 135, 136, 137, 138, 139, 140, 141, 142, 143, 144, 145, 146, 147, 148, 149, 150, 151, 152, 153, 154, 155, 156, 157, 158, 159, 160, 161, 162, 163, 164, 165, 166, 167, 168, 169] rfl (by decide +kernel)
set_option maxRecDepth 20000 in
theorem gX12_text_X12_isRow : GoodIn wsX12_text (wsV RX12 516 RX12 yX12_isRow wsX12_isRow) := goodIn_app (goodIn_of _ (by decide +kernel)) ggX12_text_X12_isRow
set_option maxRecDepth 20000 in
theorem ggX12_octet_X12_is : GoodIn wsX12_octet wsX12_is := goodIn_r _ [6] rfl (by decide +kernel)
set_option maxRecDepth 20000 in
theorem gX12_octet_X12_is : GoodIn wsX12_octet (va_wsS RX12 362 yX12_is wsX12_is) := goodIn_app (goodIn_of _ (by decide +kernel)) ggX12_octet_X12_is
set_option maxRecDepth 20000 in
theorem ggX12_safe_X12_isPlace : GoodIn wsX12_safe wsX12_isPlace := goodIn_r _ [5, 6, 7, 8, 9, 4, 10, 82, 83, 84, 85, 86, 87, 88, 89, 90, 91, 92, 93, 94, 95, 96, 97, 98, 99, 100, 101, 102, 103, 104, 105, 106, 107, 108, 109, 110, 111, 112, 113, 114, 115, 116, 117, 118, 119, 120, 121, 122, 123, 124, 125, 126, 127, 128, 129, 130, 131, 132, 133, 134, 135, 136, 137, 138, 139, 140, 141, 142, 143, 144, 145, 146, 147, 148, 149, 150, 151, 152, 153, 154, 155, 156, 157, 158, 159, 160, 161, 162, 163, 164, 165, 166, 167, 168, 169, 170, 171, 172, 173, 174, 175, 176, 177, 178, 179] rfl (by decide +kernel)
set_option maxRecDepth 20000 in
theorem gX12_safe_X12_isPlace : GoodIn wsX12_safe (wsV RX12 498 RX12 yX12_isPlace wsX12_isPlace) := goodIn_app (goodIn_of _ (by decide +kernel)) ggX12_safe_X12_isPlace
set_option maxRecDepth 20000 in
theorem ggX12_see_X12_refuses : GoodIn wsX12_see wsX12_refuses := goodIn_r _ [13, 14, 15, 16, 17, 18, 19, 20, 21, 22, 23, 24, 25, 26, 27, 28, 29, 30, 31, 32, 33, 34, 35, 36, 37, 38, 39, 40, 41, 42, 43, 44, 45, 46, 47, 48, 49, 50, 51, 52, 53, 54, 55, 56, 57, 58, 59, 60, 61, 62, 63, 64, 65, 66, 67, 68, 69, 70, 71, 72, 73, 74, 75, 76, 77, 78, 79, 80, 81, 82, 83, 84, 85, 86, 87, 88, 89, 90, 91, 92, 93, 94, 95, 96, 97, 98, 99, 100, 101, 102, 103, 104, 105, 106, 107, 108, 109, 110, 111, 112] rfl (by decide +kernel)
set_option maxRecDepth 20000 in
theorem gX12_see_X12_refuses : GoodIn wsX12_see (wsV RX12 312 RX12 yX12_refuses wsX12_refuses) := goodIn_app (goodIn_of _ (by decide +kernel)) ggX12_see_X12_refuses
set_option maxRecDepth 20000 in
theorem ggX12_run_X12_isRow : GoodIn wsX12_run wsX12_isRow := goodIn_r _ [5, 6, 7, 8, 9, 4, 10, 137, 138, 139, 140, 141, 142, 143, 144, 145, 146, 147, 148, 149, 150, 151, 152, 153, 154, 155, 156, 157, 158, 159, 160, 161, 162, 163, 164, 165, 166, 167, 168, 169, 170, 171, 172, 173, 174, 175, 176, 177, 178, 179, 180, 181, 182, 183, 184, 185, 186, 187, 188, 189, 190, 191, 192, 193, 194, 195, 196, 197, 198, 199, 200, 201, 202, 203, 204, 205, 206, 207, 208, 209, 210, 211, 212, 213, 214, 215, 216, 217, 218, 219, 220, 221, 222, 223, 224, 225, 226, 227, 228, 229, 230, 231, 232, 233, 234] rfl (by decide +kernel)
set_option maxRecDepth 20000 in
theorem gX12_run_X12_isRow : GoodIn wsX12_run (wsV RX12 516 RX12 yX12_isRow wsX12_isRow) := goodIn_app (goodIn_of _ (by decide +kernel)) ggX12_run_X12_isRow
set_option maxRecDepth 20000 in
theorem ggX12_run_X12_refuses : GoodIn wsX12_run wsX12_refuses := goodIn_r _ [14, 15, 137, 138, 139, 140, 141, 142, 143, 144, 145, 146, 147, 148, 149, 150, 151, 152, 153, 154, 155, 156, 157, 158, 159, 160, 161, 162, 163, 164, 165, 166, 167, 168, 169, 170, 171, 172, 173, 174, 175, 176, 177, 178, 179, 180, 181, 182, 183, 184, 185, 186, 187, 188, 189, 190, 191, 192, 193, 194, 195, 196, 197, 198, 199, 200, 201, 202, 203, 204, 205, 206, 207, 208, 209, 210, 211, 212, 213, 214, 215, 216, 217, 218, 219, 220, 221, 222, 223, 224, 225, 226, 227, 228, 229, 230, 231, 232, 233, 234] rfl (by decide +kernel)
set_option maxRecDepth 20000 in
theorem gX12_run_X12_refuses : GoodIn wsX12_run (wsV RX12 312 RX12 yX12_refuses wsX12_refuses) := goodIn_app (goodIn_of _ (by decide +kernel)) ggX12_run_X12_refuses
set_option maxRecDepth 20000 in
theorem ggX12_chance_X12_refuses : GoodIn wsX12_chance wsX12_refuses := goodIn_r _ [10, 11, 142, 143, 144, 145, 146, 147, 148, 149, 150, 151, 152, 153, 154, 155, 156, 157, 158, 159, 160, 161, 162, 163, 164, 165, 166, 167, 168, 169, 170, 171, 172, 173, 174, 175, 176, 177, 178, 179, 180, 181, 182, 183, 184, 185, 186, 187, 188, 189, 190, 191, 192, 193, 194, 195, 196, 197, 198, 199, 200, 201, 202, 203, 204, 205, 206, 207, 208, 209, 210, 211, 212, 213, 214, 215, 216, 217, 218, 219, 220, 221, 222, 223, 224, 225, 226, 227, 228, 229, 230, 231, 232, 233, 234, 235, 236, 237, 238, 239] rfl (by decide +kernel)
set_option maxRecDepth 20000 in
theorem gX12_chance_X12_refuses : GoodIn wsX12_chance (wsV RX12 312 RX12 yX12_refuses wsX12_refuses) := goodIn_app (goodIn_of _ (by decide +kernel)) ggX12_chance_X12_refuses
set_option maxRecDepth 20000 in
theorem ggX12_swap_X12_isPlace : GoodIn wsX12_swap wsX12_isPlace := goodIn_r _ [5, 6, 7, 8, 9, 4, 10, 39, 40, 41, 42, 43, 44, 45, 46, 47, 48, 49, 50, 51, 52, 53, 54, 55, 56, 57, 58, 59, 60, 61, 62, 63, 64, 65, 66, 67, 68, 69, 70, 71, 72, 73, 74, 75, 76, 77, 78, 79, 80, 81, 82, 83, 84, 85, 86, 87, 88, 89, 90, 91, 92, 93, 94, 95, 96, 97, 98, 99, 100, 101, 102, 103, 104, 105, 106, 107, 108, 109, 110, 111, 112, 113, 114, 115, 116, 117, 118, 119, 120, 121, 122, 123, 124, 125, 126, 127, 128, 129, 130, 131, 132, 133, 134, 135, 136] rfl (by decide +kernel)
set_option maxRecDepth 20000 in
theorem gX12_swap_X12_isPlace : GoodIn wsX12_swap (wsV RX12 498 RX12 yX12_isPlace wsX12_isPlace) := goodIn_app (goodIn_of _ (by decide +kernel)) ggX12_swap_X12_isPlace
set_option maxRecDepth 20000 in
theorem ggX12_swap_X12_refuses : GoodIn wsX12_swap wsX12_refuses := goodIn_r _ [14, 15, 39, 40, 41, 42, 43, 44, 45, 46, 47, 48, 49, 50, 51, 52, 53, 54, 55, 56, 57, 58, 59, 60, 61, 62, 63, 64, 65, 66, 67, 68, 69, 70, 71, 72, 73, 74, 75, 76, 77, 78, 79, 80, 81, 82, 83, 84, 85, 86, 87, 88, 89, 90, 91, 92, 93, 94, 95, 96, 97, 98, 99, 100, 101, 102, 103, 104, 105, 106, 107, 108, 109, 110, 111, 112, 113, 114, 115, 116, 117, 118, 119, 120, 121, 122, 123, 124, 125, 126, 127, 128, 129, 130, 131, 132, 133, 134, 135, 136] rfl (by decide +kernel)
set_option maxRecDepth 20000 in
theorem gX12_swap_X12_refuses : GoodIn wsX12_swap (wsV RX12 312 RX12 yX12_refuses wsX12_refuses) := goodIn_app (goodIn_of _ (by decide +kernel)) ggX12_swap_X12_refuses
set_option maxRecDepth 20000 in
theorem ggX12_drop_X12_isPlace : GoodIn wsX12_drop wsX12_isPlace := goodIn_r _ [7, 8, 1, 9, 10, 6, 11, 35, 36, 37, 38, 39, 40, 41, 42, 43, 44, 45, 46, 47, 48, 49, 50, 51, 52, 53, 54, 55, 56, 57, 58, 59, 60, 61, 62, 63, 64, 65, 66, 67, 68, 69, 70, 71, 72, 73, 74, 75, 76, 77, 78, 79, 80, 81, 82, 83, 84, 85, 86, 87, 88, 89, 90, 91, 92, 93, 94, 95, 96, 97, 98, 99, 100, 101, 102, 103, 104, 105, 106, 107, 108, 109, 110, 111, 112, 113, 114, 115, 116, 117, 118, 119, 120, 121, 122, 123, 124, 125, 126, 127, 128, 129, 130, 131, 132] rfl (by decide +kernel)
set_option maxRecDepth 20000 in
theorem gX12_drop_X12_isPlace : GoodIn wsX12_drop (wsV RX12 498 RX12 yX12_isPlace wsX12_isPlace) := goodIn_app (goodIn_of _ (by decide +kernel)) ggX12_drop_X12_isPlace
set_option maxRecDepth 20000 in
theorem ggX12_drop_X12_refuses : GoodIn wsX12_drop wsX12_refuses := goodIn_r _ [15, 16, 35, 36, 37, 38, 39, 40, 41, 42, 43, 44, 45, 46, 47, 48, 49, 50, 51, 52, 53, 54, 55, 56, 57, 58, 59, 60, 61, 62, 63, 64, 65, 66, 67, 68, 69, 70, 71, 72, 73, 74, 75, 76, 77, 78, 79, 80, 81, 82, 83, 84, 85, 86, 87, 88, 89, 90, 91, 92, 93, 94, 95, 96, 97, 98, 99, 100, 101, 102, 103, 104, 105, 106, 107, 108, 109, 110, 111, 112, 113, 114, 115, 116, 117, 118, 119, 120, 121, 122, 123, 124, 125, 126, 127, 128, 129, 130, 131, 132] rfl (by decide +kernel)
set_option maxRecDepth 20000 in
theorem gX12_drop_X12_refuses : GoodIn wsX12_drop (wsV RX12 312 RX12 yX12_refuses wsX12_refuses) := goodIn_app (goodIn_of _ (by decide +kernel)) ggX12_drop_X12_refuses
set_option maxRecDepth 20000 in
theorem ggX12_turn_X12_refuses : GoodIn wsX12_turn wsX12_refuses := goodIn_r _ [10, 11, 31, 32, 33, 34, 35, 36, 37, 38, 39, 40, 41, 42, 43, 44, 45, 46, 47, 48, 49, 50, 51, 52, 53, 54, 55, 56, 57, 58, 59, 60, 61, 62, 63, 64, 65, 66, 67, 68, 69, 70, 71, 72, 73, 74, 75, 76, 77, 78, 79, 80, 81, 82, 83, 84, 85, 86, 87, 88, 89, 90, 91, 92, 93, 94, 95, 96, 97, 98, 99, 100, 101, 102, 103, 104, 105, 106, 107, 108, 109, 110, 111, 112, 113, 114, 115, 116, 117, 118, 119, 120, 121, 122, 123, 124, 125, 126, 127, 128] rfl (by decide +kernel)
set_option maxRecDepth 20000 in
theorem gX12_turn_X12_refuses : GoodIn wsX12_turn (wsV RX12 312 RX12 yX12_refuses wsX12_refuses) := goodIn_app (goodIn_of _ (by decide +kernel)) ggX12_turn_X12_refuses
set_option maxRecDepth 20000 in
theorem ggX12_choose_X12_refuses : GoodIn wsX12_choose wsX12_refuses := goodIn_r _ [10, 11, 31, 32, 33, 34, 35, 36, 37, 38, 39, 40, 41, 42, 43, 44, 45, 46, 47, 48, 49, 50, 51, 52, 53, 54, 55, 56, 57, 58, 59, 60, 61, 62, 63, 64, 65, 66, 67, 68, 69, 70, 71, 72, 73, 74, 75, 76, 77, 78, 79, 80, 81, 82, 83, 84, 85, 86, 87, 88, 89, 90, 91, 92, 93, 94, 95, 96, 97, 98, 99, 100, 101, 102, 103, 104, 105, 106, 107, 108, 109, 110, 111, 112, 113, 114, 115, 116, 117, 118, 119, 120, 121, 122, 123, 124, 125, 126, 127, 128] rfl (by decide +kernel)
set_option maxRecDepth 20000 in
theorem gX12_choose_X12_refuses : GoodIn wsX12_choose (wsV RX12 312 RX12 yX12_refuses wsX12_refuses) := goodIn_app (goodIn_of _ (by decide +kernel)) ggX12_choose_X12_refuses
set_option maxRecDepth 20000 in
theorem ggX12_seed_X12_refuses : GoodIn wsX12_seed wsX12_refuses := goodIn_r _ [6, 7, 8, 9, 10, 11, 12, 13, 14, 15, 16, 17, 18, 19, 20, 21, 22, 23, 24, 25, 26, 27, 28, 29, 30, 31, 32, 33, 34, 35, 36, 37, 38, 39, 40, 41, 42, 43, 44, 45, 46, 47, 48, 49, 50, 51, 52, 53, 54, 55, 56, 57, 58, 59, 60, 61, 62, 63, 64, 65, 66, 67, 68, 69, 70, 71, 72, 73, 74, 75, 76, 77, 78, 79, 80, 81, 82, 83, 84, 85, 86, 87, 88, 89, 90, 91, 92, 93, 94, 95, 96, 97, 98, 99, 100, 101, 102, 103, 104, 105] rfl (by decide +kernel)
set_option maxRecDepth 20000 in
theorem gX12_seed_X12_refuses : GoodIn wsX12_seed (wsV RX12 312 RX12 yX12_refuses wsX12_refuses) := goodIn_app (goodIn_of _ (by decide +kernel)) ggX12_seed_X12_refuses
set_option maxRecDepth 20000 in
theorem ggX12_kept_X12_is : GoodIn wsX12_kept wsX12_is := goodIn_r _ [6] rfl (by decide +kernel)
set_option maxRecDepth 20000 in
theorem gX12_kept_X12_is : GoodIn wsX12_kept (va_wsS RX12 362 yX12_is wsX12_is) := goodIn_app (goodIn_of _ (by decide +kernel)) ggX12_kept_X12_is
set_option maxRecDepth 20000 in
theorem ggX12_image_X12_writes : GoodIn wsX12_image wsX12_writes := goodIn_r _ [11, 6, 1, 12, 13, 14, 15, 16, 17, 18, 19, 20, 21, 22, 23, 24, 25, 26, 27, 28, 29, 30, 31, 32, 33, 34, 35, 36, 37, 38, 39, 40, 41, 42, 43, 44, 45, 46, 47, 48, 49, 50, 51, 52, 53, 54, 55, 56, 57, 58, 59, 60, 61, 62, 63, 64, 65, 66, 67, 68, 69, 70, 71, 72, 73, 74, 75, 76, 77, 78, 79, 80, 81, 82, 83, 84, 85, 86, 87, 88, 89, 90, 91, 92, 93, 94, 95, 96, 97, 98, 99, 100, 101, 102, 103, 104, 105, 106, 107, 108, 109] rfl (by decide +kernel)
set_option maxRecDepth 20000 in
theorem gX12_image_X12_writes : GoodIn wsX12_image (wsV RX12 528 RX12 yX12_writes wsX12_writes) := goodIn_app (goodIn_of _ (by decide +kernel)) ggX12_image_X12_writes
set_option maxRecDepth 20000 in
theorem ggX12_on_X12_comesOn : GoodIn wsX12_on wsX12_comesOn := goodIn_r _ [7, 8, 9, 10, 11, 12, 13, 14, 15, 16, 17, 18, 19, 6, 20, 21, 27, 28, 29, 30, 31, 32, 33, 34, 35, 36, 37, 38, 39, 40, 41, 42, 43, 44, 45, 46, 47, 48, 49, 50, 51, 52, 53, 54, 55, 56, 57, 58, 59, 60, 61, 62, 63, 64, 65, 66, 67, 68, 69, 70, 71, 72, 73, 74, 75, 76, 77, 78, 79, 80, 81, 82, 83, 84, 85, 86, 87, 88, 89, 90, 91, 92, 93, 94, 95, 96, 97, 98, 99, 100, 101, 102, 103, 104, 105, 106, 107, 108, 109, 110, 111, 112, 113, 114, 115, 116, 117, 118, 119, 120, 121, 122, 123, 124] rfl (by decide +kernel)
set_option maxRecDepth 20000 in
theorem gX12_on_X12_comesOn : GoodIn wsX12_on (wsV RX12 645 RX12 yX12_comesOn wsX12_comesOn) := goodIn_app (goodIn_of _ (by decide +kernel)) ggX12_on_X12_comesOn
set_option maxRecDepth 20000 in
theorem ggX12_on_X12_refuses : GoodIn wsX12_on wsX12_refuses := goodIn_r _ [25, 26, 27, 28, 29, 30, 31, 32, 33, 34, 35, 36, 37, 38, 39, 40, 41, 42, 43, 44, 45, 46, 47, 48, 49, 50, 51, 52, 53, 54, 55, 56, 57, 58, 59, 60, 61, 62, 63, 64, 65, 66, 67, 68, 69, 70, 71, 72, 73, 74, 75, 76, 77, 78, 79, 80, 81, 82, 83, 84, 85, 86, 87, 88, 89, 90, 91, 92, 93, 94, 95, 96, 97, 98, 99, 100, 101, 102, 103, 104, 105, 106, 107, 108, 109, 110, 111, 112, 113, 114, 115, 116, 117, 118, 119, 120, 121, 122, 123, 124] rfl (by decide +kernel)
set_option maxRecDepth 20000 in
theorem gX12_on_X12_refuses : GoodIn wsX12_on (wsV RX12 312 RX12 yX12_refuses wsX12_refuses) := goodIn_app (goodIn_of _ (by decide +kernel)) ggX12_on_X12_refuses
set_option maxRecDepth 20000 in
theorem ggJ0_length_8abf5_J0_coder_7d493 : GoodIn wsJ0_length_8abf5 wsJ0_coder_7d493 := goodIn_r _ [6, 7, 8] rfl (by decide +kernel)
set_option maxRecDepth 20000 in
theorem gJ0_length_8abf5_J0_coder_7d493 : GoodIn wsJ0_length_8abf5 (wsV RJ0 335 RJ0 yJ0_coder_7d493 wsJ0_coder_7d493) := goodIn_app (goodIn_of _ (by decide +kernel)) ggJ0_length_8abf5_J0_coder_7d493
set_option maxRecDepth 20000 in
theorem ggJ0_charAt_5068e_J0_isLatin1_aae02 : GoodIn wsJ0_charAt_5068e wsJ0_isLatin1_aae02 := goodIn_r _ [6, 7, 8] rfl (by decide +kernel)
set_option maxRecDepth 20000 in
theorem gJ0_charAt_5068e_J0_isLatin1_aae02 : GoodIn wsJ0_charAt_5068e (wsV RJ0 492 RJ0 yJ0_isLatin1_aae02 wsJ0_isLatin1_aae02) := goodIn_app (goodIn_of _ (by decide +kernel)) ggJ0_charAt_5068e_J0_isLatin1_aae02
set_option maxRecDepth 20000 in
theorem ggJ0_charAt_5068e_J1_charAt_3b067 : GoodIn wsJ0_charAt_5068e wsJ1_charAt_3b067 := goodIn_r _ [12, 13, 14, 5, 15, 16, 17, 18, 19, 20] rfl (by decide +kernel)
set_option maxRecDepth 20000 in
theorem gJ0_charAt_5068e_J1_charAt_3b067 : GoodIn wsJ0_charAt_5068e (va_wsS RJ0 495 yJ1_charAt_3b067 wsJ1_charAt_3b067) := goodIn_app (goodIn_of _ (by decide +kernel)) ggJ0_charAt_5068e_J1_charAt_3b067
set_option maxRecDepth 20000 in
theorem ggJ0_checkIndex_df160_J3_checkIndex_8e157 : GoodIn wsJ0_checkIndex_df160 wsJ3_checkIndex_8e157 := goodIn_r _ [5] rfl (by decide +kernel)
set_option maxRecDepth 20000 in
theorem gJ0_checkIndex_df160_J3_checkIndex_8e157 : GoodIn wsJ0_checkIndex_df160 (va_wsS RJ0 1059 yJ3_checkIndex_8e157 wsJ3_checkIndex_8e157) := goodIn_app (goodIn_of _ (by decide +kernel)) ggJ0_checkIndex_df160_J3_checkIndex_8e157
set_option maxRecDepth 20000 in
theorem ggJ1_charAt_3b067_J0_checkIndex_df160 : GoodIn wsJ1_charAt_3b067 wsJ0_checkIndex_df160 := goodIn_r _ [4, 5, 6, 7, 8, 9] rfl (by decide +kernel)
set_option maxRecDepth 20000 in
theorem gJ1_charAt_3b067_J0_checkIndex_df160 : GoodIn wsJ1_charAt_3b067 (va_wsS RJ1 9 yJ0_checkIndex_df160 wsJ0_checkIndex_df160) := goodIn_app (goodIn_of _ (by decide +kernel)) ggJ1_charAt_3b067_J0_checkIndex_df160
end
section
/-! What every contract of this claim stands in: the array classes, the links that are not words. -/
abbrev ty0 (cI cJ : ClassId) : List (ClassId × FieldType) := [(cI, .int), (cJ, .long)]
/-- int[][] has been made before -/
def gA (U : State) : Prop := (Cond.arrayOver (.array .int)).before #[] U = true
theorem gA.moved {u U : State} (hvm : u.vm.Alike U.vm) (h : gA u) : gA U := by
  obtain ⟨comp, c, k, h1, h2, h3, h4, h5⟩ := arrayOverA_spec h
  obtain ⟨k', hk', he⟩ := hvm.2.2 _ _ h3
  have hi : (U.vm.classes.findIdx? fun (x : Class) => match x.kind with | .array component _ => component == comp | _ => false) = some c := by
    have e1 := va_idx_bare U.vm comp
    have e2 := va_idx_bare u.vm comp
    have e3 : U.vm.bare = u.vm.bare := by first | exact hvm.bare_eq | exact hvm.bare_eq.symm
    rw [e3] at e1
    exact (e1.symm.trans e2).trans h2
  have hkind : k'.kind = .array comp (.array .int) := by rw [he]; exact h4
  have f1 : U.vm.findClass (FieldType.array .int).toString = some comp := by rw [hvm.findClass]; exact h1
  have f2 : U.vm.findClass ("[" ++ (FieldType.array .int).toString) = some c := by rw [hvm.findClass]; exact h5
  unfold gA Cond.before Cond.holds
  simp only [Cond.value]
  rw [f1, Option.bind_some]
  refine (congrArg (fun o : Option Nat => (o.bind (fun c => (U.vm.classes[c]?).map fun (k : Class) => match k.kind with | .array _ ty => decide (ty = FieldType.array .int) && decide (U.vm.findClass ("[" ++ (FieldType.array .int).toString) = some c) | _ => false) == some true)) hi).trans ?_
  simp [hk', hkind, f2]
/-- what does not change with the heap: the links to private members of nest mates, the arrays of references -/
def gN (U : State) : Prop := va_Nw (.methodLinkNest RX11 23 yX4_init RX11) U ∧ va_Nw (.methodLinkNest RX11 42 yX5_init RX11) U ∧ va_Nw (.methodLinkNest RX11 59 yX8_init RX11) U ∧ va_Nw (.methodLinkNest RX11 70 yX9_init RX11) U ∧ va_Nw (.methodLinkNest RX0 30 yX5_init RX11) U ∧ va_Nw (.methodLinkNest RX6 11 yX7_init RX11) U ∧ va_Nw (.methodLinkNest RX9 11 yX3_init RX11) U ∧ va_AO RX2 U ∧ va_AO RX5 U ∧ gA U
theorem gN.same {u U : State} (h : u.vm = U.vm) (hN : gN u) : gN U := by
  obtain ⟨h1, h2, h3, h4, h5, h6, h7, h8, h9, h10⟩ := hN
  have hal : u.vm.Alike U.vm := h ▸ Vm.Alike.refl u.vm
  exact ⟨h1.same rfl h, h2.same rfl h, h3.same rfl h, h4.same rfl h, h5.same rfl h, h6.same rfl h, h7.same rfl h, h8.moved hal, h9.moved hal, h10.moved hal⟩
theorem gN.warm {s U : State} (hW : s.WarmedH U.vm) (hN : gN s) : gN U := by
  obtain ⟨h1, h2, h3, h4, h5, h6, h7, h8, h9, h10⟩ := hN
  exact ⟨h1.warmM hW, h2.warmM hW, h3.warmM hW, h4.warmM hW, h5.warmM hW, h6.warmM hW, h7.warmM hW, h8.moved hW.alike, h9.moved hW.alike, h10.moved hW.alike⟩
/-- a contract's start: the cells W -/
abbrev mPre (dC : Nat → ClassId) (dI : Nat → Nat → Nat) (cI cJ : ClassId) (sz : Nat) (W : va_W) : State → Prop := fun U => U.heap.size = sz ∧ va_P (dC, dI) vwCl W U.heap ∧ va_K (dC, dI) vwCl (ty0 cI cJ) U ∧ va_D (fun _ => True) W ∧ gN U
theorem mBlind {dC : Nat → ClassId} {dI : Nat → Nat → Nat} {cI cJ : ClassId} {sz : Nat} {W : va_W} {av : List Value} : FrameBlind (va_Pc av (mPre dC dI cI cJ sz W)) := fun a U g mk q => by
  obtain ⟨q0, q1, qP, qK, qD, qN⟩ := q
  exact ⟨q0, q1, qP, va_K.moved (u := U) (U := U.calling g mk a) (Vm.Alike.refl U.vm) qK, qD, qN.same rfl⟩
theorem mGo {dC : Nat → ClassId} {dI : Nat → Nat → Nat} {cI cJ : ClassId} {W : va_W} {av : List Value} {s : State} {H : Heap} {A : Nat → Prop} (hP : va_P (dC, dI) vwCl W H) (hK : va_K (dC, dI) vwCl (ty0 cI cJ) s) (hD : va_D A W) (hN : gN s) : ∀ U : State, U.heap = H → s.WarmedH U.vm → va_Pc av (mPre dC dI cI cJ H.size W) av.toArray U := fun U hU hW => ⟨rfl, by rw [hU], by rw [hU]; exact hP, va_K.moved hW.alike hK, hD.weaken (fun _ _ _ _ => trivial), hN.warm hW⟩
section KR
variable {p : Program} {l : Launch} {e : Env} {R : Room} {s : State} {m : MethodId} {args : Array Value} {below : List Frame} {meth : Method} {c : Code} {H : Heap} {locs : List Loc} {cells slots : Nat} {Q : State → Prop}
variable {cc : ByteArray} {pc : Nat} {ls : Array Slot} {rest : List Value} {D : va_G} {cl : List vw_C} {A : Nat → Prop} {ws : va_W} {H0 : Heap} {cI cJ : ClassId}
theorem ty_one {U : State} {tys : List (ClassId × FieldType)} {i j : Nat} {c1 c2 : ClassId} (hK : va_K D cl tys U) (h1 : tys[i]? = some (c1, .int)) (h2 : tys[j]? = some (c2, .int)) : c1 = c2 := Option.some.inj ((hK.2 i _ h1).2.symm.trans (hK.2 j _ h2).2)
theorem ty_oneJ {U : State} {tys : List (ClassId × FieldType)} {i j : Nat} {c1 c2 : ClassId} (hK : va_K D cl tys U) (h1 : tys[i]? = some (c1, .long)) (h2 : tys[j]? = some (c2, .long)) : c1 = c2 := Option.some.inj ((hK.2 i _ h1).2.symm.trans (hK.2 j _ h2).2)
/-- new int[n], a place of the world -/
theorem k_newI (hexec : p.tables.exec = Jvm.exec) (hb : c.code = cc) (harr : (Cond.arrayClass .int).before args s = true) (hK : va_K D cl (ty0 cI cJ) s) (hP : va_P D cl ws H) (hD : va_D A ws) (hS : va_S A H0 H locs) (hA : ∀ q, H0.size ≤ q → A q) {n : Int32} {N' k2 n2 : Nat} (hn : ¬ n < 0) (hN : n.toNatClampNeg = N') (hbytes : N' * 4 ≤ 536870912) (hcells : cells + 1 ≤ R.cells) (hslots : slots + N' ≤ R.slots) (hk2 : cells + 1 = k2) (hn2 : slots + N' = n2) (hdg : decode cc pc = .ok (.newarray .int, 2))
    (kk : ∀ (q : Nat) (H1 : Heap), va_P D cl (ws ++ [(q, .inl (cI, N', .inl (fun _ => 0)))]) H1 → va_D A (ws ++ [(q, .inl (cI, N', .inl (fun _ => 0)))]) → va_S A H0 H1 locs → W p l e R s m args below meth c H1 locs k2 n2 Q (F0 m (pc + 2) ls (.ref q :: rest))) : W p l e R s m args below meth c H locs cells slots Q (F0 m pc ls (.int n :: rest)) := by
  subst hk2; subst hn2
  refine va_newa (atype := .int) (ty := .int) (a0 := (N', .inl (fun _ => 0))) hexec hb harr rfl hK hP hD hS hA (fun _ => rfl) hn hN hbytes hcells hslots hdg (fun q cA H1 hK1 hP1 hD1 hS1 => ?_)
  have e1 : cA = cI := ty_one hK1 (i := 2) (j := 0) rfl rfl
  subst e1
  exact kk q H1 hP1 hD1 hS1
theorem va_P.dropL {w1 w2 : va_W} (h : va_P D cl (w1 ++ w2) H) : va_P D cl w1 H := fun k q hk => h k q (by rw [List.getElem?_append_left (List.getElem?_eq_some_iff.mp hk).1]; exact hk)
/-- new int[n] that nobody looks at again -/
theorem k_newIx (hexec : p.tables.exec = Jvm.exec) (hb : c.code = cc) (harr : (Cond.arrayClass .int).before args s = true) (hK : va_K D cl (ty0 cI cJ) s) (hP : va_P D cl ws H) (hD : va_D A ws) (hS : va_S A H0 H locs) (hA : ∀ q, H0.size ≤ q → A q) {n : Int32} {N' k2 n2 : Nat} (hn : ¬ n < 0) (hN : n.toNatClampNeg = N') (hbytes : N' * 4 ≤ 536870912) (hcells : cells + 1 ≤ R.cells) (hslots : slots + N' ≤ R.slots) (hk2 : cells + 1 = k2) (hn2 : slots + N' = n2) (hdg : decode cc pc = .ok (.newarray .int, 2))
    (kk : ∀ (q : Nat) (H1 : Heap), va_P D cl ws H1 → va_S A H0 H1 locs → W p l e R s m args below meth c H1 locs k2 n2 Q (F0 m (pc + 2) ls (.ref q :: rest))) : W p l e R s m args below meth c H locs cells slots Q (F0 m pc ls (.int n :: rest)) := k_newI hexec hb harr hK hP hD hS hA hn hN hbytes hcells hslots hk2 hn2 hdg (fun q H1 hP1 _ hS1 => kk q H1 hP1.dropL hS1)
/-- new long[n] that nobody looks at again -/
theorem k_newJx (hexec : p.tables.exec = Jvm.exec) (hb : c.code = cc) (harr : (Cond.arrayClass .long).before args s = true) (hK : va_K D cl (ty0 cI cJ) s) (hP : va_P D cl ws H) (hD : va_D A ws) (hS : va_S A H0 H locs) (hA : ∀ q, H0.size ≤ q → A q) {n : Int32} {N' k2 n2 : Nat} (hn : ¬ n < 0) (hN : n.toNatClampNeg = N') (hbytes : N' * 8 ≤ 536870912) (hcells : cells + 1 ≤ R.cells) (hslots : slots + N' ≤ R.slots) (hk2 : cells + 1 = k2) (hn2 : slots + N' = n2) (hdg : decode cc pc = .ok (.newarray .long, 2))
    (kk : ∀ (q : Nat) (H1 : Heap), va_P D cl ws H1 → va_S A H0 H1 locs → W p l e R s m args below meth c H1 locs k2 n2 Q (F0 m (pc + 2) ls (.ref q :: rest))) : W p l e R s m args below meth c H locs cells slots Q (F0 m pc ls (.int n :: rest)) := by
  subst hk2; subst hn2
  refine va_newa (atype := .long) (ty := .long) (a0 := (N', .inr (.inl (fun _ => 0)))) hexec hb harr rfl hK hP hD hS hA (fun _ => rfl) hn hN hbytes hcells hslots hdg (fun q cA H1 _ hP1 _ hS1 => kk q H1 hP1.dropL hS1)
/-- new int[n][k] that nobody looks at again -/
theorem k_mnaX (hexec : p.tables.exec = Jvm.exec) (hb : c.code = cc) {own : String} {index : Nat} (hown : s.vm.findClass own = some m.cls) (hclink : (Cond.classLink own index "[[I").before args s = true) (hover : gA s) (harr : (Cond.arrayClass .int).before args s = true) (hP : va_P D cl ws H) (hS : va_S A H0 H locs) {n k : Int32} {N' K' k2 n2 : Nat} (hn : ¬ n < 0) (hk : ¬ k < 0) (hN : n.toNatClampNeg = N') (hM : k.toNatClampNeg = K')
    (hb1 : N' * 4 ≤ 536870912) (hb2 : K' * 4 ≤ 536870912) (hb3 : K' ≤ 536870912) (hcells : cells + (1 + N') ≤ R.cells) (hslots : slots + (N' + N' * K') ≤ R.slots) (hk2 : cells + 1 + N' = k2) (hn2 : slots + N' + N' * K' = n2) (hdg : decode cc pc = .ok (.multianewarray index 2, 4))
    (kk : ∀ (q : Nat) (H1 : Heap), va_P D cl ws H1 → va_S A H0 H1 locs → W p l e R s m args below meth c H1 locs k2 n2 Q (F0 m (pc + 4) ls (.ref q :: rest))) : W p l e R s m args below meth c H locs cells slots Q (F0 m pc ls (.int k :: .int n :: rest)) := by
  subst hk2; subst hn2; subst hN; subst hM
  intro T hT Xs
  obtain ⟨vm₁, cA, comp, -, fA, fC, -, -, X', step⟩ := Jvm.Stand.multianewarray2F (ty := .int) Xs hexec hown hclink hover harr (g := F0 m pc ls (.int k :: .int n :: rest)) rfl (by rw [hb]; exact hdg) rfl hn hk hb1 hb2 hb3 rfl rfl hcells hslots
  generalize hF : Jvm.Free.Multi.fill (T.setVm vm₁) cA comp n.toNatClampNeg k.toNatClampNeg (defaultValue .int) n.toNatClampNeg = F at X' step
  have hTh : (T.setVm vm₁).heap = H := hT
  obtain ⟨f1, -, -, -⟩ := Jvm.Free.Multi.fill_facts (T.setVm vm₁) cA comp n.toNatClampNeg k.toNatClampNeg (defaultValue .int) n.toNatClampNeg
  rw [hF, hTh] at f1
  have hold : ∀ x : Nat, x < H.size → F.heap[x]? = H[x]? := fun x hx => by
    have h9 := Jvm.Free.Multi.fill_old (T.setVm vm₁) cA comp n.toNatClampNeg k.toNatClampNeg (defaultValue .int) (a := x) (by rw [hTh]; exact hx) n.toNatClampNeg
    rw [hF, hTh] at h9
    exact h9
  have hP1 : va_P D cl ws F.heap := hP.kept (fun k9 x hx => hold x.1 ((hP k9 x hx).lt))
  obtain ⟨t, a1, b1⟩ := kk H.size F.heap hP1 ⟨Nat.le_trans hS.1 (by rw [f1]; omega), fun x h1 h2 => (hold x (Nat.lt_of_lt_of_le h1 hS.1)).trans (hS.2.1 x h1 h2), hS.2.2⟩ F rfl X'
  refine ⟨t, step t ?_, b1⟩
  rw [hT]
  exact a1
/-- new C[n] that nobody looks at again -/
theorem k_newQx (hexec : p.tables.exec = Jvm.exec) (hb : c.code = cc) {own C : String} {index : Nat} (hown : s.vm.findClass own = some m.cls) (hclink : (Cond.classLink own index C).before args s = true) (hover : va_AO C s) (hK : va_K D cl (ty0 cI cJ) s) (hP : va_P D cl ws H) (hD : va_D A ws) (hS : va_S A H0 H locs) (hA : ∀ q, H0.size ≤ q → A q) {n : Int32} {N' k2 n2 : Nat} (hn : ¬ n < 0) (hN : n.toNatClampNeg = N') (hbytes : N' * 4 ≤ 536870912) (hcells : cells + 1 ≤ R.cells) (hslots : slots + N' ≤ R.slots) (hk2 : cells + 1 = k2) (hn2 : slots + N' = n2) (hdg : decode cc pc = .ok (.anewarray index, 3))
    (kk : ∀ (q : Nat) (cA : ClassId) (H1 : Heap), va_K D cl (ty0 cI cJ ++ [(cA, .object C)]) s → va_P D cl (ws ++ [(q, .inl (cA, N', .inr (.inr (.inr (.inr (fun _ => none))))))]) H1 → va_D A (ws ++ [(q, .inl (cA, N', .inr (.inr (.inr (.inr (fun _ => none))))))]) → va_S A H0 H1 locs → W p l e R s m args below meth c H1 locs k2 n2 Q (F0 m (pc + 3) ls (.ref q :: rest))) : W p l e R s m args below meth c H locs cells slots Q (F0 m pc ls (.int n :: rest)) := by
  subst hk2; subst hn2
  exact va_newq hexec hb hown hclink hover hK hP hD hS hA hn hN hbytes hcells hslots hdg kk
theorem k_iadd (hexec : p.tables.exec = Jvm.exec) (hb : c.code = cc) {x y v : Int32} (hv : x + y = v) (hdg : decode cc pc = .ok (.iadd, 1)) (k : W p l e R s m args below meth c H locs cells slots Q (F0 m (pc + 1) ls (.int v :: rest))) : W p l e R s m args below meth c H locs cells slots Q (F0 m pc ls (.int y :: .int x :: rest)) := by subst hv; exact lv_iadd hexec hb hdg k
theorem k_isub (hexec : p.tables.exec = Jvm.exec) (hb : c.code = cc) {x y v : Int32} (hv : x - y = v) (hdg : decode cc pc = .ok (.isub, 1)) (k : W p l e R s m args below meth c H locs cells slots Q (F0 m (pc + 1) ls (.int v :: rest))) : W p l e R s m args below meth c H locs cells slots Q (F0 m pc ls (.int y :: .int x :: rest)) := by subst hv; exact lv_isub hexec hb hdg k
theorem k_imul (hexec : p.tables.exec = Jvm.exec) (hb : c.code = cc) {x y v : Int32} (hv : x * y = v) (hdg : decode cc pc = .ok (.imul, 1)) (k : W p l e R s m args below meth c H locs cells slots Q (F0 m (pc + 1) ls (.int v :: rest))) : W p l e R s m args below meth c H locs cells slots Q (F0 m pc ls (.int y :: .int x :: rest)) := by subst hv; exact lv_imul hexec hb hdg k
theorem k_iand (hexec : p.tables.exec = Jvm.exec) (hb : c.code = cc) {x y v : Int32} (hv : x &&& y = v) (hdg : decode cc pc = .ok (.iand, 1)) (k : W p l e R s m args below meth c H locs cells slots Q (F0 m (pc + 1) ls (.int v :: rest))) : W p l e R s m args below meth c H locs cells slots Q (F0 m pc ls (.int y :: .int x :: rest)) := by subst hv; exact lv_iand hexec hb hdg k
theorem k_irem (hexec : p.tables.exec = Jvm.exec) (hb : c.code = cc) {x y v : Int32} (hne : ¬ y = 0) (hv : x - x / y * y = v) (hdg : decode cc pc = .ok (.irem, 1)) (k : W p l e R s m args below meth c H locs cells slots Q (F0 m (pc + 1) ls (.int v :: rest))) : W p l e R s m args below meth c H locs cells slots Q (F0 m pc ls (.int y :: .int x :: rest)) := by subst hv; exact lv_irem hexec hb hdg hne k
end KR
theorem va_P0 {D : va_G} {cl : List vw_C} {H : Heap} : va_P D cl [] H := fun k q h => by simp at h
theorem va_D0 {A : Nat → Prop} : va_D A [] := ⟨fun i j p q h => by simp at h, fun k q h => by simp at h⟩
theorem sw_cases (x : Int32) (n : Nat) (hn : n < 2 ^ 31) : (x.toInt < 0 ∨ (n : Int) - 1 < x.toInt) ∨ ∃ j : Nat, j < n ∧ x = nI j := by
  by_cases h1 : x.toInt < 0
  · exact Or.inl (Or.inl h1)
  · by_cases h2 : (n : Int) - 1 < x.toInt
    · exact Or.inl (Or.inr h2)
    · obtain ⟨j, hj, rfl⟩ := vp_in_of (x := x) (n := n) (vp_in_iff.mpr ⟨by omega, by omega⟩) hn
      exact Or.inr ⟨j, hj, rfl⟩
theorem vpd {i : Int32} {n : Nat} (h : ¬ (i < 0 ∨ n ≤ i.toNatClampNeg)) : vp_in i n := h
end
section
/-! Constructors of the class: Order, Marks, Groups, Bytes, Kinds, Seen, Acts. -/
abbrev w0_c_X5_init (cI : ClassId) (h0 : Nat) : va_W := [(h0, .inr (5, [.null, .int 0, .int 0, .int 0]))]
set_option maxHeartbeats 4000000 in
set_option maxRecDepth 100000 in
theorem c_X5_init (l : Launch) (dC : Nat → ClassId) (dI : Nat → Nat → Nat) (cI cJ : ClassId) (h0 : Nat) (sz : Nat) : Met l yX5_init wsX5_init ({ frames := 1, cells := 1, slots := 12, locals := 60 }) (va_Pc [.ref h0] (mPre dC dI cI cJ sz (w0_c_X5_init cI h0))) (va_Qv (fun _ : Unit => True) (fun (u : Unit) (t : State) => ∃ (q1 : Nat), va_P (dC, dI) vwCl [(h0, .inr (5, [.ref q1, .int 0, .int 0, .int 0]))] t.heap ∧ va_D (va_A (w0_c_X5_init cI h0) sz) [(h0, .inr (5, [.ref q1, .int 0, .int 0, .int 0]))]) (va_A (w0_c_X5_init cI h0) sz)) 1 12 (va_A (w0_c_X5_init cI h0) sz) := by
  refine Met.ofW (cc := cX5_init) (maxL := 1) (ret := none) (by decide) rfl ?_
  intro p e s m args below meth c s₁ B hml hv
  obtain ⟨rfl, hsz, hP, hK, hD0, hN⟩ := hv
  have hx := B.exec
  have hb := B.bytes
  have hr := B.returns
  have hts := atoms_spec (ws := wsX5_init) B.pre
  have hown : s.vm.findClass RX5 = some m.cls := findClass_of_methodNamed B.named
  have hlocks := B.notSynchronized
  have hin : meth.name = "<init>" := (name_of_methodNamed B.named B.method).1
  have h_in_X5 : ∀ w ∈ wsX50, w ∈ wsX5_init := fun w h => List.mem_cons_of_mem _ (List.mem_append_right _ h)
  subst hsz
  have hD := hD0.self (sz := s.heap.size)
  generalize hAe : va_A (w0_c_X5_init cI h0) s.heap.size = A at hD ⊢
  have hA : ∀ q : Nat, s.heap.size ≤ q → A q := fun q h => by rw [← hAe]; exact Or.inr h
  have hS : va_S A s.heap s.heap [] := va_S.rf
  have hP : va_P (dC, dI) vwCl [(h0, .inr (5, [.null, .int 0, .int 0, .int 0]))] s.heap := hP
  have hD : va_D A [(h0, .inr (5, [.null, .int 0, .int 0, .int 0]))] := hD
  have hl := lv_entry ([.ref h0]) (n := 1) (Nat.le_of_ble_eq_true rfl)
  rw [lg_entry_eq]
  generalize (lg_sl ([.ref h0]) ++ List.replicate (1 - (lg_sl ([.ref h0])).length) Slot.unset).toArray = ls at hl ⊢
  have hl : lv_has ls 1 [(0, .ref h0)] := hl
  refine lv_aload_n hx hb dX5_init_0 rfl (lv_at hl 0 rfl) ?_
  refine W.objInit hx hb hown (hts (.methodLink RX5 3 objectInit) (by decide +kernel)) (hts (.instanceMethod objectInit) (by decide +kernel)) (hts (.code objectInit ⟨#[0xb1]⟩ 1 none) (by decide +kernel)) rfl (by rw [hml]; exact hl.1) rfl dX5_init_1 (Nat.le_of_ble_eq_true rfl) (Nat.le_of_ble_eq_true rfl) ?_
  refine W.eq (g2 := F0 m 4 ls []) rfl ?_
  refine lv_aload_n hx hb dX5_init_4 rfl (lv_at hl 0 rfl) ?_
  refine lv_bipush (v := 12) hx hb dX5_init_5 (by decide) ?_
  refine k_newIx (N' := 12) (k2 := 1) (n2 := 12) hx hb (hts (.arrayClass .int) (by decide +kernel)) hK hP hD hS hA (by decide) (by decide) (Nat.le_of_ble_eq_true rfl) (Nat.le_of_ble_eq_true rfl) (Nat.le_of_ble_eq_true rfl) rfl rfl dX5_init_7 (fun q_1 H hP hS => ?_)
  refine va_putF (D := (dC, dI)) (ci := 5) (v := .ref q_1) (ty := (.array .int)) (C := RX5) (T := TX5) (N := 4) hx hb hts h_in_X5 tyX5 tyX5_ok nmX5 hown hK hP hD hS 0 rfl rfl 0 (by decide) (hts (.fieldLink RX5 9 "MatchTrees$Order" "arm" "[I") (by decide +kernel)) (fun _ h9 => h9) rfl hin rfl (by decide +kernel) rfl rfl (Nat.le_of_ble_eq_true rfl) dX5_init_9 (fun H locs hP hD hS => ?_)
  have hP : va_P (dC, dI) vwCl [(h0, .inr (5, [.ref q_1, .int 0, .int 0, .int 0]))] H := hP
  have hD : va_D A [(h0, .inr (5, [.ref q_1, .int 0, .int 0, .int 0]))] := hD
  have hP9 := hP.sub (ws' := [(h0, .inr (5, [.ref q_1, .int 0, .int 0, .int 0]))]) [0] rfl
  have hD9 := hD.sub (ws' := [(h0, .inr (5, [.ref q_1, .int 0, .int 0, .int 0]))]) [0] (by decide) rfl
  exact W.vret hx hb hr (fun t ht hW => ⟨⟨(), rfl, trivial, q_1, by rw [ht]; exact hP9, hD9⟩, hS.F ht⟩) hS.2.2 dX5_init_12
abbrev w0_c_X4_init (cI : ClassId) (h0 : Nat) : va_W := [(h0, .inr (4, [.null, .null, .int 0]))]
set_option maxHeartbeats 4000000 in
set_option maxRecDepth 100000 in
theorem c_X4_init (l : Launch) (dC : Nat → ClassId) (dI : Nat → Nat → Nat) (cI cJ : ClassId) (h0 : Nat) (sz : Nat) : Met l yX4_init wsX4_init ({ frames := 1, cells := 2, slots := 8192, locals := 60 }) (va_Pc [.ref h0] (mPre dC dI cI cJ sz (w0_c_X4_init cI h0))) (va_Qv (fun _ : Unit => True) (fun _ _ => True) (va_A (w0_c_X4_init cI h0) sz)) 2 8192 (va_A (w0_c_X4_init cI h0) sz) := by
  refine Met.ofW (cc := cX4_init) (maxL := 1) (ret := none) (by decide) rfl ?_
  intro p e s m args below meth c s₁ B hml hv
  obtain ⟨rfl, hsz, hP, hK, hD0, hN⟩ := hv
  have hx := B.exec
  have hb := B.bytes
  have hr := B.returns
  have hts := atoms_spec (ws := wsX4_init) B.pre
  have hown : s.vm.findClass RX4 = some m.cls := findClass_of_methodNamed B.named
  have hlocks := B.notSynchronized
  have hin : meth.name = "<init>" := (name_of_methodNamed B.named B.method).1
  have h_in_X4 : ∀ w ∈ wsX40, w ∈ wsX4_init := fun w h => List.mem_cons_of_mem _ (List.mem_append_right _ h)
  subst hsz
  have hD := hD0.self (sz := s.heap.size)
  generalize hAe : va_A (w0_c_X4_init cI h0) s.heap.size = A at hD ⊢
  have hA : ∀ q : Nat, s.heap.size ≤ q → A q := fun q h => by rw [← hAe]; exact Or.inr h
  have hS : va_S A s.heap s.heap [] := va_S.rf
  have hP : va_P (dC, dI) vwCl [(h0, .inr (4, [.null, .null, .int 0]))] s.heap := hP
  have hD : va_D A [(h0, .inr (4, [.null, .null, .int 0]))] := hD
  have hl := lv_entry ([.ref h0]) (n := 1) (Nat.le_of_ble_eq_true rfl)
  rw [lg_entry_eq]
  generalize (lg_sl ([.ref h0]) ++ List.replicate (1 - (lg_sl ([.ref h0])).length) Slot.unset).toArray = ls at hl ⊢
  have hl : lv_has ls 1 [(0, .ref h0)] := hl
  refine lv_aload_n hx hb dX4_init_0 rfl (lv_at hl 0 rfl) ?_
  refine W.objInit hx hb hown (hts (.methodLink RX4 3 objectInit) (by decide +kernel)) (hts (.instanceMethod objectInit) (by decide +kernel)) (hts (.code objectInit ⟨#[0xb1]⟩ 1 none) (by decide +kernel)) rfl (by rw [hml]; exact hl.1) rfl dX4_init_1 (Nat.le_of_ble_eq_true rfl) (Nat.le_of_ble_eq_true rfl) ?_
  refine W.eq (g2 := F0 m 4 ls []) rfl ?_
  refine lv_aload_n hx hb dX4_init_4 rfl (lv_at hl 0 rfl) ?_
  refine lv_sipush (v := 4096) hx hb dX4_init_5 (by decide) ?_
  refine k_newIx (N' := 4096) (k2 := 1) (n2 := 4096) hx hb (hts (.arrayClass .int) (by decide +kernel)) hK hP hD hS hA (by decide) (by decide) (Nat.le_of_ble_eq_true rfl) (Nat.le_of_ble_eq_true rfl) (Nat.le_of_ble_eq_true rfl) rfl rfl dX4_init_8 (fun q_1 H hP hS => ?_)
  refine va_putF (D := (dC, dI)) (ci := 4) (v := .ref q_1) (ty := (.array .int)) (C := RX4) (T := TX4) (N := 3) hx hb hts h_in_X4 tyX4 tyX4_ok nmX4 hown hK hP hD hS 0 rfl rfl 0 (by decide) (hts (.fieldLink RX4 9 "MatchTrees$Marks" "time" "[I") (by decide +kernel)) (fun _ h9 => h9) rfl hin rfl (by decide +kernel) rfl rfl (Nat.le_of_ble_eq_true rfl) dX4_init_10 (fun H locs hP hD hS => ?_)
  have hP : va_P (dC, dI) vwCl [(h0, .inr (4, [.ref q_1, .null, .int 0]))] H := hP
  have hD : va_D A [(h0, .inr (4, [.ref q_1, .null, .int 0]))] := hD
  refine lv_aload_n hx hb dX4_init_13 rfl (lv_at hl 0 rfl) ?_
  refine lv_sipush (v := 4096) hx hb dX4_init_14 (by decide) ?_
  refine k_newIx (N' := 4096) (k2 := 2) (n2 := 8192) hx hb (hts (.arrayClass .int) (by decide +kernel)) hK hP hD hS hA (by decide) (by decide) (Nat.le_of_ble_eq_true rfl) (Nat.le_of_ble_eq_true rfl) (Nat.le_of_ble_eq_true rfl) rfl rfl dX4_init_17 (fun q_2 H hP hS => ?_)
  refine va_putF (D := (dC, dI)) (ci := 4) (v := .ref q_2) (ty := (.array .int)) (C := RX4) (T := TX4) (N := 3) hx hb hts h_in_X4 tyX4 tyX4_ok nmX4 hown hK hP hD hS 0 rfl rfl 1 (by decide) (hts (.fieldLink RX4 15 "MatchTrees$Marks" "spot" "[I") (by decide +kernel)) (fun _ h9 => h9) rfl hin rfl (by decide +kernel) rfl rfl (Nat.le_of_ble_eq_true rfl) dX4_init_19 (fun H locs hP hD hS => ?_)
  have hP : va_P (dC, dI) vwCl [(h0, .inr (4, [.ref q_1, .ref q_2, .int 0]))] H := hP
  have hD : va_D A [(h0, .inr (4, [.ref q_1, .ref q_2, .int 0]))] := hD
  exact W.vret hx hb hr (fun t ht hW => ⟨⟨(), rfl, trivial, trivial⟩, hS.F ht⟩) hS.2.2 dX4_init_22
abbrev w0_c_X2_init_4096 (cI : ClassId) (h0 mk : Nat) : va_W := [(h0, .inr (2, [.null, .null, .null, .int 0]))]
set_option maxHeartbeats 4000000 in
set_option maxRecDepth 100000 in
theorem c_X2_init_4096 (l : Launch) (dC : Nat → ClassId) (dI : Nat → Nat → Nat) (cI cJ : ClassId) (h0 mk : Nat) (sz : Nat) : Met l yX2_init wsX2_init ({ frames := 1, cells := 2, slots := 8192, locals := 60 }) (va_Pc [.ref h0, .int 4096, .ref mk] (mPre dC dI cI cJ sz (w0_c_X2_init_4096 cI h0 mk))) (va_Qv (fun _ : Unit => True) (fun (u : Unit) (t : State) => ∃ (q0 q1 : Nat), va_P (dC, dI) vwCl [(h0, .inr (2, [.ref q0, .ref q1, .ref mk, .int 0]))] t.heap ∧ va_D (va_A (w0_c_X2_init_4096 cI h0 mk) sz) [(h0, .inr (2, [.ref q0, .ref q1, .ref mk, .int 0]))]) (va_A (w0_c_X2_init_4096 cI h0 mk) sz)) 2 8192 (va_A (w0_c_X2_init_4096 cI h0 mk) sz) := by
  refine Met.ofW (cc := cX2_init) (maxL := 3) (ret := none) (by decide) rfl ?_
  intro p e s m args below meth c s₁ B hml hv
  obtain ⟨rfl, hsz, hP, hK, hD0, hN⟩ := hv
  have hx := B.exec
  have hb := B.bytes
  have hr := B.returns
  have hts := atoms_spec (ws := wsX2_init) B.pre
  have hown : s.vm.findClass RX2 = some m.cls := findClass_of_methodNamed B.named
  have hlocks := B.notSynchronized
  have hin : meth.name = "<init>" := (name_of_methodNamed B.named B.method).1
  have h_in_X2 : ∀ w ∈ wsX20, w ∈ wsX2_init := fun w h => List.mem_cons_of_mem _ (List.mem_append_right _ h)
  subst hsz
  have hD := hD0.self (sz := s.heap.size)
  generalize hAe : va_A (w0_c_X2_init_4096 cI h0 mk) s.heap.size = A at hD ⊢
  have hA : ∀ q : Nat, s.heap.size ≤ q → A q := fun q h => by rw [← hAe]; exact Or.inr h
  have hS : va_S A s.heap s.heap [] := va_S.rf
  have hP : va_P (dC, dI) vwCl [(h0, .inr (2, [.null, .null, .null, .int 0]))] s.heap := hP
  have hD : va_D A [(h0, .inr (2, [.null, .null, .null, .int 0]))] := hD
  have hl := lv_entry ([.ref h0, .int 4096, .ref mk]) (n := 3) (Nat.le_of_ble_eq_true rfl)
  rw [lg_entry_eq]
  generalize (lg_sl ([.ref h0, .int 4096, .ref mk]) ++ List.replicate (3 - (lg_sl ([.ref h0, .int 4096, .ref mk])).length) Slot.unset).toArray = ls at hl ⊢
  have hl : lv_has ls 3 [(0, .ref h0), (1, .int 4096), (2, .ref mk)] := hl
  refine lv_aload_n hx hb dX2_init_0 rfl (lv_at hl 0 rfl) ?_
  refine W.objInit hx hb hown (hts (.methodLink RX2 3 objectInit) (by decide +kernel)) (hts (.instanceMethod objectInit) (by decide +kernel)) (hts (.code objectInit ⟨#[0xb1]⟩ 1 none) (by decide +kernel)) rfl (by rw [hml]; exact hl.1) rfl dX2_init_1 (Nat.le_of_ble_eq_true rfl) (Nat.le_of_ble_eq_true rfl) ?_
  refine W.eq (g2 := F0 m 4 ls []) rfl ?_
  refine lv_aload_n hx hb dX2_init_4 rfl (lv_at hl 0 rfl) ?_
  refine lv_iload_n hx hb dX2_init_5 rfl (lv_at hl 1 rfl) ?_
  refine lv_iconst (v := 0) hx hb dX2_init_6 (by decide) ?_
  refine va_mmax hx hb (by rw [hml]; exact hl.1.symm) hown (hts (.methodLink RX2 9 Lib.Math.max.name) (by decide +kernel)) (hts (.static Lib.Math.max.name) (by decide +kernel)) (hts (.initialized "java/lang/Math") (by decide +kernel)) (hts (.code Lib.Math.max.name Lib.Math.max.code 2 (some .int)) (by decide +kernel)) (Nat.le_of_ble_eq_true rfl) (Nat.le_of_ble_eq_true rfl) (Nat.le_of_ble_eq_true rfl) (Nat.le_of_ble_eq_true rfl) dX2_init_7 ?_
  refine lv_topi (fun t9 e9 => ?_)
  obtain rfl : t9 = 4096 := e9.trans (by decide)
  refine k_newIx (N' := 4096) (k2 := 1) (n2 := 4096) hx hb (hts (.arrayClass .int) (by decide +kernel)) hK hP hD hS hA (by decide) (by decide) (Nat.le_of_ble_eq_true rfl) (Nat.le_of_ble_eq_true rfl) (Nat.le_of_ble_eq_true rfl) rfl rfl dX2_init_10 (fun q_1 H hP hS => ?_)
  refine va_putF (D := (dC, dI)) (ci := 2) (v := .ref q_1) (ty := (.array .int)) (C := RX2) (T := TX2) (N := 4) hx hb hts h_in_X2 tyX2 tyX2_ok nmX2 hown hK hP hD hS 0 rfl rfl 0 (by decide) (hts (.fieldLink RX2 15 "MatchTrees$Groups" "arms" "[I") (by decide +kernel)) (fun _ h9 => h9) rfl hin rfl (by decide +kernel) rfl rfl (Nat.le_of_ble_eq_true rfl) dX2_init_12 (fun H locs hP hD hS => ?_)
  have hP : va_P (dC, dI) vwCl [(h0, .inr (2, [.ref q_1, .null, .null, .int 0]))] H := hP
  have hD : va_D A [(h0, .inr (2, [.ref q_1, .null, .null, .int 0]))] := hD
  refine lv_aload_n hx hb dX2_init_15 rfl (lv_at hl 0 rfl) ?_
  refine lv_iload_n hx hb dX2_init_16 rfl (lv_at hl 1 rfl) ?_
  refine lv_iconst (v := 0) hx hb dX2_init_17 (by decide) ?_
  refine va_mmax hx hb (by rw [hml]; exact hl.1.symm) hown (hts (.methodLink RX2 9 Lib.Math.max.name) (by decide +kernel)) (hts (.static Lib.Math.max.name) (by decide +kernel)) (hts (.initialized "java/lang/Math") (by decide +kernel)) (hts (.code Lib.Math.max.name Lib.Math.max.code 2 (some .int)) (by decide +kernel)) (Nat.le_of_ble_eq_true rfl) (Nat.le_of_ble_eq_true rfl) (Nat.le_of_ble_eq_true rfl) (Nat.le_of_ble_eq_true rfl) dX2_init_18 ?_
  refine lv_topi (fun t9 e9 => ?_)
  obtain rfl : t9 = 4096 := e9.trans (by decide)
  refine k_newIx (N' := 4096) (k2 := 2) (n2 := 8192) hx hb (hts (.arrayClass .int) (by decide +kernel)) hK hP hD hS hA (by decide) (by decide) (Nat.le_of_ble_eq_true rfl) (Nat.le_of_ble_eq_true rfl) (Nat.le_of_ble_eq_true rfl) rfl rfl dX2_init_21 (fun q_2 H hP hS => ?_)
  refine va_putF (D := (dC, dI)) (ci := 2) (v := .ref q_2) (ty := (.array .int)) (C := RX2) (T := TX2) (N := 4) hx hb hts h_in_X2 tyX2 tyX2_ok nmX2 hown hK hP hD hS 0 rfl rfl 1 (by decide) (hts (.fieldLink RX2 21 "MatchTrees$Groups" "size" "[I") (by decide +kernel)) (fun _ h9 => h9) rfl hin rfl (by decide +kernel) rfl rfl (Nat.le_of_ble_eq_true rfl) dX2_init_23 (fun H locs hP hD hS => ?_)
  have hP : va_P (dC, dI) vwCl [(h0, .inr (2, [.ref q_1, .ref q_2, .null, .int 0]))] H := hP
  have hD : va_D A [(h0, .inr (2, [.ref q_1, .ref q_2, .null, .int 0]))] := hD
  refine lv_aload_n hx hb dX2_init_26 rfl (lv_at hl 0 rfl) ?_
  refine lv_aload_n hx hb dX2_init_27 rfl (lv_at hl 2 rfl) ?_
  refine va_putF (D := (dC, dI)) (ci := 2) (v := .ref mk) (ty := (.object "MatchTrees$Marks")) (C := RX2) (T := TX2) (N := 4) hx hb hts h_in_X2 tyX2 tyX2_ok nmX2 hown hK hP hD hS 0 rfl rfl 2 (by decide) (hts (.fieldLink RX2 24 "MatchTrees$Groups" "marks" "LMatchTrees$Marks;") (by decide +kernel)) (fun _ h9 => h9) rfl hin rfl (by decide +kernel) rfl rfl (Nat.le_of_ble_eq_true rfl) dX2_init_28 (fun H locs hP hD hS => ?_)
  have hP : va_P (dC, dI) vwCl [(h0, .inr (2, [.ref q_1, .ref q_2, .ref mk, .int 0]))] H := hP
  have hD : va_D A [(h0, .inr (2, [.ref q_1, .ref q_2, .ref mk, .int 0]))] := hD
  have hP9 := hP.sub (ws' := [(h0, .inr (2, [.ref q_1, .ref q_2, .ref mk, .int 0]))]) [0] rfl
  have hD9 := hD.sub (ws' := [(h0, .inr (2, [.ref q_1, .ref q_2, .ref mk, .int 0]))]) [0] (by decide) rfl
  exact W.vret hx hb hr (fun t ht hW => ⟨⟨(), rfl, trivial, q_1, q_2, by rw [ht]; exact hP9, hD9⟩, hS.F ht⟩) hS.2.2 dX2_init_31
abbrev w0_c_X2_init_2048 (cI : ClassId) (h0 mk : Nat) : va_W := [(h0, .inr (2, [.null, .null, .null, .int 0]))]
set_option maxHeartbeats 4000000 in
set_option maxRecDepth 100000 in
theorem c_X2_init_2048 (l : Launch) (dC : Nat → ClassId) (dI : Nat → Nat → Nat) (cI cJ : ClassId) (h0 mk : Nat) (sz : Nat) : Met l yX2_init wsX2_init ({ frames := 1, cells := 2, slots := 4096, locals := 60 }) (va_Pc [.ref h0, .int 2048, .ref mk] (mPre dC dI cI cJ sz (w0_c_X2_init_2048 cI h0 mk))) (va_Qv (fun _ : Unit => True) (fun (u : Unit) (t : State) => ∃ (q0 q1 : Nat), va_P (dC, dI) vwCl [(h0, .inr (2, [.ref q0, .ref q1, .ref mk, .int 0]))] t.heap ∧ va_D (va_A (w0_c_X2_init_2048 cI h0 mk) sz) [(h0, .inr (2, [.ref q0, .ref q1, .ref mk, .int 0]))]) (va_A (w0_c_X2_init_2048 cI h0 mk) sz)) 2 4096 (va_A (w0_c_X2_init_2048 cI h0 mk) sz) := by
  refine Met.ofW (cc := cX2_init) (maxL := 3) (ret := none) (by decide) rfl ?_
  intro p e s m args below meth c s₁ B hml hv
  obtain ⟨rfl, hsz, hP, hK, hD0, hN⟩ := hv
  have hx := B.exec
  have hb := B.bytes
  have hr := B.returns
  have hts := atoms_spec (ws := wsX2_init) B.pre
  have hown : s.vm.findClass RX2 = some m.cls := findClass_of_methodNamed B.named
  have hlocks := B.notSynchronized
  have hin : meth.name = "<init>" := (name_of_methodNamed B.named B.method).1
  have h_in_X2 : ∀ w ∈ wsX20, w ∈ wsX2_init := fun w h => List.mem_cons_of_mem _ (List.mem_append_right _ h)
  subst hsz
  have hD := hD0.self (sz := s.heap.size)
  generalize hAe : va_A (w0_c_X2_init_2048 cI h0 mk) s.heap.size = A at hD ⊢
  have hA : ∀ q : Nat, s.heap.size ≤ q → A q := fun q h => by rw [← hAe]; exact Or.inr h
  have hS : va_S A s.heap s.heap [] := va_S.rf
  have hP : va_P (dC, dI) vwCl [(h0, .inr (2, [.null, .null, .null, .int 0]))] s.heap := hP
  have hD : va_D A [(h0, .inr (2, [.null, .null, .null, .int 0]))] := hD
  have hl := lv_entry ([.ref h0, .int 2048, .ref mk]) (n := 3) (Nat.le_of_ble_eq_true rfl)
  rw [lg_entry_eq]
  generalize (lg_sl ([.ref h0, .int 2048, .ref mk]) ++ List.replicate (3 - (lg_sl ([.ref h0, .int 2048, .ref mk])).length) Slot.unset).toArray = ls at hl ⊢
  have hl : lv_has ls 3 [(0, .ref h0), (1, .int 2048), (2, .ref mk)] := hl
  refine lv_aload_n hx hb dX2_init_0 rfl (lv_at hl 0 rfl) ?_
  refine W.objInit hx hb hown (hts (.methodLink RX2 3 objectInit) (by decide +kernel)) (hts (.instanceMethod objectInit) (by decide +kernel)) (hts (.code objectInit ⟨#[0xb1]⟩ 1 none) (by decide +kernel)) rfl (by rw [hml]; exact hl.1) rfl dX2_init_1 (Nat.le_of_ble_eq_true rfl) (Nat.le_of_ble_eq_true rfl) ?_
  refine W.eq (g2 := F0 m 4 ls []) rfl ?_
  refine lv_aload_n hx hb dX2_init_4 rfl (lv_at hl 0 rfl) ?_
  refine lv_iload_n hx hb dX2_init_5 rfl (lv_at hl 1 rfl) ?_
  refine lv_iconst (v := 0) hx hb dX2_init_6 (by decide) ?_
  refine va_mmax hx hb (by rw [hml]; exact hl.1.symm) hown (hts (.methodLink RX2 9 Lib.Math.max.name) (by decide +kernel)) (hts (.static Lib.Math.max.name) (by decide +kernel)) (hts (.initialized "java/lang/Math") (by decide +kernel)) (hts (.code Lib.Math.max.name Lib.Math.max.code 2 (some .int)) (by decide +kernel)) (Nat.le_of_ble_eq_true rfl) (Nat.le_of_ble_eq_true rfl) (Nat.le_of_ble_eq_true rfl) (Nat.le_of_ble_eq_true rfl) dX2_init_7 ?_
  refine lv_topi (fun t9 e9 => ?_)
  obtain rfl : t9 = 2048 := e9.trans (by decide)
  refine k_newIx (N' := 2048) (k2 := 1) (n2 := 2048) hx hb (hts (.arrayClass .int) (by decide +kernel)) hK hP hD hS hA (by decide) (by decide) (Nat.le_of_ble_eq_true rfl) (Nat.le_of_ble_eq_true rfl) (Nat.le_of_ble_eq_true rfl) rfl rfl dX2_init_10 (fun q_1 H hP hS => ?_)
  refine va_putF (D := (dC, dI)) (ci := 2) (v := .ref q_1) (ty := (.array .int)) (C := RX2) (T := TX2) (N := 4) hx hb hts h_in_X2 tyX2 tyX2_ok nmX2 hown hK hP hD hS 0 rfl rfl 0 (by decide) (hts (.fieldLink RX2 15 "MatchTrees$Groups" "arms" "[I") (by decide +kernel)) (fun _ h9 => h9) rfl hin rfl (by decide +kernel) rfl rfl (Nat.le_of_ble_eq_true rfl) dX2_init_12 (fun H locs hP hD hS => ?_)
  have hP : va_P (dC, dI) vwCl [(h0, .inr (2, [.ref q_1, .null, .null, .int 0]))] H := hP
  have hD : va_D A [(h0, .inr (2, [.ref q_1, .null, .null, .int 0]))] := hD
  refine lv_aload_n hx hb dX2_init_15 rfl (lv_at hl 0 rfl) ?_
  refine lv_iload_n hx hb dX2_init_16 rfl (lv_at hl 1 rfl) ?_
  refine lv_iconst (v := 0) hx hb dX2_init_17 (by decide) ?_
  refine va_mmax hx hb (by rw [hml]; exact hl.1.symm) hown (hts (.methodLink RX2 9 Lib.Math.max.name) (by decide +kernel)) (hts (.static Lib.Math.max.name) (by decide +kernel)) (hts (.initialized "java/lang/Math") (by decide +kernel)) (hts (.code Lib.Math.max.name Lib.Math.max.code 2 (some .int)) (by decide +kernel)) (Nat.le_of_ble_eq_true rfl) (Nat.le_of_ble_eq_true rfl) (Nat.le_of_ble_eq_true rfl) (Nat.le_of_ble_eq_true rfl) dX2_init_18 ?_
  refine lv_topi (fun t9 e9 => ?_)
  obtain rfl : t9 = 2048 := e9.trans (by decide)
  refine k_newIx (N' := 2048) (k2 := 2) (n2 := 4096) hx hb (hts (.arrayClass .int) (by decide +kernel)) hK hP hD hS hA (by decide) (by decide) (Nat.le_of_ble_eq_true rfl) (Nat.le_of_ble_eq_true rfl) (Nat.le_of_ble_eq_true rfl) rfl rfl dX2_init_21 (fun q_2 H hP hS => ?_)
  refine va_putF (D := (dC, dI)) (ci := 2) (v := .ref q_2) (ty := (.array .int)) (C := RX2) (T := TX2) (N := 4) hx hb hts h_in_X2 tyX2 tyX2_ok nmX2 hown hK hP hD hS 0 rfl rfl 1 (by decide) (hts (.fieldLink RX2 21 "MatchTrees$Groups" "size" "[I") (by decide +kernel)) (fun _ h9 => h9) rfl hin rfl (by decide +kernel) rfl rfl (Nat.le_of_ble_eq_true rfl) dX2_init_23 (fun H locs hP hD hS => ?_)
  have hP : va_P (dC, dI) vwCl [(h0, .inr (2, [.ref q_1, .ref q_2, .null, .int 0]))] H := hP
  have hD : va_D A [(h0, .inr (2, [.ref q_1, .ref q_2, .null, .int 0]))] := hD
  refine lv_aload_n hx hb dX2_init_26 rfl (lv_at hl 0 rfl) ?_
  refine lv_aload_n hx hb dX2_init_27 rfl (lv_at hl 2 rfl) ?_
  refine va_putF (D := (dC, dI)) (ci := 2) (v := .ref mk) (ty := (.object "MatchTrees$Marks")) (C := RX2) (T := TX2) (N := 4) hx hb hts h_in_X2 tyX2 tyX2_ok nmX2 hown hK hP hD hS 0 rfl rfl 2 (by decide) (hts (.fieldLink RX2 24 "MatchTrees$Groups" "marks" "LMatchTrees$Marks;") (by decide +kernel)) (fun _ h9 => h9) rfl hin rfl (by decide +kernel) rfl rfl (Nat.le_of_ble_eq_true rfl) dX2_init_28 (fun H locs hP hD hS => ?_)
  have hP : va_P (dC, dI) vwCl [(h0, .inr (2, [.ref q_1, .ref q_2, .ref mk, .int 0]))] H := hP
  have hD : va_D A [(h0, .inr (2, [.ref q_1, .ref q_2, .ref mk, .int 0]))] := hD
  have hP9 := hP.sub (ws' := [(h0, .inr (2, [.ref q_1, .ref q_2, .ref mk, .int 0]))]) [0] rfl
  have hD9 := hD.sub (ws' := [(h0, .inr (2, [.ref q_1, .ref q_2, .ref mk, .int 0]))]) [0] (by decide) rfl
  exact W.vret hx hb hr (fun t ht hW => ⟨⟨(), rfl, trivial, q_1, q_2, by rw [ht]; exact hP9, hD9⟩, hS.F ht⟩) hS.2.2 dX2_init_31
abbrev w0_c_X1_init_1600 (cI : ClassId) (h0 : Nat) : va_W := [(h0, .inr (1, [.null, .int 0]))]
set_option maxHeartbeats 4000000 in
set_option maxRecDepth 100000 in
theorem c_X1_init_1600 (l : Launch) (dC : Nat → ClassId) (dI : Nat → Nat → Nat) (cI cJ : ClassId) (h0 : Nat) (sz : Nat) : Met l yX1_init wsX1_init ({ frames := 1, cells := 1, slots := 1600, locals := 60 }) (va_Pc [.ref h0, .int 1600] (mPre dC dI cI cJ sz (w0_c_X1_init_1600 cI h0))) (va_Qv (fun _ : Unit => True) (fun (u : Unit) (t : State) => ∃ (q1 : Nat), va_P (dC, dI) vwCl [(h0, .inr (1, [.ref q1, .int 0])), (q1, .inl (cI, 1600, .inl (fun _ => 0)))] t.heap ∧ va_D (va_A (w0_c_X1_init_1600 cI h0) sz) [(h0, .inr (1, [.ref q1, .int 0])), (q1, .inl (cI, 1600, .inl (fun _ => 0)))]) (va_A (w0_c_X1_init_1600 cI h0) sz)) 1 1600 (va_A (w0_c_X1_init_1600 cI h0) sz) := by
  refine Met.ofW (cc := cX1_init) (maxL := 2) (ret := none) (by decide) rfl ?_
  intro p e s m args below meth c s₁ B hml hv
  obtain ⟨rfl, hsz, hP, hK, hD0, hN⟩ := hv
  have hx := B.exec
  have hb := B.bytes
  have hr := B.returns
  have hts := atoms_spec (ws := wsX1_init) B.pre
  have hown : s.vm.findClass RX1 = some m.cls := findClass_of_methodNamed B.named
  have hlocks := B.notSynchronized
  have hin : meth.name = "<init>" := (name_of_methodNamed B.named B.method).1
  have h_in_X1 : ∀ w ∈ wsX10, w ∈ wsX1_init := fun w h => List.mem_cons_of_mem _ (List.mem_append_right _ h)
  subst hsz
  have hD := hD0.self (sz := s.heap.size)
  generalize hAe : va_A (w0_c_X1_init_1600 cI h0) s.heap.size = A at hD ⊢
  have hA : ∀ q : Nat, s.heap.size ≤ q → A q := fun q h => by rw [← hAe]; exact Or.inr h
  have hS : va_S A s.heap s.heap [] := va_S.rf
  have hP : va_P (dC, dI) vwCl [(h0, .inr (1, [.null, .int 0]))] s.heap := hP
  have hD : va_D A [(h0, .inr (1, [.null, .int 0]))] := hD
  have hl := lv_entry ([.ref h0, .int 1600]) (n := 2) (Nat.le_of_ble_eq_true rfl)
  rw [lg_entry_eq]
  generalize (lg_sl ([.ref h0, .int 1600]) ++ List.replicate (2 - (lg_sl ([.ref h0, .int 1600])).length) Slot.unset).toArray = ls at hl ⊢
  have hl : lv_has ls 2 [(0, .ref h0), (1, .int 1600)] := hl
  refine lv_aload_n hx hb dX1_init_0 rfl (lv_at hl 0 rfl) ?_
  refine W.objInit hx hb hown (hts (.methodLink RX1 3 objectInit) (by decide +kernel)) (hts (.instanceMethod objectInit) (by decide +kernel)) (hts (.code objectInit ⟨#[0xb1]⟩ 1 none) (by decide +kernel)) rfl (by rw [hml]; exact hl.1) rfl dX1_init_1 (Nat.le_of_ble_eq_true rfl) (Nat.le_of_ble_eq_true rfl) ?_
  refine W.eq (g2 := F0 m 4 ls []) rfl ?_
  refine lv_aload_n hx hb dX1_init_4 rfl (lv_at hl 0 rfl) ?_
  refine lv_iload_n hx hb dX1_init_5 rfl (lv_at hl 1 rfl) ?_
  refine lv_iconst (v := 0) hx hb dX1_init_6 (by decide) ?_
  refine va_mmax hx hb (by rw [hml]; exact hl.1.symm) hown (hts (.methodLink RX1 9 Lib.Math.max.name) (by decide +kernel)) (hts (.static Lib.Math.max.name) (by decide +kernel)) (hts (.initialized "java/lang/Math") (by decide +kernel)) (hts (.code Lib.Math.max.name Lib.Math.max.code 2 (some .int)) (by decide +kernel)) (Nat.le_of_ble_eq_true rfl) (Nat.le_of_ble_eq_true rfl) (Nat.le_of_ble_eq_true rfl) (Nat.le_of_ble_eq_true rfl) dX1_init_7 ?_
  refine lv_topi (fun t9 e9 => ?_)
  obtain rfl : t9 = 1600 := e9.trans (by decide)
  refine k_newI (N' := 1600) (k2 := 1) (n2 := 1600) hx hb (hts (.arrayClass .int) (by decide +kernel)) hK hP hD hS hA (by decide) (by decide) (Nat.le_of_ble_eq_true rfl) (Nat.le_of_ble_eq_true rfl) (Nat.le_of_ble_eq_true rfl) rfl rfl dX1_init_10 (fun q_1 H hP hD hS => ?_)
  have hP : va_P (dC, dI) vwCl [(h0, .inr (1, [.null, .int 0])), (q_1, .inl (cI, 1600, .inl (fun _ => 0)))] H := hP
  have hD : va_D A [(h0, .inr (1, [.null, .int 0])), (q_1, .inl (cI, 1600, .inl (fun _ => 0)))] := hD
  refine va_putF (D := (dC, dI)) (ci := 1) (v := .ref q_1) (ty := (.array .int)) (C := RX1) (T := TX1) (N := 2) hx hb hts h_in_X1 tyX1 tyX1_ok nmX1 hown hK hP hD hS 0 rfl rfl 0 (by decide) (hts (.fieldLink RX1 15 "MatchTrees$Bytes" "bytes" "[I") (by decide +kernel)) (fun _ h9 => h9) rfl hin rfl (by decide +kernel) rfl rfl (Nat.le_of_ble_eq_true rfl) dX1_init_12 (fun H locs hP hD hS => ?_)
  have hP : va_P (dC, dI) vwCl [(h0, .inr (1, [.ref q_1, .int 0])), (q_1, .inl (cI, 1600, .inl (fun _ => 0)))] H := hP
  have hD : va_D A [(h0, .inr (1, [.ref q_1, .int 0])), (q_1, .inl (cI, 1600, .inl (fun _ => 0)))] := hD
  have hP9 := hP.sub (ws' := [(h0, .inr (1, [.ref q_1, .int 0])), (q_1, .inl (cI, 1600, .inl (fun _ => 0)))]) [0, 1] rfl
  have hD9 := hD.sub (ws' := [(h0, .inr (1, [.ref q_1, .int 0])), (q_1, .inl (cI, 1600, .inl (fun _ => 0)))]) [0, 1] (by decide) rfl
  exact W.vret hx hb hr (fun t ht hW => ⟨⟨(), rfl, trivial, q_1, by rw [ht]; exact hP9, hD9⟩, hS.F ht⟩) hS.2.2 dX1_init_15
abbrev w0_c_X1_init_1024 (cI : ClassId) (h0 : Nat) : va_W := [(h0, .inr (1, [.null, .int 0]))]
set_option maxHeartbeats 4000000 in
set_option maxRecDepth 100000 in
theorem c_X1_init_1024 (l : Launch) (dC : Nat → ClassId) (dI : Nat → Nat → Nat) (cI cJ : ClassId) (h0 : Nat) (sz : Nat) : Met l yX1_init wsX1_init ({ frames := 1, cells := 1, slots := 1024, locals := 60 }) (va_Pc [.ref h0, .int 1024] (mPre dC dI cI cJ sz (w0_c_X1_init_1024 cI h0))) (va_Qv (fun _ : Unit => True) (fun (u : Unit) (t : State) => ∃ (q1 : Nat), va_P (dC, dI) vwCl [(h0, .inr (1, [.ref q1, .int 0])), (q1, .inl (cI, 1024, .inl (fun _ => 0)))] t.heap ∧ va_D (va_A (w0_c_X1_init_1024 cI h0) sz) [(h0, .inr (1, [.ref q1, .int 0])), (q1, .inl (cI, 1024, .inl (fun _ => 0)))]) (va_A (w0_c_X1_init_1024 cI h0) sz)) 1 1024 (va_A (w0_c_X1_init_1024 cI h0) sz) := by
  refine Met.ofW (cc := cX1_init) (maxL := 2) (ret := none) (by decide) rfl ?_
  intro p e s m args below meth c s₁ B hml hv
  obtain ⟨rfl, hsz, hP, hK, hD0, hN⟩ := hv
  have hx := B.exec
  have hb := B.bytes
  have hr := B.returns
  have hts := atoms_spec (ws := wsX1_init) B.pre
  have hown : s.vm.findClass RX1 = some m.cls := findClass_of_methodNamed B.named
  have hlocks := B.notSynchronized
  have hin : meth.name = "<init>" := (name_of_methodNamed B.named B.method).1
  have h_in_X1 : ∀ w ∈ wsX10, w ∈ wsX1_init := fun w h => List.mem_cons_of_mem _ (List.mem_append_right _ h)
  subst hsz
  have hD := hD0.self (sz := s.heap.size)
  generalize hAe : va_A (w0_c_X1_init_1024 cI h0) s.heap.size = A at hD ⊢
  have hA : ∀ q : Nat, s.heap.size ≤ q → A q := fun q h => by rw [← hAe]; exact Or.inr h
  have hS : va_S A s.heap s.heap [] := va_S.rf
  have hP : va_P (dC, dI) vwCl [(h0, .inr (1, [.null, .int 0]))] s.heap := hP
  have hD : va_D A [(h0, .inr (1, [.null, .int 0]))] := hD
  have hl := lv_entry ([.ref h0, .int 1024]) (n := 2) (Nat.le_of_ble_eq_true rfl)
  rw [lg_entry_eq]
  generalize (lg_sl ([.ref h0, .int 1024]) ++ List.replicate (2 - (lg_sl ([.ref h0, .int 1024])).length) Slot.unset).toArray = ls at hl ⊢
  have hl : lv_has ls 2 [(0, .ref h0), (1, .int 1024)] := hl
  refine lv_aload_n hx hb dX1_init_0 rfl (lv_at hl 0 rfl) ?_
  refine W.objInit hx hb hown (hts (.methodLink RX1 3 objectInit) (by decide +kernel)) (hts (.instanceMethod objectInit) (by decide +kernel)) (hts (.code objectInit ⟨#[0xb1]⟩ 1 none) (by decide +kernel)) rfl (by rw [hml]; exact hl.1) rfl dX1_init_1 (Nat.le_of_ble_eq_true rfl) (Nat.le_of_ble_eq_true rfl) ?_
  refine W.eq (g2 := F0 m 4 ls []) rfl ?_
  refine lv_aload_n hx hb dX1_init_4 rfl (lv_at hl 0 rfl) ?_
  refine lv_iload_n hx hb dX1_init_5 rfl (lv_at hl 1 rfl) ?_
  refine lv_iconst (v := 0) hx hb dX1_init_6 (by decide) ?_
  refine va_mmax hx hb (by rw [hml]; exact hl.1.symm) hown (hts (.methodLink RX1 9 Lib.Math.max.name) (by decide +kernel)) (hts (.static Lib.Math.max.name) (by decide +kernel)) (hts (.initialized "java/lang/Math") (by decide +kernel)) (hts (.code Lib.Math.max.name Lib.Math.max.code 2 (some .int)) (by decide +kernel)) (Nat.le_of_ble_eq_true rfl) (Nat.le_of_ble_eq_true rfl) (Nat.le_of_ble_eq_true rfl) (Nat.le_of_ble_eq_true rfl) dX1_init_7 ?_
  refine lv_topi (fun t9 e9 => ?_)
  obtain rfl : t9 = 1024 := e9.trans (by decide)
  refine k_newI (N' := 1024) (k2 := 1) (n2 := 1024) hx hb (hts (.arrayClass .int) (by decide +kernel)) hK hP hD hS hA (by decide) (by decide) (Nat.le_of_ble_eq_true rfl) (Nat.le_of_ble_eq_true rfl) (Nat.le_of_ble_eq_true rfl) rfl rfl dX1_init_10 (fun q_1 H hP hD hS => ?_)
  have hP : va_P (dC, dI) vwCl [(h0, .inr (1, [.null, .int 0])), (q_1, .inl (cI, 1024, .inl (fun _ => 0)))] H := hP
  have hD : va_D A [(h0, .inr (1, [.null, .int 0])), (q_1, .inl (cI, 1024, .inl (fun _ => 0)))] := hD
  refine va_putF (D := (dC, dI)) (ci := 1) (v := .ref q_1) (ty := (.array .int)) (C := RX1) (T := TX1) (N := 2) hx hb hts h_in_X1 tyX1 tyX1_ok nmX1 hown hK hP hD hS 0 rfl rfl 0 (by decide) (hts (.fieldLink RX1 15 "MatchTrees$Bytes" "bytes" "[I") (by decide +kernel)) (fun _ h9 => h9) rfl hin rfl (by decide +kernel) rfl rfl (Nat.le_of_ble_eq_true rfl) dX1_init_12 (fun H locs hP hD hS => ?_)
  have hP : va_P (dC, dI) vwCl [(h0, .inr (1, [.ref q_1, .int 0])), (q_1, .inl (cI, 1024, .inl (fun _ => 0)))] H := hP
  have hD : va_D A [(h0, .inr (1, [.ref q_1, .int 0])), (q_1, .inl (cI, 1024, .inl (fun _ => 0)))] := hD
  have hP9 := hP.sub (ws' := [(h0, .inr (1, [.ref q_1, .int 0])), (q_1, .inl (cI, 1024, .inl (fun _ => 0)))]) [0, 1] rfl
  have hD9 := hD.sub (ws' := [(h0, .inr (1, [.ref q_1, .int 0])), (q_1, .inl (cI, 1024, .inl (fun _ => 0)))]) [0, 1] (by decide) rfl
  exact W.vret hx hb hr (fun t ht hW => ⟨⟨(), rfl, trivial, q_1, by rw [ht]; exact hP9, hD9⟩, hS.F ht⟩) hS.2.2 dX1_init_15
abbrev w0_c_X3_init (cI : ClassId) (h0 : Nat) : va_W := [(h0, .inr (3, [.null, .null, .null, .null, .null, .null, .null, .null, .null, .int 0, .int 0]))]
set_option maxHeartbeats 4000000 in
set_option maxRecDepth 100000 in
theorem c_X3_init (l : Launch) (dC : Nat → ClassId) (dI : Nat → Nat → Nat) (cI cJ : ClassId) (h0 : Nat) (sz : Nat) : Met l yX3_init wsX3_init ({ frames := 1, cells := 9, slots := 136, locals := 60 }) (va_Pc [.ref h0] (mPre dC dI cI cJ sz (w0_c_X3_init cI h0))) (va_Qv (fun _ : Unit => True) (fun (u : Unit) (t : State) => ∃ (q0 q1 q2 q3 q4 q5 q6 q7 q8 : Nat), va_P (dC, dI) vwCl [(h0, .inr (3, [.ref q0, .ref q1, .ref q2, .ref q3, .ref q4, .ref q5, .ref q6, .ref q7, .ref q8, .int 0, .int 0]))] t.heap ∧ va_D (va_A (w0_c_X3_init cI h0) sz) [(h0, .inr (3, [.ref q0, .ref q1, .ref q2, .ref q3, .ref q4, .ref q5, .ref q6, .ref q7, .ref q8, .int 0, .int 0]))]) (va_A (w0_c_X3_init cI h0) sz)) 9 136 (va_A (w0_c_X3_init cI h0) sz) := by
  refine Met.ofW (cc := cX3_init) (maxL := 1) (ret := none) (by decide) rfl ?_
  intro p e s m args below meth c s₁ B hml hv
  obtain ⟨rfl, hsz, hP, hK, hD0, hN⟩ := hv
  have hx := B.exec
  have hb := B.bytes
  have hr := B.returns
  have hts := atoms_spec (ws := wsX3_init) B.pre
  have hown : s.vm.findClass RX3 = some m.cls := findClass_of_methodNamed B.named
  have hlocks := B.notSynchronized
  have hin : meth.name = "<init>" := (name_of_methodNamed B.named B.method).1
  have h_in_X3 : ∀ w ∈ wsX30, w ∈ wsX3_init := fun w h => List.mem_cons_of_mem _ (List.mem_append_right _ h)
  subst hsz
  have hD := hD0.self (sz := s.heap.size)
  generalize hAe : va_A (w0_c_X3_init cI h0) s.heap.size = A at hD ⊢
  have hA : ∀ q : Nat, s.heap.size ≤ q → A q := fun q h => by rw [← hAe]; exact Or.inr h
  have hS : va_S A s.heap s.heap [] := va_S.rf
  have hP : va_P (dC, dI) vwCl [(h0, .inr (3, [.null, .null, .null, .null, .null, .null, .null, .null, .null, .int 0, .int 0]))] s.heap := hP
  have hD : va_D A [(h0, .inr (3, [.null, .null, .null, .null, .null, .null, .null, .null, .null, .int 0, .int 0]))] := hD
  have hl := lv_entry ([.ref h0]) (n := 1) (Nat.le_of_ble_eq_true rfl)
  rw [lg_entry_eq]
  generalize (lg_sl ([.ref h0]) ++ List.replicate (1 - (lg_sl ([.ref h0])).length) Slot.unset).toArray = ls at hl ⊢
  have hl : lv_has ls 1 [(0, .ref h0)] := hl
  refine lv_aload_n hx hb dX3_init_0 rfl (lv_at hl 0 rfl) ?_
  refine W.objInit hx hb hown (hts (.methodLink RX3 3 objectInit) (by decide +kernel)) (hts (.instanceMethod objectInit) (by decide +kernel)) (hts (.code objectInit ⟨#[0xb1]⟩ 1 none) (by decide +kernel)) rfl (by rw [hml]; exact hl.1) rfl dX3_init_1 (Nat.le_of_ble_eq_true rfl) (Nat.le_of_ble_eq_true rfl) ?_
  refine W.eq (g2 := F0 m 4 ls []) rfl ?_
  refine lv_aload_n hx hb dX3_init_4 rfl (lv_at hl 0 rfl) ?_
  refine lv_iconst (v := 4) hx hb dX3_init_5 (by decide) ?_
  refine k_newIx (N' := 4) (k2 := 1) (n2 := 4) hx hb (hts (.arrayClass .int) (by decide +kernel)) hK hP hD hS hA (by decide) (by decide) (Nat.le_of_ble_eq_true rfl) (Nat.le_of_ble_eq_true rfl) (Nat.le_of_ble_eq_true rfl) rfl rfl dX3_init_6 (fun q_1 H hP hS => ?_)
  refine va_putF (D := (dC, dI)) (ci := 3) (v := .ref q_1) (ty := (.array .int)) (C := RX3) (T := TX3) (N := 11) hx hb hts h_in_X3 tyX3 tyX3_ok nmX3 hown hK hP hD hS 0 rfl rfl 0 (by decide) (hts (.fieldLink RX3 9 "MatchTrees$Kinds" "kindName" "[I") (by decide +kernel)) (fun _ h9 => h9) rfl hin rfl (by decide +kernel) rfl rfl (Nat.le_of_ble_eq_true rfl) dX3_init_8 (fun H locs hP hD hS => ?_)
  have hP : va_P (dC, dI) vwCl [(h0, .inr (3, [.ref q_1, .null, .null, .null, .null, .null, .null, .null, .null, .int 0, .int 0]))] H := hP
  have hD : va_D A [(h0, .inr (3, [.ref q_1, .null, .null, .null, .null, .null, .null, .null, .null, .int 0, .int 0]))] := hD
  refine lv_aload_n hx hb dX3_init_11 rfl (lv_at hl 0 rfl) ?_
  refine lv_iconst (v := 4) hx hb dX3_init_12 (by decide) ?_
  refine k_newIx (N' := 4) (k2 := 2) (n2 := 8) hx hb (hts (.arrayClass .int) (by decide +kernel)) hK hP hD hS hA (by decide) (by decide) (Nat.le_of_ble_eq_true rfl) (Nat.le_of_ble_eq_true rfl) (Nat.le_of_ble_eq_true rfl) rfl rfl dX3_init_13 (fun q_2 H hP hS => ?_)
  refine va_putF (D := (dC, dI)) (ci := 3) (v := .ref q_2) (ty := (.array .int)) (C := RX3) (T := TX3) (N := 11) hx hb hts h_in_X3 tyX3 tyX3_ok nmX3 hown hK hP hD hS 0 rfl rfl 1 (by decide) (hts (.fieldLink RX3 15 "MatchTrees$Kinds" "firstCon" "[I") (by decide +kernel)) (fun _ h9 => h9) rfl hin rfl (by decide +kernel) rfl rfl (Nat.le_of_ble_eq_true rfl) dX3_init_15 (fun H locs hP hD hS => ?_)
  have hP : va_P (dC, dI) vwCl [(h0, .inr (3, [.ref q_1, .ref q_2, .null, .null, .null, .null, .null, .null, .null, .int 0, .int 0]))] H := hP
  have hD : va_D A [(h0, .inr (3, [.ref q_1, .ref q_2, .null, .null, .null, .null, .null, .null, .null, .int 0, .int 0]))] := hD
  refine lv_aload_n hx hb dX3_init_18 rfl (lv_at hl 0 rfl) ?_
  refine lv_iconst (v := 4) hx hb dX3_init_19 (by decide) ?_
  refine k_newIx (N' := 4) (k2 := 3) (n2 := 12) hx hb (hts (.arrayClass .int) (by decide +kernel)) hK hP hD hS hA (by decide) (by decide) (Nat.le_of_ble_eq_true rfl) (Nat.le_of_ble_eq_true rfl) (Nat.le_of_ble_eq_true rfl) rfl rfl dX3_init_20 (fun q_3 H hP hS => ?_)
  refine va_putF (D := (dC, dI)) (ci := 3) (v := .ref q_3) (ty := (.array .int)) (C := RX3) (T := TX3) (N := 11) hx hb hts h_in_X3 tyX3 tyX3_ok nmX3 hown hK hP hD hS 0 rfl rfl 2 (by decide) (hts (.fieldLink RX3 18 "MatchTrees$Kinds" "conCount" "[I") (by decide +kernel)) (fun _ h9 => h9) rfl hin rfl (by decide +kernel) rfl rfl (Nat.le_of_ble_eq_true rfl) dX3_init_22 (fun H locs hP hD hS => ?_)
  have hP : va_P (dC, dI) vwCl [(h0, .inr (3, [.ref q_1, .ref q_2, .ref q_3, .null, .null, .null, .null, .null, .null, .int 0, .int 0]))] H := hP
  have hD : va_D A [(h0, .inr (3, [.ref q_1, .ref q_2, .ref q_3, .null, .null, .null, .null, .null, .null, .int 0, .int 0]))] := hD
  refine lv_aload_n hx hb dX3_init_25 rfl (lv_at hl 0 rfl) ?_
  refine lv_iconst (v := 4) hx hb dX3_init_26 (by decide) ?_
  refine k_newIx (N' := 4) (k2 := 4) (n2 := 16) hx hb (hts (.arrayClass .int) (by decide +kernel)) hK hP hD hS hA (by decide) (by decide) (Nat.le_of_ble_eq_true rfl) (Nat.le_of_ble_eq_true rfl) (Nat.le_of_ble_eq_true rfl) rfl rfl dX3_init_27 (fun q_4 H hP hS => ?_)
  refine va_putF (D := (dC, dI)) (ci := 3) (v := .ref q_4) (ty := (.array .int)) (C := RX3) (T := TX3) (N := 11) hx hb hts h_in_X3 tyX3 tyX3_ok nmX3 hown hK hP hD hS 0 rfl rfl 3 (by decide) (hts (.fieldLink RX3 21 "MatchTrees$Kinds" "size" "[I") (by decide +kernel)) (fun _ h9 => h9) rfl hin rfl (by decide +kernel) rfl rfl (Nat.le_of_ble_eq_true rfl) dX3_init_29 (fun H locs hP hD hS => ?_)
  have hP : va_P (dC, dI) vwCl [(h0, .inr (3, [.ref q_1, .ref q_2, .ref q_3, .ref q_4, .null, .null, .null, .null, .null, .int 0, .int 0]))] H := hP
  have hD : va_D A [(h0, .inr (3, [.ref q_1, .ref q_2, .ref q_3, .ref q_4, .null, .null, .null, .null, .null, .int 0, .int 0]))] := hD
  refine lv_aload_n hx hb dX3_init_32 rfl (lv_at hl 0 rfl) ?_
  refine lv_bipush (v := 24) hx hb dX3_init_33 (by decide) ?_
  refine k_newIx (N' := 24) (k2 := 5) (n2 := 40) hx hb (hts (.arrayClass .int) (by decide +kernel)) hK hP hD hS hA (by decide) (by decide) (Nat.le_of_ble_eq_true rfl) (Nat.le_of_ble_eq_true rfl) (Nat.le_of_ble_eq_true rfl) rfl rfl dX3_init_35 (fun q_5 H hP hS => ?_)
  refine va_putF (D := (dC, dI)) (ci := 3) (v := .ref q_5) (ty := (.array .int)) (C := RX3) (T := TX3) (N := 11) hx hb hts h_in_X3 tyX3 tyX3_ok nmX3 hown hK hP hD hS 0 rfl rfl 4 (by decide) (hts (.fieldLink RX3 24 "MatchTrees$Kinds" "conName" "[I") (by decide +kernel)) (fun _ h9 => h9) rfl hin rfl (by decide +kernel) rfl rfl (Nat.le_of_ble_eq_true rfl) dX3_init_37 (fun H locs hP hD hS => ?_)
  have hP : va_P (dC, dI) vwCl [(h0, .inr (3, [.ref q_1, .ref q_2, .ref q_3, .ref q_4, .ref q_5, .null, .null, .null, .null, .int 0, .int 0]))] H := hP
  have hD : va_D A [(h0, .inr (3, [.ref q_1, .ref q_2, .ref q_3, .ref q_4, .ref q_5, .null, .null, .null, .null, .int 0, .int 0]))] := hD
  refine lv_aload_n hx hb dX3_init_40 rfl (lv_at hl 0 rfl) ?_
  refine lv_bipush (v := 24) hx hb dX3_init_41 (by decide) ?_
  refine k_newIx (N' := 24) (k2 := 6) (n2 := 64) hx hb (hts (.arrayClass .int) (by decide +kernel)) hK hP hD hS hA (by decide) (by decide) (Nat.le_of_ble_eq_true rfl) (Nat.le_of_ble_eq_true rfl) (Nat.le_of_ble_eq_true rfl) rfl rfl dX3_init_43 (fun q_6 H hP hS => ?_)
  refine va_putF (D := (dC, dI)) (ci := 3) (v := .ref q_6) (ty := (.array .int)) (C := RX3) (T := TX3) (N := 11) hx hb hts h_in_X3 tyX3 tyX3_ok nmX3 hown hK hP hD hS 0 rfl rfl 5 (by decide) (hts (.fieldLink RX3 27 "MatchTrees$Kinds" "base" "[I") (by decide +kernel)) (fun _ h9 => h9) rfl hin rfl (by decide +kernel) rfl rfl (Nat.le_of_ble_eq_true rfl) dX3_init_45 (fun H locs hP hD hS => ?_)
  have hP : va_P (dC, dI) vwCl [(h0, .inr (3, [.ref q_1, .ref q_2, .ref q_3, .ref q_4, .ref q_5, .ref q_6, .null, .null, .null, .int 0, .int 0]))] H := hP
  have hD : va_D A [(h0, .inr (3, [.ref q_1, .ref q_2, .ref q_3, .ref q_4, .ref q_5, .ref q_6, .null, .null, .null, .int 0, .int 0]))] := hD
  refine lv_aload_n hx hb dX3_init_48 rfl (lv_at hl 0 rfl) ?_
  refine lv_bipush (v := 24) hx hb dX3_init_49 (by decide) ?_
  refine k_newIx (N' := 24) (k2 := 7) (n2 := 88) hx hb (hts (.arrayClass .int) (by decide +kernel)) hK hP hD hS hA (by decide) (by decide) (Nat.le_of_ble_eq_true rfl) (Nat.le_of_ble_eq_true rfl) (Nat.le_of_ble_eq_true rfl) rfl rfl dX3_init_51 (fun q_7 H hP hS => ?_)
  refine va_putF (D := (dC, dI)) (ci := 3) (v := .ref q_7) (ty := (.array .int)) (C := RX3) (T := TX3) (N := 11) hx hb hts h_in_X3 tyX3 tyX3_ok nmX3 hown hK hP hD hS 0 rfl rfl 6 (by decide) (hts (.fieldLink RX3 30 "MatchTrees$Kinds" "fields" "[I") (by decide +kernel)) (fun _ h9 => h9) rfl hin rfl (by decide +kernel) rfl rfl (Nat.le_of_ble_eq_true rfl) dX3_init_53 (fun H locs hP hD hS => ?_)
  have hP : va_P (dC, dI) vwCl [(h0, .inr (3, [.ref q_1, .ref q_2, .ref q_3, .ref q_4, .ref q_5, .ref q_6, .ref q_7, .null, .null, .int 0, .int 0]))] H := hP
  have hD : va_D A [(h0, .inr (3, [.ref q_1, .ref q_2, .ref q_3, .ref q_4, .ref q_5, .ref q_6, .ref q_7, .null, .null, .int 0, .int 0]))] := hD
  refine lv_aload_n hx hb dX3_init_56 rfl (lv_at hl 0 rfl) ?_
  refine lv_bipush (v := 24) hx hb dX3_init_57 (by decide) ?_
  refine k_newIx (N' := 24) (k2 := 8) (n2 := 112) hx hb (hts (.arrayClass .int) (by decide +kernel)) hK hP hD hS hA (by decide) (by decide) (Nat.le_of_ble_eq_true rfl) (Nat.le_of_ble_eq_true rfl) (Nat.le_of_ble_eq_true rfl) rfl rfl dX3_init_59 (fun q_8 H hP hS => ?_)
  refine va_putF (D := (dC, dI)) (ci := 3) (v := .ref q_8) (ty := (.array .int)) (C := RX3) (T := TX3) (N := 11) hx hb hts h_in_X3 tyX3 tyX3_ok nmX3 hown hK hP hD hS 0 rfl rfl 7 (by decide) (hts (.fieldLink RX3 33 "MatchTrees$Kinds" "fieldA" "[I") (by decide +kernel)) (fun _ h9 => h9) rfl hin rfl (by decide +kernel) rfl rfl (Nat.le_of_ble_eq_true rfl) dX3_init_61 (fun H locs hP hD hS => ?_)
  have hP : va_P (dC, dI) vwCl [(h0, .inr (3, [.ref q_1, .ref q_2, .ref q_3, .ref q_4, .ref q_5, .ref q_6, .ref q_7, .ref q_8, .null, .int 0, .int 0]))] H := hP
  have hD : va_D A [(h0, .inr (3, [.ref q_1, .ref q_2, .ref q_3, .ref q_4, .ref q_5, .ref q_6, .ref q_7, .ref q_8, .null, .int 0, .int 0]))] := hD
  refine lv_aload_n hx hb dX3_init_64 rfl (lv_at hl 0 rfl) ?_
  refine lv_bipush (v := 24) hx hb dX3_init_65 (by decide) ?_
  refine k_newIx (N' := 24) (k2 := 9) (n2 := 136) hx hb (hts (.arrayClass .int) (by decide +kernel)) hK hP hD hS hA (by decide) (by decide) (Nat.le_of_ble_eq_true rfl) (Nat.le_of_ble_eq_true rfl) (Nat.le_of_ble_eq_true rfl) rfl rfl dX3_init_67 (fun q_9 H hP hS => ?_)
  refine va_putF (D := (dC, dI)) (ci := 3) (v := .ref q_9) (ty := (.array .int)) (C := RX3) (T := TX3) (N := 11) hx hb hts h_in_X3 tyX3 tyX3_ok nmX3 hown hK hP hD hS 0 rfl rfl 8 (by decide) (hts (.fieldLink RX3 36 "MatchTrees$Kinds" "fieldB" "[I") (by decide +kernel)) (fun _ h9 => h9) rfl hin rfl (by decide +kernel) rfl rfl (Nat.le_of_ble_eq_true rfl) dX3_init_69 (fun H locs hP hD hS => ?_)
  have hP : va_P (dC, dI) vwCl [(h0, .inr (3, [.ref q_1, .ref q_2, .ref q_3, .ref q_4, .ref q_5, .ref q_6, .ref q_7, .ref q_8, .ref q_9, .int 0, .int 0]))] H := hP
  have hD : va_D A [(h0, .inr (3, [.ref q_1, .ref q_2, .ref q_3, .ref q_4, .ref q_5, .ref q_6, .ref q_7, .ref q_8, .ref q_9, .int 0, .int 0]))] := hD
  have hP9 := hP.sub (ws' := [(h0, .inr (3, [.ref q_1, .ref q_2, .ref q_3, .ref q_4, .ref q_5, .ref q_6, .ref q_7, .ref q_8, .ref q_9, .int 0, .int 0]))]) [0] rfl
  have hD9 := hD.sub (ws' := [(h0, .inr (3, [.ref q_1, .ref q_2, .ref q_3, .ref q_4, .ref q_5, .ref q_6, .ref q_7, .ref q_8, .ref q_9, .int 0, .int 0]))]) [0] (by decide) rfl
  exact W.vret hx hb hr (fun t ht hW => ⟨⟨(), rfl, trivial, q_1, q_2, q_3, q_4, q_5, q_6, q_7, q_8, q_9, by rw [ht]; exact hP9, hD9⟩, hS.F ht⟩) hS.2.2 dX3_init_72
abbrev w0_c_X8_init (cI : ClassId) (h0 : Nat) : va_W := [(h0, .inr (8, [.null, .null, .int 0, .null, .int 0, .null]))]
set_option maxHeartbeats 4000000 in
set_option maxRecDepth 100000 in
theorem c_X8_init (l : Launch) (dC : Nat → ClassId) (dI : Nat → Nat → Nat) (cI cJ : ClassId) (h0 : Nat) (sz : Nat) : Met l yX8_init wsX8_init ({ frames := 1, cells := 4, slots := 301, locals := 60 }) (va_Pc [.ref h0] (mPre dC dI cI cJ sz (w0_c_X8_init cI h0))) (va_Qv (fun _ : Unit => True) (fun (u : Unit) (t : State) => ∃ (q0 q1 q2 q3 : Nat), va_P (dC, dI) vwCl [(h0, .inr (8, [.ref q0, .ref q1, .int 0, .ref q2, .int 0, .ref q3]))] t.heap ∧ va_D (va_A (w0_c_X8_init cI h0) sz) [(h0, .inr (8, [.ref q0, .ref q1, .int 0, .ref q2, .int 0, .ref q3]))]) (va_A (w0_c_X8_init cI h0) sz)) 4 301 (va_A (w0_c_X8_init cI h0) sz) := by
  refine Met.ofW (cc := cX8_init) (maxL := 1) (ret := none) (by decide) rfl ?_
  intro p e s m args below meth c s₁ B hml hv
  obtain ⟨rfl, hsz, hP, hK, hD0, hN⟩ := hv
  have hx := B.exec
  have hb := B.bytes
  have hr := B.returns
  have hts := atoms_spec (ws := wsX8_init) B.pre
  have hown : s.vm.findClass RX8 = some m.cls := findClass_of_methodNamed B.named
  have hlocks := B.notSynchronized
  have hin : meth.name = "<init>" := (name_of_methodNamed B.named B.method).1
  have h_in_X8 : ∀ w ∈ wsX80, w ∈ wsX8_init := fun w h => List.mem_cons_of_mem _ (List.mem_append_right _ h)
  subst hsz
  have hD := hD0.self (sz := s.heap.size)
  generalize hAe : va_A (w0_c_X8_init cI h0) s.heap.size = A at hD ⊢
  have hA : ∀ q : Nat, s.heap.size ≤ q → A q := fun q h => by rw [← hAe]; exact Or.inr h
  have hS : va_S A s.heap s.heap [] := va_S.rf
  have hP : va_P (dC, dI) vwCl [(h0, .inr (8, [.null, .null, .int 0, .null, .int 0, .null]))] s.heap := hP
  have hD : va_D A [(h0, .inr (8, [.null, .null, .int 0, .null, .int 0, .null]))] := hD
  have hl := lv_entry ([.ref h0]) (n := 1) (Nat.le_of_ble_eq_true rfl)
  rw [lg_entry_eq]
  generalize (lg_sl ([.ref h0]) ++ List.replicate (1 - (lg_sl ([.ref h0])).length) Slot.unset).toArray = ls at hl ⊢
  have hl : lv_has ls 1 [(0, .ref h0)] := hl
  refine lv_aload_n hx hb dX8_init_0 rfl (lv_at hl 0 rfl) ?_
  refine W.objInit hx hb hown (hts (.methodLink RX8 3 objectInit) (by decide +kernel)) (hts (.instanceMethod objectInit) (by decide +kernel)) (hts (.code objectInit ⟨#[0xb1]⟩ 1 none) (by decide +kernel)) rfl (by rw [hml]; exact hl.1) rfl dX8_init_1 (Nat.le_of_ble_eq_true rfl) (Nat.le_of_ble_eq_true rfl) ?_
  refine W.eq (g2 := F0 m 4 ls []) rfl ?_
  refine lv_aload_n hx hb dX8_init_4 rfl (lv_at hl 0 rfl) ?_
  refine lv_bipush (v := 16) hx hb dX8_init_5 (by decide) ?_
  refine k_newIx (N' := 16) (k2 := 1) (n2 := 16) hx hb (hts (.arrayClass .int) (by decide +kernel)) hK hP hD hS hA (by decide) (by decide) (Nat.le_of_ble_eq_true rfl) (Nat.le_of_ble_eq_true rfl) (Nat.le_of_ble_eq_true rfl) rfl rfl dX8_init_7 (fun q_1 H hP hS => ?_)
  refine va_putF (D := (dC, dI)) (ci := 8) (v := .ref q_1) (ty := (.array .int)) (C := RX8) (T := TX8) (N := 6) hx hb hts h_in_X8 tyX8 tyX8_ok nmX8 hown hK hP hD hS 0 rfl rfl 0 (by decide) (hts (.fieldLink RX8 9 "MatchTrees$Seen" "row" "[I") (by decide +kernel)) (fun _ h9 => h9) rfl hin rfl (by decide +kernel) rfl rfl (Nat.le_of_ble_eq_true rfl) dX8_init_9 (fun H locs hP hD hS => ?_)
  have hP : va_P (dC, dI) vwCl [(h0, .inr (8, [.ref q_1, .null, .int 0, .null, .int 0, .null]))] H := hP
  have hD : va_D A [(h0, .inr (8, [.ref q_1, .null, .int 0, .null, .int 0, .null]))] := hD
  refine lv_aload_n hx hb dX8_init_12 rfl (lv_at hl 0 rfl) ?_
  refine lv_bipush (v := 16) hx hb dX8_init_13 (by decide) ?_
  refine k_newIx (N' := 16) (k2 := 2) (n2 := 32) hx hb (hts (.arrayClass .int) (by decide +kernel)) hK hP hD hS hA (by decide) (by decide) (Nat.le_of_ble_eq_true rfl) (Nat.le_of_ble_eq_true rfl) (Nat.le_of_ble_eq_true rfl) rfl rfl dX8_init_15 (fun q_2 H hP hS => ?_)
  refine va_putF (D := (dC, dI)) (ci := 8) (v := .ref q_2) (ty := (.array .int)) (C := RX8) (T := TX8) (N := 6) hx hb hts h_in_X8 tyX8 tyX8_ok nmX8 hown hK hP hD hS 0 rfl rfl 1 (by decide) (hts (.fieldLink RX8 15 "MatchTrees$Seen" "arm" "[I") (by decide +kernel)) (fun _ h9 => h9) rfl hin rfl (by decide +kernel) rfl rfl (Nat.le_of_ble_eq_true rfl) dX8_init_17 (fun H locs hP hD hS => ?_)
  have hP : va_P (dC, dI) vwCl [(h0, .inr (8, [.ref q_1, .ref q_2, .int 0, .null, .int 0, .null]))] H := hP
  have hD : va_D A [(h0, .inr (8, [.ref q_1, .ref q_2, .int 0, .null, .int 0, .null]))] := hD
  refine lv_aload_n hx hb dX8_init_20 rfl (lv_at hl 0 rfl) ?_
  refine lv_sipush (v := 256) hx hb dX8_init_21 (by decide) ?_
  refine k_newIx (N' := 256) (k2 := 3) (n2 := 288) hx hb (hts (.arrayClass .int) (by decide +kernel)) hK hP hD hS hA (by decide) (by decide) (Nat.le_of_ble_eq_true rfl) (Nat.le_of_ble_eq_true rfl) (Nat.le_of_ble_eq_true rfl) rfl rfl dX8_init_24 (fun q_3 H hP hS => ?_)
  refine va_putF (D := (dC, dI)) (ci := 8) (v := .ref q_3) (ty := (.array .int)) (C := RX8) (T := TX8) (N := 6) hx hb hts h_in_X8 tyX8 tyX8_ok nmX8 hown hK hP hD hS 0 rfl rfl 3 (by decide) (hts (.fieldLink RX8 18 "MatchTrees$Seen" "set" "[I") (by decide +kernel)) (fun _ h9 => h9) rfl hin rfl (by decide +kernel) rfl rfl (Nat.le_of_ble_eq_true rfl) dX8_init_26 (fun H locs hP hD hS => ?_)
  have hP : va_P (dC, dI) vwCl [(h0, .inr (8, [.ref q_1, .ref q_2, .int 0, .ref q_3, .int 0, .null]))] H := hP
  have hD : va_D A [(h0, .inr (8, [.ref q_1, .ref q_2, .int 0, .ref q_3, .int 0, .null]))] := hD
  refine lv_aload_n hx hb dX8_init_29 rfl (lv_at hl 0 rfl) ?_
  refine lv_bipush (v := 13) hx hb dX8_init_30 (by decide) ?_
  refine k_newIx (N' := 13) (k2 := 4) (n2 := 301) hx hb (hts (.arrayClass .int) (by decide +kernel)) hK hP hD hS hA (by decide) (by decide) (Nat.le_of_ble_eq_true rfl) (Nat.le_of_ble_eq_true rfl) (Nat.le_of_ble_eq_true rfl) rfl rfl dX8_init_32 (fun q_4 H hP hS => ?_)
  refine va_putF (D := (dC, dI)) (ci := 8) (v := .ref q_4) (ty := (.array .int)) (C := RX8) (T := TX8) (N := 6) hx hb hts h_in_X8 tyX8 tyX8_ok nmX8 hown hK hP hD hS 0 rfl rfl 5 (by decide) (hts (.fieldLink RX8 21 "MatchTrees$Seen" "tally" "[I") (by decide +kernel)) (fun _ h9 => h9) rfl hin rfl (by decide +kernel) rfl rfl (Nat.le_of_ble_eq_true rfl) dX8_init_34 (fun H locs hP hD hS => ?_)
  have hP : va_P (dC, dI) vwCl [(h0, .inr (8, [.ref q_1, .ref q_2, .int 0, .ref q_3, .int 0, .ref q_4]))] H := hP
  have hD : va_D A [(h0, .inr (8, [.ref q_1, .ref q_2, .int 0, .ref q_3, .int 0, .ref q_4]))] := hD
  have hP9 := hP.sub (ws' := [(h0, .inr (8, [.ref q_1, .ref q_2, .int 0, .ref q_3, .int 0, .ref q_4]))]) [0] rfl
  have hD9 := hD.sub (ws' := [(h0, .inr (8, [.ref q_1, .ref q_2, .int 0, .ref q_3, .int 0, .ref q_4]))]) [0] (by decide) rfl
  exact W.vret hx hb hr (fun t ht hW => ⟨⟨(), rfl, trivial, q_1, q_2, q_3, q_4, by rw [ht]; exact hP9, hD9⟩, hS.F ht⟩) hS.2.2 dX8_init_37
abbrev w0_c_X0_init (cI : ClassId) (h0 : Nat) : va_W := [(h0, .inr (0, [.null, .null, .null, .null, .null, .int 0, .int 0, .int 0]))]
set_option maxHeartbeats 4000000 in
set_option maxRecDepth 100000 in
theorem c_X0_init (l : Launch) (dC : Nat → ClassId) (dI : Nat → Nat → Nat) (cI cJ : ClassId) (h0 : Nat) (sz : Nat) : Met l yX0_init wsX0_init ({ frames := 2, cells := 45, slots := 3432, locals := 80 }) (va_Pc [.ref h0] (mPre dC dI cI cJ sz (w0_c_X0_init cI h0))) (va_Qv (fun _ : Unit => True) (fun (u : Unit) (t : State) => ∃ (q0 q1 q2 q3 q4 : Nat), va_P (dC, dI) vwCl [(h0, .inr (0, [.ref q0, .ref q1, .ref q2, .ref q3, .ref q4, .int 0, .int 0, .int 0]))] t.heap ∧ va_D (va_A (w0_c_X0_init cI h0) sz) [(h0, .inr (0, [.ref q0, .ref q1, .ref q2, .ref q3, .ref q4, .int 0, .int 0, .int 0]))]) (va_A (w0_c_X0_init cI h0) sz)) 45 3432 (va_A (w0_c_X0_init cI h0) sz) := by
  refine Met.ofW (cc := cX0_init) (maxL := 2) (ret := none) (by decide) rfl ?_
  intro p e s m args below meth c s₁ B hml hv
  obtain ⟨rfl, hsz, hP, hK, hD0, hN⟩ := hv
  have hx := B.exec
  have hb := B.bytes
  have hr := B.returns
  have hts := atoms_spec (ws := wsX0_init) B.pre
  have hown : s.vm.findClass RX0 = some m.cls := findClass_of_methodNamed B.named
  have hlocks := B.notSynchronized
  have hin : meth.name = "<init>" := (name_of_methodNamed B.named B.method).1
  have h_in_X0 : ∀ w ∈ wsX00, w ∈ wsX0_init := fun w h => List.mem_cons_of_mem _ (List.mem_append_left _ (List.mem_append_right _ h))
  have h_in_X5 : ∀ w ∈ wsX50, w ∈ wsX0_init := fun w h => List.mem_cons_of_mem _ (List.mem_append_right _ h)
  subst hsz
  have hD := hD0.self (sz := s.heap.size)
  generalize hAe : va_A (w0_c_X0_init cI h0) s.heap.size = A at hD ⊢
  have hA : ∀ q : Nat, s.heap.size ≤ q → A q := fun q h => by rw [← hAe]; exact Or.inr h
  have hS : va_S A s.heap s.heap [] := va_S.rf
  have hP : va_P (dC, dI) vwCl [(h0, .inr (0, [.null, .null, .null, .null, .null, .int 0, .int 0, .int 0]))] s.heap := hP
  have hD : va_D A [(h0, .inr (0, [.null, .null, .null, .null, .null, .int 0, .int 0, .int 0]))] := hD
  have hl := lv_entry ([.ref h0]) (n := 2) (Nat.le_of_ble_eq_true rfl)
  rw [lg_entry_eq]
  generalize (lg_sl ([.ref h0]) ++ List.replicate (2 - (lg_sl ([.ref h0])).length) Slot.unset).toArray = ls at hl ⊢
  have hl : lv_has ls 2 [(0, .ref h0)] := hl
  refine lv_aload_n hx hb dX0_init_0 rfl (lv_at hl 0 rfl) ?_
  refine W.objInit hx hb hown (hts (.methodLink RX0 3 objectInit) (by decide +kernel)) (hts (.instanceMethod objectInit) (by decide +kernel)) (hts (.code objectInit ⟨#[0xb1]⟩ 1 none) (by decide +kernel)) rfl (by rw [hml]; exact hl.1) rfl dX0_init_1 (Nat.le_of_ble_eq_true rfl) (Nat.le_of_ble_eq_true rfl) ?_
  refine W.eq (g2 := F0 m 4 ls []) rfl ?_
  refine lv_aload_n hx hb dX0_init_4 rfl (lv_at hl 0 rfl) ?_
  refine lv_sipush (v := 1024) hx hb dX0_init_5 (by decide) ?_
  refine k_newIx (N' := 1024) (k2 := 1) (n2 := 1024) hx hb (hts (.arrayClass .int) (by decide +kernel)) hK hP hD hS hA (by decide) (by decide) (Nat.le_of_ble_eq_true rfl) (Nat.le_of_ble_eq_true rfl) (Nat.le_of_ble_eq_true rfl) rfl rfl dX0_init_8 (fun q_1 H hP hS => ?_)
  refine va_putF (D := (dC, dI)) (ci := 0) (v := .ref q_1) (ty := (.array .int)) (C := RX0) (T := TX0) (N := 8) hx hb hts h_in_X0 tyX0 tyX0_ok nmX0 hown hK hP hD hS 0 rfl rfl 0 (by decide) (hts (.fieldLink RX0 9 "MatchTrees$Acts" "row" "[I") (by decide +kernel)) (fun _ h9 => h9) rfl hin rfl (by decide +kernel) rfl rfl (Nat.le_of_ble_eq_true rfl) dX0_init_10 (fun H locs hP hD hS => ?_)
  have hP : va_P (dC, dI) vwCl [(h0, .inr (0, [.ref q_1, .null, .null, .null, .null, .int 0, .int 0, .int 0]))] H := hP
  have hD : va_D A [(h0, .inr (0, [.ref q_1, .null, .null, .null, .null, .int 0, .int 0, .int 0]))] := hD
  refine lv_aload_n hx hb dX0_init_13 rfl (lv_at hl 0 rfl) ?_
  refine lv_sipush (v := 1024) hx hb dX0_init_14 (by decide) ?_
  refine k_newIx (N' := 1024) (k2 := 2) (n2 := 2048) hx hb (hts (.arrayClass .int) (by decide +kernel)) hK hP hD hS hA (by decide) (by decide) (Nat.le_of_ble_eq_true rfl) (Nat.le_of_ble_eq_true rfl) (Nat.le_of_ble_eq_true rfl) rfl rfl dX0_init_17 (fun q_2 H hP hS => ?_)
  refine va_putF (D := (dC, dI)) (ci := 0) (v := .ref q_2) (ty := (.array .int)) (C := RX0) (T := TX0) (N := 8) hx hb hts h_in_X0 tyX0 tyX0_ok nmX0 hown hK hP hD hS 0 rfl rfl 1 (by decide) (hts (.fieldLink RX0 15 "MatchTrees$Acts" "arm" "[I") (by decide +kernel)) (fun _ h9 => h9) rfl hin rfl (by decide +kernel) rfl rfl (Nat.le_of_ble_eq_true rfl) dX0_init_19 (fun H locs hP hD hS => ?_)
  have hP : va_P (dC, dI) vwCl [(h0, .inr (0, [.ref q_1, .ref q_2, .null, .null, .null, .int 0, .int 0, .int 0]))] H := hP
  have hD : va_D A [(h0, .inr (0, [.ref q_1, .ref q_2, .null, .null, .null, .int 0, .int 0, .int 0]))] := hD
  refine lv_aload_n hx hb dX0_init_22 rfl (lv_at hl 0 rfl) ?_
  refine lv_sipush (v := 1024) hx hb dX0_init_23 (by decide) ?_
  refine k_newIx (N' := 1024) (k2 := 3) (n2 := 3072) hx hb (hts (.arrayClass .int) (by decide +kernel)) hK hP hD hS hA (by decide) (by decide) (Nat.le_of_ble_eq_true rfl) (Nat.le_of_ble_eq_true rfl) (Nat.le_of_ble_eq_true rfl) rfl rfl dX0_init_26 (fun q_3 H hP hS => ?_)
  refine va_putF (D := (dC, dI)) (ci := 0) (v := .ref q_3) (ty := (.array .int)) (C := RX0) (T := TX0) (N := 8) hx hb hts h_in_X0 tyX0 tyX0_ok nmX0 hown hK hP hD hS 0 rfl rfl 2 (by decide) (hts (.fieldLink RX0 18 "MatchTrees$Acts" "asked" "[I") (by decide +kernel)) (fun _ h9 => h9) rfl hin rfl (by decide +kernel) rfl rfl (Nat.le_of_ble_eq_true rfl) dX0_init_28 (fun H locs hP hD hS => ?_)
  have hP : va_P (dC, dI) vwCl [(h0, .inr (0, [.ref q_1, .ref q_2, .ref q_3, .null, .null, .int 0, .int 0, .int 0]))] H := hP
  have hD : va_D A [(h0, .inr (0, [.ref q_1, .ref q_2, .ref q_3, .null, .null, .int 0, .int 0, .int 0]))] := hD
  refine lv_aload_n hx hb dX0_init_31 rfl (lv_at hl 0 rfl) ?_
  refine lv_bipush (v := 20) hx hb dX0_init_32 (by decide) ?_
  refine k_newQx (N' := 20) (k2 := 4) (n2 := 3092) hx hb hown (hts (.classLink RX0 21 RX5) (by decide +kernel)) hN.2.2.2.2.2.2.2.2.1 hK hP hD hS hA (by decide) (by decide) (Nat.le_of_ble_eq_true rfl) (Nat.le_of_ble_eq_true rfl) (Nat.le_of_ble_eq_true rfl) rfl rfl dX0_init_34 (fun q_4 cA_5 H hK_q_4 hP hD hS => ?_)
  have hP : va_P (dC, dI) vwCl [(h0, .inr (0, [.ref q_1, .ref q_2, .ref q_3, .null, .null, .int 0, .int 0, .int 0])), (q_4, .inl (cA_5, 20, .inr (.inr (.inr (.inr (fun _ => none))))))] H := hP
  have hD : va_D A [(h0, .inr (0, [.ref q_1, .ref q_2, .ref q_3, .null, .null, .int 0, .int 0, .int 0])), (q_4, .inl (cA_5, 20, .inr (.inr (.inr (.inr (fun _ => none))))))] := hD
  refine va_putF (D := (dC, dI)) (ci := 0) (v := .ref q_4) (ty := (.array (.object "MatchTrees$Order"))) (C := RX0) (T := TX0) (N := 8) hx hb hts h_in_X0 tyX0 tyX0_ok nmX0 hown hK hP hD hS 0 rfl rfl 3 (by decide) (hts (.fieldLink RX0 23 "MatchTrees$Acts" "orderAhead" "[LMatchTrees$Order;") (by decide +kernel)) (fun _ h9 => h9) rfl hin rfl (by decide +kernel) rfl rfl (Nat.le_of_ble_eq_true rfl) dX0_init_37 (fun H locs hP hD hS => ?_)
  have hP : va_P (dC, dI) vwCl [(h0, .inr (0, [.ref q_1, .ref q_2, .ref q_3, .ref q_4, .null, .int 0, .int 0, .int 0])), (q_4, .inl (cA_5, 20, .inr (.inr (.inr (.inr (fun _ => none))))))] H := hP
  have hD : va_D A [(h0, .inr (0, [.ref q_1, .ref q_2, .ref q_3, .ref q_4, .null, .int 0, .int 0, .int 0])), (q_4, .inl (cA_5, 20, .inr (.inr (.inr (.inr (fun _ => none))))))] := hD
  refine lv_aload_n hx hb dX0_init_40 rfl (lv_at hl 0 rfl) ?_
  refine lv_bipush (v := 20) hx hb dX0_init_41 (by decide) ?_
  refine k_newIx (N' := 20) (k2 := 5) (n2 := 3112) hx hb (hts (.arrayClass .int) (by decide +kernel)) hK hP hD hS hA (by decide) (by decide) (Nat.le_of_ble_eq_true rfl) (Nat.le_of_ble_eq_true rfl) (Nat.le_of_ble_eq_true rfl) rfl rfl dX0_init_43 (fun q_6 H hP hS => ?_)
  refine va_putF (D := (dC, dI)) (ci := 0) (v := .ref q_6) (ty := (.array .int)) (C := RX0) (T := TX0) (N := 8) hx hb hts h_in_X0 tyX0 tyX0_ok nmX0 hown hK hP hD hS 0 rfl rfl 4 (by decide) (hts (.fieldLink RX0 27 "MatchTrees$Acts" "keptAhead" "[I") (by decide +kernel)) (fun _ h9 => h9) rfl hin rfl (by decide +kernel) rfl rfl (Nat.le_of_ble_eq_true rfl) dX0_init_45 (fun H locs hP hD hS => ?_)
  have hP : va_P (dC, dI) vwCl [(h0, .inr (0, [.ref q_1, .ref q_2, .ref q_3, .ref q_4, .ref q_6, .int 0, .int 0, .int 0])), (q_4, .inl (cA_5, 20, .inr (.inr (.inr (.inr (fun _ => none))))))] H := hP
  have hD : va_D A [(h0, .inr (0, [.ref q_1, .ref q_2, .ref q_3, .ref q_4, .ref q_6, .int 0, .int 0, .int 0])), (q_4, .inl (cA_5, 20, .inr (.inr (.inr (.inr (fun _ => none))))))] := hD
  refine lv_iconst (v := 0) hx hb dX0_init_48 (by decide) ?_
  refine lv_istore_n (lv' := [(1, .int 0), (0, .ref h0)]) hx hb dX0_init_49 rfl hl (by decide) rfl (fun ls hl => ?_)
  refine lv_iload_n hx hb dX0_init_50 rfl (lv_at hl 0 rfl) ?_
  refine lv_bipush (v := 20) hx hb dX0_init_51 (by decide) ?_
  refine lv_icmp_ge (tgt := 75) hx hb dX0_init_53 (by decide) (fun c => absurd c (by decide)) (fun _ => ?_)
  refine lv_aload_n hx hb dX0_init_56 rfl (lv_at hl 1 rfl) ?_
  refine va_get (D := (dC, dI)) (ci := 0) (v := .ref q_4) (C := RX0) (T := TX0) (N := 8) hx hb hts h_in_X0 hown hK hP 0 rfl rfl 3 (by decide) (hts (.fieldLink RX0 23 "MatchTrees$Acts" "orderAhead" "[LMatchTrees$Order;") (by decide +kernel)) (fun _ h9 => h9) rfl dX0_init_57 ?_
  refine lv_iload_n hx hb dX0_init_60 rfl (lv_at hl 0 rfl) ?_
  refine va_new (ci := 5) (fs := [.null, .int 0, .int 0, .int 0]) (C := RX5) (T := TX5) (N := 4) hx hb hts h_in_X5 tyX5 tyX5_ok hown (hts (.classLink RX0 21 RX5) (by decide +kernel)) (hts (.instantiable RX5 4) (by decide +kernel)) (hts (.initialized RX5) (by decide +kernel)) hK hP hD hS hA rfl (fun j hj => by rcases (show j = 0 ∨ j = 1 ∨ j = 2 ∨ j = 3 by omega) with rfl | rfl | rfl | rfl <;> rfl) (Nat.le_of_ble_eq_true rfl) (Nat.le_of_ble_eq_true rfl) dX0_init_61 (fun q_7 H hP hD hS => ?_)
  refine W.widen (k := 6) (n := 3116) (Nat.le_of_ble_eq_true rfl) (Nat.le_of_ble_eq_true rfl) ?_
  have hP : va_P (dC, dI) vwCl [(h0, .inr (0, [.ref q_1, .ref q_2, .ref q_3, .ref q_4, .ref q_6, .int 0, .int 0, .int 0])), (q_4, .inl (cA_5, 20, .inr (.inr (.inr (.inr (fun _ => none)))))), (q_7, .inr (5, [.null, .int 0, .int 0, .int 0]))] H := hP
  have hD : va_D A [(h0, .inr (0, [.ref q_1, .ref q_2, .ref q_3, .ref q_4, .ref q_6, .int 0, .int 0, .int 0])), (q_4, .inl (cA_5, 20, .inr (.inr (.inr (.inr (fun _ => none)))))), (q_7, .inr (5, [.null, .int 0, .int 0, .int 0]))] := hD
  refine lv_dup hx hb dX0_init_64 rfl ?_
  have hPc := hP.sub (ws' := [(q_7, .inr (5, [.null, .int 0, .int 0, .int 0]))]) [2] rfl
  have hDc := hD.sub (ws' := [(q_7, .inr (5, [.null, .int 0, .int 0, .int 0]))]) [2] (by decide) rfl
  have hFc := va_free (wc := [(q_7, .inr (5, [.null, .int 0, .int 0, .int 0]))]) hD hS hA [2] rfl
  refine va_callv (va_runIN (As := []) (rest := [.ref q_7, .int 0, .ref q_4]) ⟨hx, hb, hml, hown, hts⟩ (c_X5_init l dC dI cI cJ q_7 H.size) ⟨(va_cnB 0 hts gX0_init_X5_init_n30 rfl rfl rfl hN.2.2.2.2.1 (hts (.initialized RX5) (by decide +kernel)) (by decide +kernel) ⟨Nat.le_of_ble_eq_true rfl, Nat.le_of_ble_eq_true rfl⟩), rfl, hts (.instanceMethod yX5_init) (by decide +kernel)⟩ ⟨mBlind, mGo hPc hK hDc hN⟩ rfl rfl hl.1 rfl (lv_room (Nat.le_of_ble_eq_true rfl)) dX0_init_65 ⟨Nat.le_of_ble_eq_true rfl, Nat.le_of_ble_eq_true rfl⟩) hS (fun q _ h => hFc q h) hFc (fun u t H1 locs ht hvm hw hB hz1 hk1 hS => ?_)
  obtain ⟨q_9, hP1, hD1⟩ := hB
  rw [ht] at hP1
  obtain ⟨hP, hD⟩ := va_join (wr := [(h0, .inr (0, [.ref q_1, .ref q_2, .ref q_3, .ref q_4, .ref q_6, .int 0, .int 0, .int 0])), (q_4, .inl (cA_5, 20, .inr (.inr (.inr (.inr (fun _ => none))))))]) (w1 := [(q_7, .inr (5, [.ref q_9, .int 0, .int 0, .int 0]))]) hP hD [2] [0, 1] rfl rfl (by decide) (by decide) hk1 hFc hP1 hD1
  generalize H1 = H at hP hS ⊢
  have hP : va_P (dC, dI) vwCl [(h0, .inr (0, [.ref q_1, .ref q_2, .ref q_3, .ref q_4, .ref q_6, .int 0, .int 0, .int 0])), (q_4, .inl (cA_5, 20, .inr (.inr (.inr (.inr (fun _ => none)))))), (q_7, .inr (5, [.ref q_9, .int 0, .int 0, .int 0]))] H := hP
  have hD : va_D A [(h0, .inr (0, [.ref q_1, .ref q_2, .ref q_3, .ref q_4, .ref q_6, .int 0, .int 0, .int 0])), (q_4, .inl (cA_5, 20, .inr (.inr (.inr (.inr (fun _ => none)))))), (q_7, .inr (5, [.ref q_9, .int 0, .int 0, .int 0]))] := hD
  refine W.widen (k := 7) (n := 3128) (Nat.le_of_ble_eq_true rfl) (Nat.le_of_ble_eq_true rfl) ?_
  refine va_astq (r := (RX5, TX5, 4)) hx hb hK_q_4 hP hD hS 1 2 2 5 rfl rfl rfl rfl (vpd (by decide)) dX0_init_68 (fun H locs hP hD hS => ?_)
  obtain ⟨g_10, e_g_10⟩ : ∃ y : Nat → Option Nat, y = va_up (fun _ => none) (0 : Int32).toNatClampNeg (some q_7) := ⟨_, rfl⟩
  have hP : va_P (dC, dI) vwCl [(h0, .inr (0, [.ref q_1, .ref q_2, .ref q_3, .ref q_4, .ref q_6, .int 0, .int 0, .int 0])), (q_4, .inl (cA_5, 20, .inr (.inr (.inr (.inr g_10))))), (q_7, .inr (5, [.ref q_9, .int 0, .int 0, .int 0]))] H := by rw [e_g_10]; exact hP
  have hD : va_D A [(h0, .inr (0, [.ref q_1, .ref q_2, .ref q_3, .ref q_4, .ref q_6, .int 0, .int 0, .int 0])), (q_4, .inl (cA_5, 20, .inr (.inr (.inr (.inr g_10)))))] := by rw [e_g_10]; exact hD.sub [0, 1] (by decide) rfl
  have hP := hP.sub (ws' := [(h0, .inr (0, [.ref q_1, .ref q_2, .ref q_3, .ref q_4, .ref q_6, .int 0, .int 0, .int 0])), (q_4, .inl (cA_5, 20, .inr (.inr (.inr (.inr g_10)))))]) [0, 1] rfl
  refine lv_iinc (v := 1) (lv' := [(1, .int 1), (0, .ref h0)]) hx hb dX0_init_69 hl (k := 0) rfl (by decide) (by decide) rfl (fun ls hl => ?_)
  refine lv_goto (tgt := 50) hx hb dX0_init_72 (by decide) ?_
  refine lv_iload_n hx hb dX0_init_50 rfl (lv_at hl 0 rfl) ?_
  refine lv_bipush (v := 20) hx hb dX0_init_51 (by decide) ?_
  refine lv_icmp_ge (tgt := 75) hx hb dX0_init_53 (by decide) (fun c => absurd c (by decide)) (fun _ => ?_)
  refine lv_aload_n hx hb dX0_init_56 rfl (lv_at hl 1 rfl) ?_
  refine va_get (D := (dC, dI)) (ci := 0) (v := .ref q_4) (C := RX0) (T := TX0) (N := 8) hx hb hts h_in_X0 hown hK hP 0 rfl rfl 3 (by decide) (hts (.fieldLink RX0 23 "MatchTrees$Acts" "orderAhead" "[LMatchTrees$Order;") (by decide +kernel)) (fun _ h9 => h9) rfl dX0_init_57 ?_
  refine lv_iload_n hx hb dX0_init_60 rfl (lv_at hl 0 rfl) ?_
  refine va_new (ci := 5) (fs := [.null, .int 0, .int 0, .int 0]) (C := RX5) (T := TX5) (N := 4) hx hb hts h_in_X5 tyX5 tyX5_ok hown (hts (.classLink RX0 21 RX5) (by decide +kernel)) (hts (.instantiable RX5 4) (by decide +kernel)) (hts (.initialized RX5) (by decide +kernel)) hK hP hD hS hA rfl (fun j hj => by rcases (show j = 0 ∨ j = 1 ∨ j = 2 ∨ j = 3 by omega) with rfl | rfl | rfl | rfl <;> rfl) (Nat.le_of_ble_eq_true rfl) (Nat.le_of_ble_eq_true rfl) dX0_init_61 (fun q_11 H hP hD hS => ?_)
  refine W.widen (k := 8) (n := 3132) (Nat.le_of_ble_eq_true rfl) (Nat.le_of_ble_eq_true rfl) ?_
  have hP : va_P (dC, dI) vwCl [(h0, .inr (0, [.ref q_1, .ref q_2, .ref q_3, .ref q_4, .ref q_6, .int 0, .int 0, .int 0])), (q_4, .inl (cA_5, 20, .inr (.inr (.inr (.inr g_10))))), (q_11, .inr (5, [.null, .int 0, .int 0, .int 0]))] H := hP
  have hD : va_D A [(h0, .inr (0, [.ref q_1, .ref q_2, .ref q_3, .ref q_4, .ref q_6, .int 0, .int 0, .int 0])), (q_4, .inl (cA_5, 20, .inr (.inr (.inr (.inr g_10))))), (q_11, .inr (5, [.null, .int 0, .int 0, .int 0]))] := hD
  refine lv_dup hx hb dX0_init_64 rfl ?_
  have hPc := hP.sub (ws' := [(q_11, .inr (5, [.null, .int 0, .int 0, .int 0]))]) [2] rfl
  have hDc := hD.sub (ws' := [(q_11, .inr (5, [.null, .int 0, .int 0, .int 0]))]) [2] (by decide) rfl
  have hFc := va_free (wc := [(q_11, .inr (5, [.null, .int 0, .int 0, .int 0]))]) hD hS hA [2] rfl
  refine va_callv (va_runIN (As := []) (rest := [.ref q_11, .int 1, .ref q_4]) ⟨hx, hb, hml, hown, hts⟩ (c_X5_init l dC dI cI cJ q_11 H.size) ⟨(va_cnB 0 hts gX0_init_X5_init_n30 rfl rfl rfl hN.2.2.2.2.1 (hts (.initialized RX5) (by decide +kernel)) (by decide +kernel) ⟨Nat.le_of_ble_eq_true rfl, Nat.le_of_ble_eq_true rfl⟩), rfl, hts (.instanceMethod yX5_init) (by decide +kernel)⟩ ⟨mBlind, mGo hPc hK hDc hN⟩ rfl rfl hl.1 rfl (lv_room (Nat.le_of_ble_eq_true rfl)) dX0_init_65 ⟨Nat.le_of_ble_eq_true rfl, Nat.le_of_ble_eq_true rfl⟩) hS (fun q _ h => hFc q h) hFc (fun u t H1 locs ht hvm hw hB hz1 hk1 hS => ?_)
  obtain ⟨q_13, hP1, hD1⟩ := hB
  rw [ht] at hP1
  obtain ⟨hP, hD⟩ := va_join (wr := [(h0, .inr (0, [.ref q_1, .ref q_2, .ref q_3, .ref q_4, .ref q_6, .int 0, .int 0, .int 0])), (q_4, .inl (cA_5, 20, .inr (.inr (.inr (.inr g_10)))))]) (w1 := [(q_11, .inr (5, [.ref q_13, .int 0, .int 0, .int 0]))]) hP hD [2] [0, 1] rfl rfl (by decide) (by decide) hk1 hFc hP1 hD1
  generalize H1 = H at hP hS ⊢
  have hP : va_P (dC, dI) vwCl [(h0, .inr (0, [.ref q_1, .ref q_2, .ref q_3, .ref q_4, .ref q_6, .int 0, .int 0, .int 0])), (q_4, .inl (cA_5, 20, .inr (.inr (.inr (.inr g_10))))), (q_11, .inr (5, [.ref q_13, .int 0, .int 0, .int 0]))] H := hP
  have hD : va_D A [(h0, .inr (0, [.ref q_1, .ref q_2, .ref q_3, .ref q_4, .ref q_6, .int 0, .int 0, .int 0])), (q_4, .inl (cA_5, 20, .inr (.inr (.inr (.inr g_10))))), (q_11, .inr (5, [.ref q_13, .int 0, .int 0, .int 0]))] := hD
  refine W.widen (k := 9) (n := 3144) (Nat.le_of_ble_eq_true rfl) (Nat.le_of_ble_eq_true rfl) ?_
  refine va_astq (r := (RX5, TX5, 4)) hx hb hK_q_4 hP hD hS 1 2 2 5 rfl rfl rfl rfl (vpd (by decide)) dX0_init_68 (fun H locs hP hD hS => ?_)
  obtain ⟨g_14, e_g_14⟩ : ∃ y : Nat → Option Nat, y = va_up g_10 (1 : Int32).toNatClampNeg (some q_11) := ⟨_, rfl⟩
  have hP : va_P (dC, dI) vwCl [(h0, .inr (0, [.ref q_1, .ref q_2, .ref q_3, .ref q_4, .ref q_6, .int 0, .int 0, .int 0])), (q_4, .inl (cA_5, 20, .inr (.inr (.inr (.inr g_14))))), (q_11, .inr (5, [.ref q_13, .int 0, .int 0, .int 0]))] H := by rw [e_g_14]; exact hP
  have hD : va_D A [(h0, .inr (0, [.ref q_1, .ref q_2, .ref q_3, .ref q_4, .ref q_6, .int 0, .int 0, .int 0])), (q_4, .inl (cA_5, 20, .inr (.inr (.inr (.inr g_14)))))] := by rw [e_g_14]; exact hD.sub [0, 1] (by decide) rfl
  have hP := hP.sub (ws' := [(h0, .inr (0, [.ref q_1, .ref q_2, .ref q_3, .ref q_4, .ref q_6, .int 0, .int 0, .int 0])), (q_4, .inl (cA_5, 20, .inr (.inr (.inr (.inr g_14)))))]) [0, 1] rfl
  refine lv_iinc (v := 2) (lv' := [(1, .int 2), (0, .ref h0)]) hx hb dX0_init_69 hl (k := 0) rfl (by decide) (by decide) rfl (fun ls hl => ?_)
  refine lv_goto (tgt := 50) hx hb dX0_init_72 (by decide) ?_
  refine lv_iload_n hx hb dX0_init_50 rfl (lv_at hl 0 rfl) ?_
  refine lv_bipush (v := 20) hx hb dX0_init_51 (by decide) ?_
  refine lv_icmp_ge (tgt := 75) hx hb dX0_init_53 (by decide) (fun c => absurd c (by decide)) (fun _ => ?_)
  refine lv_aload_n hx hb dX0_init_56 rfl (lv_at hl 1 rfl) ?_
  refine va_get (D := (dC, dI)) (ci := 0) (v := .ref q_4) (C := RX0) (T := TX0) (N := 8) hx hb hts h_in_X0 hown hK hP 0 rfl rfl 3 (by decide) (hts (.fieldLink RX0 23 "MatchTrees$Acts" "orderAhead" "[LMatchTrees$Order;") (by decide +kernel)) (fun _ h9 => h9) rfl dX0_init_57 ?_
  refine lv_iload_n hx hb dX0_init_60 rfl (lv_at hl 0 rfl) ?_
  refine va_new (ci := 5) (fs := [.null, .int 0, .int 0, .int 0]) (C := RX5) (T := TX5) (N := 4) hx hb hts h_in_X5 tyX5 tyX5_ok hown (hts (.classLink RX0 21 RX5) (by decide +kernel)) (hts (.instantiable RX5 4) (by decide +kernel)) (hts (.initialized RX5) (by decide +kernel)) hK hP hD hS hA rfl (fun j hj => by rcases (show j = 0 ∨ j = 1 ∨ j = 2 ∨ j = 3 by omega) with rfl | rfl | rfl | rfl <;> rfl) (Nat.le_of_ble_eq_true rfl) (Nat.le_of_ble_eq_true rfl) dX0_init_61 (fun q_15 H hP hD hS => ?_)
  refine W.widen (k := 10) (n := 3148) (Nat.le_of_ble_eq_true rfl) (Nat.le_of_ble_eq_true rfl) ?_
  have hP : va_P (dC, dI) vwCl [(h0, .inr (0, [.ref q_1, .ref q_2, .ref q_3, .ref q_4, .ref q_6, .int 0, .int 0, .int 0])), (q_4, .inl (cA_5, 20, .inr (.inr (.inr (.inr g_14))))), (q_15, .inr (5, [.null, .int 0, .int 0, .int 0]))] H := hP
  have hD : va_D A [(h0, .inr (0, [.ref q_1, .ref q_2, .ref q_3, .ref q_4, .ref q_6, .int 0, .int 0, .int 0])), (q_4, .inl (cA_5, 20, .inr (.inr (.inr (.inr g_14))))), (q_15, .inr (5, [.null, .int 0, .int 0, .int 0]))] := hD
  refine lv_dup hx hb dX0_init_64 rfl ?_
  have hPc := hP.sub (ws' := [(q_15, .inr (5, [.null, .int 0, .int 0, .int 0]))]) [2] rfl
  have hDc := hD.sub (ws' := [(q_15, .inr (5, [.null, .int 0, .int 0, .int 0]))]) [2] (by decide) rfl
  have hFc := va_free (wc := [(q_15, .inr (5, [.null, .int 0, .int 0, .int 0]))]) hD hS hA [2] rfl
  refine va_callv (va_runIN (As := []) (rest := [.ref q_15, .int 2, .ref q_4]) ⟨hx, hb, hml, hown, hts⟩ (c_X5_init l dC dI cI cJ q_15 H.size) ⟨(va_cnB 0 hts gX0_init_X5_init_n30 rfl rfl rfl hN.2.2.2.2.1 (hts (.initialized RX5) (by decide +kernel)) (by decide +kernel) ⟨Nat.le_of_ble_eq_true rfl, Nat.le_of_ble_eq_true rfl⟩), rfl, hts (.instanceMethod yX5_init) (by decide +kernel)⟩ ⟨mBlind, mGo hPc hK hDc hN⟩ rfl rfl hl.1 rfl (lv_room (Nat.le_of_ble_eq_true rfl)) dX0_init_65 ⟨Nat.le_of_ble_eq_true rfl, Nat.le_of_ble_eq_true rfl⟩) hS (fun q _ h => hFc q h) hFc (fun u t H1 locs ht hvm hw hB hz1 hk1 hS => ?_)
  obtain ⟨q_17, hP1, hD1⟩ := hB
  rw [ht] at hP1
  obtain ⟨hP, hD⟩ := va_join (wr := [(h0, .inr (0, [.ref q_1, .ref q_2, .ref q_3, .ref q_4, .ref q_6, .int 0, .int 0, .int 0])), (q_4, .inl (cA_5, 20, .inr (.inr (.inr (.inr g_14)))))]) (w1 := [(q_15, .inr (5, [.ref q_17, .int 0, .int 0, .int 0]))]) hP hD [2] [0, 1] rfl rfl (by decide) (by decide) hk1 hFc hP1 hD1
  generalize H1 = H at hP hS ⊢
  have hP : va_P (dC, dI) vwCl [(h0, .inr (0, [.ref q_1, .ref q_2, .ref q_3, .ref q_4, .ref q_6, .int 0, .int 0, .int 0])), (q_4, .inl (cA_5, 20, .inr (.inr (.inr (.inr g_14))))), (q_15, .inr (5, [.ref q_17, .int 0, .int 0, .int 0]))] H := hP
  have hD : va_D A [(h0, .inr (0, [.ref q_1, .ref q_2, .ref q_3, .ref q_4, .ref q_6, .int 0, .int 0, .int 0])), (q_4, .inl (cA_5, 20, .inr (.inr (.inr (.inr g_14))))), (q_15, .inr (5, [.ref q_17, .int 0, .int 0, .int 0]))] := hD
  refine W.widen (k := 11) (n := 3160) (Nat.le_of_ble_eq_true rfl) (Nat.le_of_ble_eq_true rfl) ?_
  refine va_astq (r := (RX5, TX5, 4)) hx hb hK_q_4 hP hD hS 1 2 2 5 rfl rfl rfl rfl (vpd (by decide)) dX0_init_68 (fun H locs hP hD hS => ?_)
  obtain ⟨g_18, e_g_18⟩ : ∃ y : Nat → Option Nat, y = va_up g_14 (2 : Int32).toNatClampNeg (some q_15) := ⟨_, rfl⟩
  have hP : va_P (dC, dI) vwCl [(h0, .inr (0, [.ref q_1, .ref q_2, .ref q_3, .ref q_4, .ref q_6, .int 0, .int 0, .int 0])), (q_4, .inl (cA_5, 20, .inr (.inr (.inr (.inr g_18))))), (q_15, .inr (5, [.ref q_17, .int 0, .int 0, .int 0]))] H := by rw [e_g_18]; exact hP
  have hD : va_D A [(h0, .inr (0, [.ref q_1, .ref q_2, .ref q_3, .ref q_4, .ref q_6, .int 0, .int 0, .int 0])), (q_4, .inl (cA_5, 20, .inr (.inr (.inr (.inr g_18)))))] := by rw [e_g_18]; exact hD.sub [0, 1] (by decide) rfl
  have hP := hP.sub (ws' := [(h0, .inr (0, [.ref q_1, .ref q_2, .ref q_3, .ref q_4, .ref q_6, .int 0, .int 0, .int 0])), (q_4, .inl (cA_5, 20, .inr (.inr (.inr (.inr g_18)))))]) [0, 1] rfl
  refine lv_iinc (v := 3) (lv' := [(1, .int 3), (0, .ref h0)]) hx hb dX0_init_69 hl (k := 0) rfl (by decide) (by decide) rfl (fun ls hl => ?_)
  refine lv_goto (tgt := 50) hx hb dX0_init_72 (by decide) ?_
  refine lv_iload_n hx hb dX0_init_50 rfl (lv_at hl 0 rfl) ?_
  refine lv_bipush (v := 20) hx hb dX0_init_51 (by decide) ?_
  refine lv_icmp_ge (tgt := 75) hx hb dX0_init_53 (by decide) (fun c => absurd c (by decide)) (fun _ => ?_)
  refine lv_aload_n hx hb dX0_init_56 rfl (lv_at hl 1 rfl) ?_
  refine va_get (D := (dC, dI)) (ci := 0) (v := .ref q_4) (C := RX0) (T := TX0) (N := 8) hx hb hts h_in_X0 hown hK hP 0 rfl rfl 3 (by decide) (hts (.fieldLink RX0 23 "MatchTrees$Acts" "orderAhead" "[LMatchTrees$Order;") (by decide +kernel)) (fun _ h9 => h9) rfl dX0_init_57 ?_
  refine lv_iload_n hx hb dX0_init_60 rfl (lv_at hl 0 rfl) ?_
  refine va_new (ci := 5) (fs := [.null, .int 0, .int 0, .int 0]) (C := RX5) (T := TX5) (N := 4) hx hb hts h_in_X5 tyX5 tyX5_ok hown (hts (.classLink RX0 21 RX5) (by decide +kernel)) (hts (.instantiable RX5 4) (by decide +kernel)) (hts (.initialized RX5) (by decide +kernel)) hK hP hD hS hA rfl (fun j hj => by rcases (show j = 0 ∨ j = 1 ∨ j = 2 ∨ j = 3 by omega) with rfl | rfl | rfl | rfl <;> rfl) (Nat.le_of_ble_eq_true rfl) (Nat.le_of_ble_eq_true rfl) dX0_init_61 (fun q_19 H hP hD hS => ?_)
  refine W.widen (k := 12) (n := 3164) (Nat.le_of_ble_eq_true rfl) (Nat.le_of_ble_eq_true rfl) ?_
  have hP : va_P (dC, dI) vwCl [(h0, .inr (0, [.ref q_1, .ref q_2, .ref q_3, .ref q_4, .ref q_6, .int 0, .int 0, .int 0])), (q_4, .inl (cA_5, 20, .inr (.inr (.inr (.inr g_18))))), (q_19, .inr (5, [.null, .int 0, .int 0, .int 0]))] H := hP
  have hD : va_D A [(h0, .inr (0, [.ref q_1, .ref q_2, .ref q_3, .ref q_4, .ref q_6, .int 0, .int 0, .int 0])), (q_4, .inl (cA_5, 20, .inr (.inr (.inr (.inr g_18))))), (q_19, .inr (5, [.null, .int 0, .int 0, .int 0]))] := hD
  refine lv_dup hx hb dX0_init_64 rfl ?_
  have hPc := hP.sub (ws' := [(q_19, .inr (5, [.null, .int 0, .int 0, .int 0]))]) [2] rfl
  have hDc := hD.sub (ws' := [(q_19, .inr (5, [.null, .int 0, .int 0, .int 0]))]) [2] (by decide) rfl
  have hFc := va_free (wc := [(q_19, .inr (5, [.null, .int 0, .int 0, .int 0]))]) hD hS hA [2] rfl
  refine va_callv (va_runIN (As := []) (rest := [.ref q_19, .int 3, .ref q_4]) ⟨hx, hb, hml, hown, hts⟩ (c_X5_init l dC dI cI cJ q_19 H.size) ⟨(va_cnB 0 hts gX0_init_X5_init_n30 rfl rfl rfl hN.2.2.2.2.1 (hts (.initialized RX5) (by decide +kernel)) (by decide +kernel) ⟨Nat.le_of_ble_eq_true rfl, Nat.le_of_ble_eq_true rfl⟩), rfl, hts (.instanceMethod yX5_init) (by decide +kernel)⟩ ⟨mBlind, mGo hPc hK hDc hN⟩ rfl rfl hl.1 rfl (lv_room (Nat.le_of_ble_eq_true rfl)) dX0_init_65 ⟨Nat.le_of_ble_eq_true rfl, Nat.le_of_ble_eq_true rfl⟩) hS (fun q _ h => hFc q h) hFc (fun u t H1 locs ht hvm hw hB hz1 hk1 hS => ?_)
  obtain ⟨q_21, hP1, hD1⟩ := hB
  rw [ht] at hP1
  obtain ⟨hP, hD⟩ := va_join (wr := [(h0, .inr (0, [.ref q_1, .ref q_2, .ref q_3, .ref q_4, .ref q_6, .int 0, .int 0, .int 0])), (q_4, .inl (cA_5, 20, .inr (.inr (.inr (.inr g_18)))))]) (w1 := [(q_19, .inr (5, [.ref q_21, .int 0, .int 0, .int 0]))]) hP hD [2] [0, 1] rfl rfl (by decide) (by decide) hk1 hFc hP1 hD1
  generalize H1 = H at hP hS ⊢
  have hP : va_P (dC, dI) vwCl [(h0, .inr (0, [.ref q_1, .ref q_2, .ref q_3, .ref q_4, .ref q_6, .int 0, .int 0, .int 0])), (q_4, .inl (cA_5, 20, .inr (.inr (.inr (.inr g_18))))), (q_19, .inr (5, [.ref q_21, .int 0, .int 0, .int 0]))] H := hP
  have hD : va_D A [(h0, .inr (0, [.ref q_1, .ref q_2, .ref q_3, .ref q_4, .ref q_6, .int 0, .int 0, .int 0])), (q_4, .inl (cA_5, 20, .inr (.inr (.inr (.inr g_18))))), (q_19, .inr (5, [.ref q_21, .int 0, .int 0, .int 0]))] := hD
  refine W.widen (k := 13) (n := 3176) (Nat.le_of_ble_eq_true rfl) (Nat.le_of_ble_eq_true rfl) ?_
  refine va_astq (r := (RX5, TX5, 4)) hx hb hK_q_4 hP hD hS 1 2 2 5 rfl rfl rfl rfl (vpd (by decide)) dX0_init_68 (fun H locs hP hD hS => ?_)
  obtain ⟨g_22, e_g_22⟩ : ∃ y : Nat → Option Nat, y = va_up g_18 (3 : Int32).toNatClampNeg (some q_19) := ⟨_, rfl⟩
  have hP : va_P (dC, dI) vwCl [(h0, .inr (0, [.ref q_1, .ref q_2, .ref q_3, .ref q_4, .ref q_6, .int 0, .int 0, .int 0])), (q_4, .inl (cA_5, 20, .inr (.inr (.inr (.inr g_22))))), (q_19, .inr (5, [.ref q_21, .int 0, .int 0, .int 0]))] H := by rw [e_g_22]; exact hP
  have hD : va_D A [(h0, .inr (0, [.ref q_1, .ref q_2, .ref q_3, .ref q_4, .ref q_6, .int 0, .int 0, .int 0])), (q_4, .inl (cA_5, 20, .inr (.inr (.inr (.inr g_22)))))] := by rw [e_g_22]; exact hD.sub [0, 1] (by decide) rfl
  have hP := hP.sub (ws' := [(h0, .inr (0, [.ref q_1, .ref q_2, .ref q_3, .ref q_4, .ref q_6, .int 0, .int 0, .int 0])), (q_4, .inl (cA_5, 20, .inr (.inr (.inr (.inr g_22)))))]) [0, 1] rfl
  refine lv_iinc (v := 4) (lv' := [(1, .int 4), (0, .ref h0)]) hx hb dX0_init_69 hl (k := 0) rfl (by decide) (by decide) rfl (fun ls hl => ?_)
  refine lv_goto (tgt := 50) hx hb dX0_init_72 (by decide) ?_
  refine lv_iload_n hx hb dX0_init_50 rfl (lv_at hl 0 rfl) ?_
  refine lv_bipush (v := 20) hx hb dX0_init_51 (by decide) ?_
  refine lv_icmp_ge (tgt := 75) hx hb dX0_init_53 (by decide) (fun c => absurd c (by decide)) (fun _ => ?_)
  refine lv_aload_n hx hb dX0_init_56 rfl (lv_at hl 1 rfl) ?_
  refine va_get (D := (dC, dI)) (ci := 0) (v := .ref q_4) (C := RX0) (T := TX0) (N := 8) hx hb hts h_in_X0 hown hK hP 0 rfl rfl 3 (by decide) (hts (.fieldLink RX0 23 "MatchTrees$Acts" "orderAhead" "[LMatchTrees$Order;") (by decide +kernel)) (fun _ h9 => h9) rfl dX0_init_57 ?_
  refine lv_iload_n hx hb dX0_init_60 rfl (lv_at hl 0 rfl) ?_
  refine va_new (ci := 5) (fs := [.null, .int 0, .int 0, .int 0]) (C := RX5) (T := TX5) (N := 4) hx hb hts h_in_X5 tyX5 tyX5_ok hown (hts (.classLink RX0 21 RX5) (by decide +kernel)) (hts (.instantiable RX5 4) (by decide +kernel)) (hts (.initialized RX5) (by decide +kernel)) hK hP hD hS hA rfl (fun j hj => by rcases (show j = 0 ∨ j = 1 ∨ j = 2 ∨ j = 3 by omega) with rfl | rfl | rfl | rfl <;> rfl) (Nat.le_of_ble_eq_true rfl) (Nat.le_of_ble_eq_true rfl) dX0_init_61 (fun q_23 H hP hD hS => ?_)
  refine W.widen (k := 14) (n := 3180) (Nat.le_of_ble_eq_true rfl) (Nat.le_of_ble_eq_true rfl) ?_
  have hP : va_P (dC, dI) vwCl [(h0, .inr (0, [.ref q_1, .ref q_2, .ref q_3, .ref q_4, .ref q_6, .int 0, .int 0, .int 0])), (q_4, .inl (cA_5, 20, .inr (.inr (.inr (.inr g_22))))), (q_23, .inr (5, [.null, .int 0, .int 0, .int 0]))] H := hP
  have hD : va_D A [(h0, .inr (0, [.ref q_1, .ref q_2, .ref q_3, .ref q_4, .ref q_6, .int 0, .int 0, .int 0])), (q_4, .inl (cA_5, 20, .inr (.inr (.inr (.inr g_22))))), (q_23, .inr (5, [.null, .int 0, .int 0, .int 0]))] := hD
  refine lv_dup hx hb dX0_init_64 rfl ?_
  have hPc := hP.sub (ws' := [(q_23, .inr (5, [.null, .int 0, .int 0, .int 0]))]) [2] rfl
  have hDc := hD.sub (ws' := [(q_23, .inr (5, [.null, .int 0, .int 0, .int 0]))]) [2] (by decide) rfl
  have hFc := va_free (wc := [(q_23, .inr (5, [.null, .int 0, .int 0, .int 0]))]) hD hS hA [2] rfl
  refine va_callv (va_runIN (As := []) (rest := [.ref q_23, .int 4, .ref q_4]) ⟨hx, hb, hml, hown, hts⟩ (c_X5_init l dC dI cI cJ q_23 H.size) ⟨(va_cnB 0 hts gX0_init_X5_init_n30 rfl rfl rfl hN.2.2.2.2.1 (hts (.initialized RX5) (by decide +kernel)) (by decide +kernel) ⟨Nat.le_of_ble_eq_true rfl, Nat.le_of_ble_eq_true rfl⟩), rfl, hts (.instanceMethod yX5_init) (by decide +kernel)⟩ ⟨mBlind, mGo hPc hK hDc hN⟩ rfl rfl hl.1 rfl (lv_room (Nat.le_of_ble_eq_true rfl)) dX0_init_65 ⟨Nat.le_of_ble_eq_true rfl, Nat.le_of_ble_eq_true rfl⟩) hS (fun q _ h => hFc q h) hFc (fun u t H1 locs ht hvm hw hB hz1 hk1 hS => ?_)
  obtain ⟨q_25, hP1, hD1⟩ := hB
  rw [ht] at hP1
  obtain ⟨hP, hD⟩ := va_join (wr := [(h0, .inr (0, [.ref q_1, .ref q_2, .ref q_3, .ref q_4, .ref q_6, .int 0, .int 0, .int 0])), (q_4, .inl (cA_5, 20, .inr (.inr (.inr (.inr g_22)))))]) (w1 := [(q_23, .inr (5, [.ref q_25, .int 0, .int 0, .int 0]))]) hP hD [2] [0, 1] rfl rfl (by decide) (by decide) hk1 hFc hP1 hD1
  generalize H1 = H at hP hS ⊢
  have hP : va_P (dC, dI) vwCl [(h0, .inr (0, [.ref q_1, .ref q_2, .ref q_3, .ref q_4, .ref q_6, .int 0, .int 0, .int 0])), (q_4, .inl (cA_5, 20, .inr (.inr (.inr (.inr g_22))))), (q_23, .inr (5, [.ref q_25, .int 0, .int 0, .int 0]))] H := hP
  have hD : va_D A [(h0, .inr (0, [.ref q_1, .ref q_2, .ref q_3, .ref q_4, .ref q_6, .int 0, .int 0, .int 0])), (q_4, .inl (cA_5, 20, .inr (.inr (.inr (.inr g_22))))), (q_23, .inr (5, [.ref q_25, .int 0, .int 0, .int 0]))] := hD
  refine W.widen (k := 15) (n := 3192) (Nat.le_of_ble_eq_true rfl) (Nat.le_of_ble_eq_true rfl) ?_
  refine va_astq (r := (RX5, TX5, 4)) hx hb hK_q_4 hP hD hS 1 2 2 5 rfl rfl rfl rfl (vpd (by decide)) dX0_init_68 (fun H locs hP hD hS => ?_)
  obtain ⟨g_26, e_g_26⟩ : ∃ y : Nat → Option Nat, y = va_up g_22 (4 : Int32).toNatClampNeg (some q_23) := ⟨_, rfl⟩
  have hP : va_P (dC, dI) vwCl [(h0, .inr (0, [.ref q_1, .ref q_2, .ref q_3, .ref q_4, .ref q_6, .int 0, .int 0, .int 0])), (q_4, .inl (cA_5, 20, .inr (.inr (.inr (.inr g_26))))), (q_23, .inr (5, [.ref q_25, .int 0, .int 0, .int 0]))] H := by rw [e_g_26]; exact hP
  have hD : va_D A [(h0, .inr (0, [.ref q_1, .ref q_2, .ref q_3, .ref q_4, .ref q_6, .int 0, .int 0, .int 0])), (q_4, .inl (cA_5, 20, .inr (.inr (.inr (.inr g_26)))))] := by rw [e_g_26]; exact hD.sub [0, 1] (by decide) rfl
  have hP := hP.sub (ws' := [(h0, .inr (0, [.ref q_1, .ref q_2, .ref q_3, .ref q_4, .ref q_6, .int 0, .int 0, .int 0])), (q_4, .inl (cA_5, 20, .inr (.inr (.inr (.inr g_26)))))]) [0, 1] rfl
  refine lv_iinc (v := 5) (lv' := [(1, .int 5), (0, .ref h0)]) hx hb dX0_init_69 hl (k := 0) rfl (by decide) (by decide) rfl (fun ls hl => ?_)
  refine lv_goto (tgt := 50) hx hb dX0_init_72 (by decide) ?_
  refine lv_iload_n hx hb dX0_init_50 rfl (lv_at hl 0 rfl) ?_
  refine lv_bipush (v := 20) hx hb dX0_init_51 (by decide) ?_
  refine lv_icmp_ge (tgt := 75) hx hb dX0_init_53 (by decide) (fun c => absurd c (by decide)) (fun _ => ?_)
  refine lv_aload_n hx hb dX0_init_56 rfl (lv_at hl 1 rfl) ?_
  refine va_get (D := (dC, dI)) (ci := 0) (v := .ref q_4) (C := RX0) (T := TX0) (N := 8) hx hb hts h_in_X0 hown hK hP 0 rfl rfl 3 (by decide) (hts (.fieldLink RX0 23 "MatchTrees$Acts" "orderAhead" "[LMatchTrees$Order;") (by decide +kernel)) (fun _ h9 => h9) rfl dX0_init_57 ?_
  refine lv_iload_n hx hb dX0_init_60 rfl (lv_at hl 0 rfl) ?_
  refine va_new (ci := 5) (fs := [.null, .int 0, .int 0, .int 0]) (C := RX5) (T := TX5) (N := 4) hx hb hts h_in_X5 tyX5 tyX5_ok hown (hts (.classLink RX0 21 RX5) (by decide +kernel)) (hts (.instantiable RX5 4) (by decide +kernel)) (hts (.initialized RX5) (by decide +kernel)) hK hP hD hS hA rfl (fun j hj => by rcases (show j = 0 ∨ j = 1 ∨ j = 2 ∨ j = 3 by omega) with rfl | rfl | rfl | rfl <;> rfl) (Nat.le_of_ble_eq_true rfl) (Nat.le_of_ble_eq_true rfl) dX0_init_61 (fun q_27 H hP hD hS => ?_)
  refine W.widen (k := 16) (n := 3196) (Nat.le_of_ble_eq_true rfl) (Nat.le_of_ble_eq_true rfl) ?_
  have hP : va_P (dC, dI) vwCl [(h0, .inr (0, [.ref q_1, .ref q_2, .ref q_3, .ref q_4, .ref q_6, .int 0, .int 0, .int 0])), (q_4, .inl (cA_5, 20, .inr (.inr (.inr (.inr g_26))))), (q_27, .inr (5, [.null, .int 0, .int 0, .int 0]))] H := hP
  have hD : va_D A [(h0, .inr (0, [.ref q_1, .ref q_2, .ref q_3, .ref q_4, .ref q_6, .int 0, .int 0, .int 0])), (q_4, .inl (cA_5, 20, .inr (.inr (.inr (.inr g_26))))), (q_27, .inr (5, [.null, .int 0, .int 0, .int 0]))] := hD
  refine lv_dup hx hb dX0_init_64 rfl ?_
  have hPc := hP.sub (ws' := [(q_27, .inr (5, [.null, .int 0, .int 0, .int 0]))]) [2] rfl
  have hDc := hD.sub (ws' := [(q_27, .inr (5, [.null, .int 0, .int 0, .int 0]))]) [2] (by decide) rfl
  have hFc := va_free (wc := [(q_27, .inr (5, [.null, .int 0, .int 0, .int 0]))]) hD hS hA [2] rfl
  refine va_callv (va_runIN (As := []) (rest := [.ref q_27, .int 5, .ref q_4]) ⟨hx, hb, hml, hown, hts⟩ (c_X5_init l dC dI cI cJ q_27 H.size) ⟨(va_cnB 0 hts gX0_init_X5_init_n30 rfl rfl rfl hN.2.2.2.2.1 (hts (.initialized RX5) (by decide +kernel)) (by decide +kernel) ⟨Nat.le_of_ble_eq_true rfl, Nat.le_of_ble_eq_true rfl⟩), rfl, hts (.instanceMethod yX5_init) (by decide +kernel)⟩ ⟨mBlind, mGo hPc hK hDc hN⟩ rfl rfl hl.1 rfl (lv_room (Nat.le_of_ble_eq_true rfl)) dX0_init_65 ⟨Nat.le_of_ble_eq_true rfl, Nat.le_of_ble_eq_true rfl⟩) hS (fun q _ h => hFc q h) hFc (fun u t H1 locs ht hvm hw hB hz1 hk1 hS => ?_)
  obtain ⟨q_29, hP1, hD1⟩ := hB
  rw [ht] at hP1
  obtain ⟨hP, hD⟩ := va_join (wr := [(h0, .inr (0, [.ref q_1, .ref q_2, .ref q_3, .ref q_4, .ref q_6, .int 0, .int 0, .int 0])), (q_4, .inl (cA_5, 20, .inr (.inr (.inr (.inr g_26)))))]) (w1 := [(q_27, .inr (5, [.ref q_29, .int 0, .int 0, .int 0]))]) hP hD [2] [0, 1] rfl rfl (by decide) (by decide) hk1 hFc hP1 hD1
  generalize H1 = H at hP hS ⊢
  have hP : va_P (dC, dI) vwCl [(h0, .inr (0, [.ref q_1, .ref q_2, .ref q_3, .ref q_4, .ref q_6, .int 0, .int 0, .int 0])), (q_4, .inl (cA_5, 20, .inr (.inr (.inr (.inr g_26))))), (q_27, .inr (5, [.ref q_29, .int 0, .int 0, .int 0]))] H := hP
  have hD : va_D A [(h0, .inr (0, [.ref q_1, .ref q_2, .ref q_3, .ref q_4, .ref q_6, .int 0, .int 0, .int 0])), (q_4, .inl (cA_5, 20, .inr (.inr (.inr (.inr g_26))))), (q_27, .inr (5, [.ref q_29, .int 0, .int 0, .int 0]))] := hD
  refine W.widen (k := 17) (n := 3208) (Nat.le_of_ble_eq_true rfl) (Nat.le_of_ble_eq_true rfl) ?_
  refine va_astq (r := (RX5, TX5, 4)) hx hb hK_q_4 hP hD hS 1 2 2 5 rfl rfl rfl rfl (vpd (by decide)) dX0_init_68 (fun H locs hP hD hS => ?_)
  obtain ⟨g_30, e_g_30⟩ : ∃ y : Nat → Option Nat, y = va_up g_26 (5 : Int32).toNatClampNeg (some q_27) := ⟨_, rfl⟩
  have hP : va_P (dC, dI) vwCl [(h0, .inr (0, [.ref q_1, .ref q_2, .ref q_3, .ref q_4, .ref q_6, .int 0, .int 0, .int 0])), (q_4, .inl (cA_5, 20, .inr (.inr (.inr (.inr g_30))))), (q_27, .inr (5, [.ref q_29, .int 0, .int 0, .int 0]))] H := by rw [e_g_30]; exact hP
  have hD : va_D A [(h0, .inr (0, [.ref q_1, .ref q_2, .ref q_3, .ref q_4, .ref q_6, .int 0, .int 0, .int 0])), (q_4, .inl (cA_5, 20, .inr (.inr (.inr (.inr g_30)))))] := by rw [e_g_30]; exact hD.sub [0, 1] (by decide) rfl
  have hP := hP.sub (ws' := [(h0, .inr (0, [.ref q_1, .ref q_2, .ref q_3, .ref q_4, .ref q_6, .int 0, .int 0, .int 0])), (q_4, .inl (cA_5, 20, .inr (.inr (.inr (.inr g_30)))))]) [0, 1] rfl
  refine lv_iinc (v := 6) (lv' := [(1, .int 6), (0, .ref h0)]) hx hb dX0_init_69 hl (k := 0) rfl (by decide) (by decide) rfl (fun ls hl => ?_)
  refine lv_goto (tgt := 50) hx hb dX0_init_72 (by decide) ?_
  refine lv_iload_n hx hb dX0_init_50 rfl (lv_at hl 0 rfl) ?_
  refine lv_bipush (v := 20) hx hb dX0_init_51 (by decide) ?_
  refine lv_icmp_ge (tgt := 75) hx hb dX0_init_53 (by decide) (fun c => absurd c (by decide)) (fun _ => ?_)
  refine lv_aload_n hx hb dX0_init_56 rfl (lv_at hl 1 rfl) ?_
  refine va_get (D := (dC, dI)) (ci := 0) (v := .ref q_4) (C := RX0) (T := TX0) (N := 8) hx hb hts h_in_X0 hown hK hP 0 rfl rfl 3 (by decide) (hts (.fieldLink RX0 23 "MatchTrees$Acts" "orderAhead" "[LMatchTrees$Order;") (by decide +kernel)) (fun _ h9 => h9) rfl dX0_init_57 ?_
  refine lv_iload_n hx hb dX0_init_60 rfl (lv_at hl 0 rfl) ?_
  refine va_new (ci := 5) (fs := [.null, .int 0, .int 0, .int 0]) (C := RX5) (T := TX5) (N := 4) hx hb hts h_in_X5 tyX5 tyX5_ok hown (hts (.classLink RX0 21 RX5) (by decide +kernel)) (hts (.instantiable RX5 4) (by decide +kernel)) (hts (.initialized RX5) (by decide +kernel)) hK hP hD hS hA rfl (fun j hj => by rcases (show j = 0 ∨ j = 1 ∨ j = 2 ∨ j = 3 by omega) with rfl | rfl | rfl | rfl <;> rfl) (Nat.le_of_ble_eq_true rfl) (Nat.le_of_ble_eq_true rfl) dX0_init_61 (fun q_31 H hP hD hS => ?_)
  refine W.widen (k := 18) (n := 3212) (Nat.le_of_ble_eq_true rfl) (Nat.le_of_ble_eq_true rfl) ?_
  have hP : va_P (dC, dI) vwCl [(h0, .inr (0, [.ref q_1, .ref q_2, .ref q_3, .ref q_4, .ref q_6, .int 0, .int 0, .int 0])), (q_4, .inl (cA_5, 20, .inr (.inr (.inr (.inr g_30))))), (q_31, .inr (5, [.null, .int 0, .int 0, .int 0]))] H := hP
  have hD : va_D A [(h0, .inr (0, [.ref q_1, .ref q_2, .ref q_3, .ref q_4, .ref q_6, .int 0, .int 0, .int 0])), (q_4, .inl (cA_5, 20, .inr (.inr (.inr (.inr g_30))))), (q_31, .inr (5, [.null, .int 0, .int 0, .int 0]))] := hD
  refine lv_dup hx hb dX0_init_64 rfl ?_
  have hPc := hP.sub (ws' := [(q_31, .inr (5, [.null, .int 0, .int 0, .int 0]))]) [2] rfl
  have hDc := hD.sub (ws' := [(q_31, .inr (5, [.null, .int 0, .int 0, .int 0]))]) [2] (by decide) rfl
  have hFc := va_free (wc := [(q_31, .inr (5, [.null, .int 0, .int 0, .int 0]))]) hD hS hA [2] rfl
  refine va_callv (va_runIN (As := []) (rest := [.ref q_31, .int 6, .ref q_4]) ⟨hx, hb, hml, hown, hts⟩ (c_X5_init l dC dI cI cJ q_31 H.size) ⟨(va_cnB 0 hts gX0_init_X5_init_n30 rfl rfl rfl hN.2.2.2.2.1 (hts (.initialized RX5) (by decide +kernel)) (by decide +kernel) ⟨Nat.le_of_ble_eq_true rfl, Nat.le_of_ble_eq_true rfl⟩), rfl, hts (.instanceMethod yX5_init) (by decide +kernel)⟩ ⟨mBlind, mGo hPc hK hDc hN⟩ rfl rfl hl.1 rfl (lv_room (Nat.le_of_ble_eq_true rfl)) dX0_init_65 ⟨Nat.le_of_ble_eq_true rfl, Nat.le_of_ble_eq_true rfl⟩) hS (fun q _ h => hFc q h) hFc (fun u t H1 locs ht hvm hw hB hz1 hk1 hS => ?_)
  obtain ⟨q_33, hP1, hD1⟩ := hB
  rw [ht] at hP1
  obtain ⟨hP, hD⟩ := va_join (wr := [(h0, .inr (0, [.ref q_1, .ref q_2, .ref q_3, .ref q_4, .ref q_6, .int 0, .int 0, .int 0])), (q_4, .inl (cA_5, 20, .inr (.inr (.inr (.inr g_30)))))]) (w1 := [(q_31, .inr (5, [.ref q_33, .int 0, .int 0, .int 0]))]) hP hD [2] [0, 1] rfl rfl (by decide) (by decide) hk1 hFc hP1 hD1
  generalize H1 = H at hP hS ⊢
  have hP : va_P (dC, dI) vwCl [(h0, .inr (0, [.ref q_1, .ref q_2, .ref q_3, .ref q_4, .ref q_6, .int 0, .int 0, .int 0])), (q_4, .inl (cA_5, 20, .inr (.inr (.inr (.inr g_30))))), (q_31, .inr (5, [.ref q_33, .int 0, .int 0, .int 0]))] H := hP
  have hD : va_D A [(h0, .inr (0, [.ref q_1, .ref q_2, .ref q_3, .ref q_4, .ref q_6, .int 0, .int 0, .int 0])), (q_4, .inl (cA_5, 20, .inr (.inr (.inr (.inr g_30))))), (q_31, .inr (5, [.ref q_33, .int 0, .int 0, .int 0]))] := hD
  refine W.widen (k := 19) (n := 3224) (Nat.le_of_ble_eq_true rfl) (Nat.le_of_ble_eq_true rfl) ?_
  refine va_astq (r := (RX5, TX5, 4)) hx hb hK_q_4 hP hD hS 1 2 2 5 rfl rfl rfl rfl (vpd (by decide)) dX0_init_68 (fun H locs hP hD hS => ?_)
  obtain ⟨g_34, e_g_34⟩ : ∃ y : Nat → Option Nat, y = va_up g_30 (6 : Int32).toNatClampNeg (some q_31) := ⟨_, rfl⟩
  have hP : va_P (dC, dI) vwCl [(h0, .inr (0, [.ref q_1, .ref q_2, .ref q_3, .ref q_4, .ref q_6, .int 0, .int 0, .int 0])), (q_4, .inl (cA_5, 20, .inr (.inr (.inr (.inr g_34))))), (q_31, .inr (5, [.ref q_33, .int 0, .int 0, .int 0]))] H := by rw [e_g_34]; exact hP
  have hD : va_D A [(h0, .inr (0, [.ref q_1, .ref q_2, .ref q_3, .ref q_4, .ref q_6, .int 0, .int 0, .int 0])), (q_4, .inl (cA_5, 20, .inr (.inr (.inr (.inr g_34)))))] := by rw [e_g_34]; exact hD.sub [0, 1] (by decide) rfl
  have hP := hP.sub (ws' := [(h0, .inr (0, [.ref q_1, .ref q_2, .ref q_3, .ref q_4, .ref q_6, .int 0, .int 0, .int 0])), (q_4, .inl (cA_5, 20, .inr (.inr (.inr (.inr g_34)))))]) [0, 1] rfl
  refine lv_iinc (v := 7) (lv' := [(1, .int 7), (0, .ref h0)]) hx hb dX0_init_69 hl (k := 0) rfl (by decide) (by decide) rfl (fun ls hl => ?_)
  refine lv_goto (tgt := 50) hx hb dX0_init_72 (by decide) ?_
  refine lv_iload_n hx hb dX0_init_50 rfl (lv_at hl 0 rfl) ?_
  refine lv_bipush (v := 20) hx hb dX0_init_51 (by decide) ?_
  refine lv_icmp_ge (tgt := 75) hx hb dX0_init_53 (by decide) (fun c => absurd c (by decide)) (fun _ => ?_)
  refine lv_aload_n hx hb dX0_init_56 rfl (lv_at hl 1 rfl) ?_
  refine va_get (D := (dC, dI)) (ci := 0) (v := .ref q_4) (C := RX0) (T := TX0) (N := 8) hx hb hts h_in_X0 hown hK hP 0 rfl rfl 3 (by decide) (hts (.fieldLink RX0 23 "MatchTrees$Acts" "orderAhead" "[LMatchTrees$Order;") (by decide +kernel)) (fun _ h9 => h9) rfl dX0_init_57 ?_
  refine lv_iload_n hx hb dX0_init_60 rfl (lv_at hl 0 rfl) ?_
  refine va_new (ci := 5) (fs := [.null, .int 0, .int 0, .int 0]) (C := RX5) (T := TX5) (N := 4) hx hb hts h_in_X5 tyX5 tyX5_ok hown (hts (.classLink RX0 21 RX5) (by decide +kernel)) (hts (.instantiable RX5 4) (by decide +kernel)) (hts (.initialized RX5) (by decide +kernel)) hK hP hD hS hA rfl (fun j hj => by rcases (show j = 0 ∨ j = 1 ∨ j = 2 ∨ j = 3 by omega) with rfl | rfl | rfl | rfl <;> rfl) (Nat.le_of_ble_eq_true rfl) (Nat.le_of_ble_eq_true rfl) dX0_init_61 (fun q_35 H hP hD hS => ?_)
  refine W.widen (k := 20) (n := 3228) (Nat.le_of_ble_eq_true rfl) (Nat.le_of_ble_eq_true rfl) ?_
  have hP : va_P (dC, dI) vwCl [(h0, .inr (0, [.ref q_1, .ref q_2, .ref q_3, .ref q_4, .ref q_6, .int 0, .int 0, .int 0])), (q_4, .inl (cA_5, 20, .inr (.inr (.inr (.inr g_34))))), (q_35, .inr (5, [.null, .int 0, .int 0, .int 0]))] H := hP
  have hD : va_D A [(h0, .inr (0, [.ref q_1, .ref q_2, .ref q_3, .ref q_4, .ref q_6, .int 0, .int 0, .int 0])), (q_4, .inl (cA_5, 20, .inr (.inr (.inr (.inr g_34))))), (q_35, .inr (5, [.null, .int 0, .int 0, .int 0]))] := hD
  refine lv_dup hx hb dX0_init_64 rfl ?_
  have hPc := hP.sub (ws' := [(q_35, .inr (5, [.null, .int 0, .int 0, .int 0]))]) [2] rfl
  have hDc := hD.sub (ws' := [(q_35, .inr (5, [.null, .int 0, .int 0, .int 0]))]) [2] (by decide) rfl
  have hFc := va_free (wc := [(q_35, .inr (5, [.null, .int 0, .int 0, .int 0]))]) hD hS hA [2] rfl
  refine va_callv (va_runIN (As := []) (rest := [.ref q_35, .int 7, .ref q_4]) ⟨hx, hb, hml, hown, hts⟩ (c_X5_init l dC dI cI cJ q_35 H.size) ⟨(va_cnB 0 hts gX0_init_X5_init_n30 rfl rfl rfl hN.2.2.2.2.1 (hts (.initialized RX5) (by decide +kernel)) (by decide +kernel) ⟨Nat.le_of_ble_eq_true rfl, Nat.le_of_ble_eq_true rfl⟩), rfl, hts (.instanceMethod yX5_init) (by decide +kernel)⟩ ⟨mBlind, mGo hPc hK hDc hN⟩ rfl rfl hl.1 rfl (lv_room (Nat.le_of_ble_eq_true rfl)) dX0_init_65 ⟨Nat.le_of_ble_eq_true rfl, Nat.le_of_ble_eq_true rfl⟩) hS (fun q _ h => hFc q h) hFc (fun u t H1 locs ht hvm hw hB hz1 hk1 hS => ?_)
  obtain ⟨q_37, hP1, hD1⟩ := hB
  rw [ht] at hP1
  obtain ⟨hP, hD⟩ := va_join (wr := [(h0, .inr (0, [.ref q_1, .ref q_2, .ref q_3, .ref q_4, .ref q_6, .int 0, .int 0, .int 0])), (q_4, .inl (cA_5, 20, .inr (.inr (.inr (.inr g_34)))))]) (w1 := [(q_35, .inr (5, [.ref q_37, .int 0, .int 0, .int 0]))]) hP hD [2] [0, 1] rfl rfl (by decide) (by decide) hk1 hFc hP1 hD1
  generalize H1 = H at hP hS ⊢
  have hP : va_P (dC, dI) vwCl [(h0, .inr (0, [.ref q_1, .ref q_2, .ref q_3, .ref q_4, .ref q_6, .int 0, .int 0, .int 0])), (q_4, .inl (cA_5, 20, .inr (.inr (.inr (.inr g_34))))), (q_35, .inr (5, [.ref q_37, .int 0, .int 0, .int 0]))] H := hP
  have hD : va_D A [(h0, .inr (0, [.ref q_1, .ref q_2, .ref q_3, .ref q_4, .ref q_6, .int 0, .int 0, .int 0])), (q_4, .inl (cA_5, 20, .inr (.inr (.inr (.inr g_34))))), (q_35, .inr (5, [.ref q_37, .int 0, .int 0, .int 0]))] := hD
  refine W.widen (k := 21) (n := 3240) (Nat.le_of_ble_eq_true rfl) (Nat.le_of_ble_eq_true rfl) ?_
  refine va_astq (r := (RX5, TX5, 4)) hx hb hK_q_4 hP hD hS 1 2 2 5 rfl rfl rfl rfl (vpd (by decide)) dX0_init_68 (fun H locs hP hD hS => ?_)
  obtain ⟨g_38, e_g_38⟩ : ∃ y : Nat → Option Nat, y = va_up g_34 (7 : Int32).toNatClampNeg (some q_35) := ⟨_, rfl⟩
  have hP : va_P (dC, dI) vwCl [(h0, .inr (0, [.ref q_1, .ref q_2, .ref q_3, .ref q_4, .ref q_6, .int 0, .int 0, .int 0])), (q_4, .inl (cA_5, 20, .inr (.inr (.inr (.inr g_38))))), (q_35, .inr (5, [.ref q_37, .int 0, .int 0, .int 0]))] H := by rw [e_g_38]; exact hP
  have hD : va_D A [(h0, .inr (0, [.ref q_1, .ref q_2, .ref q_3, .ref q_4, .ref q_6, .int 0, .int 0, .int 0])), (q_4, .inl (cA_5, 20, .inr (.inr (.inr (.inr g_38)))))] := by rw [e_g_38]; exact hD.sub [0, 1] (by decide) rfl
  have hP := hP.sub (ws' := [(h0, .inr (0, [.ref q_1, .ref q_2, .ref q_3, .ref q_4, .ref q_6, .int 0, .int 0, .int 0])), (q_4, .inl (cA_5, 20, .inr (.inr (.inr (.inr g_38)))))]) [0, 1] rfl
  refine lv_iinc (v := 8) (lv' := [(1, .int 8), (0, .ref h0)]) hx hb dX0_init_69 hl (k := 0) rfl (by decide) (by decide) rfl (fun ls hl => ?_)
  refine lv_goto (tgt := 50) hx hb dX0_init_72 (by decide) ?_
  refine lv_iload_n hx hb dX0_init_50 rfl (lv_at hl 0 rfl) ?_
  refine lv_bipush (v := 20) hx hb dX0_init_51 (by decide) ?_
  refine lv_icmp_ge (tgt := 75) hx hb dX0_init_53 (by decide) (fun c => absurd c (by decide)) (fun _ => ?_)
  refine lv_aload_n hx hb dX0_init_56 rfl (lv_at hl 1 rfl) ?_
  refine va_get (D := (dC, dI)) (ci := 0) (v := .ref q_4) (C := RX0) (T := TX0) (N := 8) hx hb hts h_in_X0 hown hK hP 0 rfl rfl 3 (by decide) (hts (.fieldLink RX0 23 "MatchTrees$Acts" "orderAhead" "[LMatchTrees$Order;") (by decide +kernel)) (fun _ h9 => h9) rfl dX0_init_57 ?_
  refine lv_iload_n hx hb dX0_init_60 rfl (lv_at hl 0 rfl) ?_
  refine va_new (ci := 5) (fs := [.null, .int 0, .int 0, .int 0]) (C := RX5) (T := TX5) (N := 4) hx hb hts h_in_X5 tyX5 tyX5_ok hown (hts (.classLink RX0 21 RX5) (by decide +kernel)) (hts (.instantiable RX5 4) (by decide +kernel)) (hts (.initialized RX5) (by decide +kernel)) hK hP hD hS hA rfl (fun j hj => by rcases (show j = 0 ∨ j = 1 ∨ j = 2 ∨ j = 3 by omega) with rfl | rfl | rfl | rfl <;> rfl) (Nat.le_of_ble_eq_true rfl) (Nat.le_of_ble_eq_true rfl) dX0_init_61 (fun q_39 H hP hD hS => ?_)
  refine W.widen (k := 22) (n := 3244) (Nat.le_of_ble_eq_true rfl) (Nat.le_of_ble_eq_true rfl) ?_
  have hP : va_P (dC, dI) vwCl [(h0, .inr (0, [.ref q_1, .ref q_2, .ref q_3, .ref q_4, .ref q_6, .int 0, .int 0, .int 0])), (q_4, .inl (cA_5, 20, .inr (.inr (.inr (.inr g_38))))), (q_39, .inr (5, [.null, .int 0, .int 0, .int 0]))] H := hP
  have hD : va_D A [(h0, .inr (0, [.ref q_1, .ref q_2, .ref q_3, .ref q_4, .ref q_6, .int 0, .int 0, .int 0])), (q_4, .inl (cA_5, 20, .inr (.inr (.inr (.inr g_38))))), (q_39, .inr (5, [.null, .int 0, .int 0, .int 0]))] := hD
  refine lv_dup hx hb dX0_init_64 rfl ?_
  have hPc := hP.sub (ws' := [(q_39, .inr (5, [.null, .int 0, .int 0, .int 0]))]) [2] rfl
  have hDc := hD.sub (ws' := [(q_39, .inr (5, [.null, .int 0, .int 0, .int 0]))]) [2] (by decide) rfl
  have hFc := va_free (wc := [(q_39, .inr (5, [.null, .int 0, .int 0, .int 0]))]) hD hS hA [2] rfl
  refine va_callv (va_runIN (As := []) (rest := [.ref q_39, .int 8, .ref q_4]) ⟨hx, hb, hml, hown, hts⟩ (c_X5_init l dC dI cI cJ q_39 H.size) ⟨(va_cnB 0 hts gX0_init_X5_init_n30 rfl rfl rfl hN.2.2.2.2.1 (hts (.initialized RX5) (by decide +kernel)) (by decide +kernel) ⟨Nat.le_of_ble_eq_true rfl, Nat.le_of_ble_eq_true rfl⟩), rfl, hts (.instanceMethod yX5_init) (by decide +kernel)⟩ ⟨mBlind, mGo hPc hK hDc hN⟩ rfl rfl hl.1 rfl (lv_room (Nat.le_of_ble_eq_true rfl)) dX0_init_65 ⟨Nat.le_of_ble_eq_true rfl, Nat.le_of_ble_eq_true rfl⟩) hS (fun q _ h => hFc q h) hFc (fun u t H1 locs ht hvm hw hB hz1 hk1 hS => ?_)
  obtain ⟨q_41, hP1, hD1⟩ := hB
  rw [ht] at hP1
  obtain ⟨hP, hD⟩ := va_join (wr := [(h0, .inr (0, [.ref q_1, .ref q_2, .ref q_3, .ref q_4, .ref q_6, .int 0, .int 0, .int 0])), (q_4, .inl (cA_5, 20, .inr (.inr (.inr (.inr g_38)))))]) (w1 := [(q_39, .inr (5, [.ref q_41, .int 0, .int 0, .int 0]))]) hP hD [2] [0, 1] rfl rfl (by decide) (by decide) hk1 hFc hP1 hD1
  generalize H1 = H at hP hS ⊢
  have hP : va_P (dC, dI) vwCl [(h0, .inr (0, [.ref q_1, .ref q_2, .ref q_3, .ref q_4, .ref q_6, .int 0, .int 0, .int 0])), (q_4, .inl (cA_5, 20, .inr (.inr (.inr (.inr g_38))))), (q_39, .inr (5, [.ref q_41, .int 0, .int 0, .int 0]))] H := hP
  have hD : va_D A [(h0, .inr (0, [.ref q_1, .ref q_2, .ref q_3, .ref q_4, .ref q_6, .int 0, .int 0, .int 0])), (q_4, .inl (cA_5, 20, .inr (.inr (.inr (.inr g_38))))), (q_39, .inr (5, [.ref q_41, .int 0, .int 0, .int 0]))] := hD
  refine W.widen (k := 23) (n := 3256) (Nat.le_of_ble_eq_true rfl) (Nat.le_of_ble_eq_true rfl) ?_
  refine va_astq (r := (RX5, TX5, 4)) hx hb hK_q_4 hP hD hS 1 2 2 5 rfl rfl rfl rfl (vpd (by decide)) dX0_init_68 (fun H locs hP hD hS => ?_)
  obtain ⟨g_42, e_g_42⟩ : ∃ y : Nat → Option Nat, y = va_up g_38 (8 : Int32).toNatClampNeg (some q_39) := ⟨_, rfl⟩
  have hP : va_P (dC, dI) vwCl [(h0, .inr (0, [.ref q_1, .ref q_2, .ref q_3, .ref q_4, .ref q_6, .int 0, .int 0, .int 0])), (q_4, .inl (cA_5, 20, .inr (.inr (.inr (.inr g_42))))), (q_39, .inr (5, [.ref q_41, .int 0, .int 0, .int 0]))] H := by rw [e_g_42]; exact hP
  have hD : va_D A [(h0, .inr (0, [.ref q_1, .ref q_2, .ref q_3, .ref q_4, .ref q_6, .int 0, .int 0, .int 0])), (q_4, .inl (cA_5, 20, .inr (.inr (.inr (.inr g_42)))))] := by rw [e_g_42]; exact hD.sub [0, 1] (by decide) rfl
  have hP := hP.sub (ws' := [(h0, .inr (0, [.ref q_1, .ref q_2, .ref q_3, .ref q_4, .ref q_6, .int 0, .int 0, .int 0])), (q_4, .inl (cA_5, 20, .inr (.inr (.inr (.inr g_42)))))]) [0, 1] rfl
  refine lv_iinc (v := 9) (lv' := [(1, .int 9), (0, .ref h0)]) hx hb dX0_init_69 hl (k := 0) rfl (by decide) (by decide) rfl (fun ls hl => ?_)
  refine lv_goto (tgt := 50) hx hb dX0_init_72 (by decide) ?_
  refine lv_iload_n hx hb dX0_init_50 rfl (lv_at hl 0 rfl) ?_
  refine lv_bipush (v := 20) hx hb dX0_init_51 (by decide) ?_
  refine lv_icmp_ge (tgt := 75) hx hb dX0_init_53 (by decide) (fun c => absurd c (by decide)) (fun _ => ?_)
  refine lv_aload_n hx hb dX0_init_56 rfl (lv_at hl 1 rfl) ?_
  refine va_get (D := (dC, dI)) (ci := 0) (v := .ref q_4) (C := RX0) (T := TX0) (N := 8) hx hb hts h_in_X0 hown hK hP 0 rfl rfl 3 (by decide) (hts (.fieldLink RX0 23 "MatchTrees$Acts" "orderAhead" "[LMatchTrees$Order;") (by decide +kernel)) (fun _ h9 => h9) rfl dX0_init_57 ?_
  refine lv_iload_n hx hb dX0_init_60 rfl (lv_at hl 0 rfl) ?_
  refine va_new (ci := 5) (fs := [.null, .int 0, .int 0, .int 0]) (C := RX5) (T := TX5) (N := 4) hx hb hts h_in_X5 tyX5 tyX5_ok hown (hts (.classLink RX0 21 RX5) (by decide +kernel)) (hts (.instantiable RX5 4) (by decide +kernel)) (hts (.initialized RX5) (by decide +kernel)) hK hP hD hS hA rfl (fun j hj => by rcases (show j = 0 ∨ j = 1 ∨ j = 2 ∨ j = 3 by omega) with rfl | rfl | rfl | rfl <;> rfl) (Nat.le_of_ble_eq_true rfl) (Nat.le_of_ble_eq_true rfl) dX0_init_61 (fun q_43 H hP hD hS => ?_)
  refine W.widen (k := 24) (n := 3260) (Nat.le_of_ble_eq_true rfl) (Nat.le_of_ble_eq_true rfl) ?_
  have hP : va_P (dC, dI) vwCl [(h0, .inr (0, [.ref q_1, .ref q_2, .ref q_3, .ref q_4, .ref q_6, .int 0, .int 0, .int 0])), (q_4, .inl (cA_5, 20, .inr (.inr (.inr (.inr g_42))))), (q_43, .inr (5, [.null, .int 0, .int 0, .int 0]))] H := hP
  have hD : va_D A [(h0, .inr (0, [.ref q_1, .ref q_2, .ref q_3, .ref q_4, .ref q_6, .int 0, .int 0, .int 0])), (q_4, .inl (cA_5, 20, .inr (.inr (.inr (.inr g_42))))), (q_43, .inr (5, [.null, .int 0, .int 0, .int 0]))] := hD
  refine lv_dup hx hb dX0_init_64 rfl ?_
  have hPc := hP.sub (ws' := [(q_43, .inr (5, [.null, .int 0, .int 0, .int 0]))]) [2] rfl
  have hDc := hD.sub (ws' := [(q_43, .inr (5, [.null, .int 0, .int 0, .int 0]))]) [2] (by decide) rfl
  have hFc := va_free (wc := [(q_43, .inr (5, [.null, .int 0, .int 0, .int 0]))]) hD hS hA [2] rfl
  refine va_callv (va_runIN (As := []) (rest := [.ref q_43, .int 9, .ref q_4]) ⟨hx, hb, hml, hown, hts⟩ (c_X5_init l dC dI cI cJ q_43 H.size) ⟨(va_cnB 0 hts gX0_init_X5_init_n30 rfl rfl rfl hN.2.2.2.2.1 (hts (.initialized RX5) (by decide +kernel)) (by decide +kernel) ⟨Nat.le_of_ble_eq_true rfl, Nat.le_of_ble_eq_true rfl⟩), rfl, hts (.instanceMethod yX5_init) (by decide +kernel)⟩ ⟨mBlind, mGo hPc hK hDc hN⟩ rfl rfl hl.1 rfl (lv_room (Nat.le_of_ble_eq_true rfl)) dX0_init_65 ⟨Nat.le_of_ble_eq_true rfl, Nat.le_of_ble_eq_true rfl⟩) hS (fun q _ h => hFc q h) hFc (fun u t H1 locs ht hvm hw hB hz1 hk1 hS => ?_)
  obtain ⟨q_45, hP1, hD1⟩ := hB
  rw [ht] at hP1
  obtain ⟨hP, hD⟩ := va_join (wr := [(h0, .inr (0, [.ref q_1, .ref q_2, .ref q_3, .ref q_4, .ref q_6, .int 0, .int 0, .int 0])), (q_4, .inl (cA_5, 20, .inr (.inr (.inr (.inr g_42)))))]) (w1 := [(q_43, .inr (5, [.ref q_45, .int 0, .int 0, .int 0]))]) hP hD [2] [0, 1] rfl rfl (by decide) (by decide) hk1 hFc hP1 hD1
  generalize H1 = H at hP hS ⊢
  have hP : va_P (dC, dI) vwCl [(h0, .inr (0, [.ref q_1, .ref q_2, .ref q_3, .ref q_4, .ref q_6, .int 0, .int 0, .int 0])), (q_4, .inl (cA_5, 20, .inr (.inr (.inr (.inr g_42))))), (q_43, .inr (5, [.ref q_45, .int 0, .int 0, .int 0]))] H := hP
  have hD : va_D A [(h0, .inr (0, [.ref q_1, .ref q_2, .ref q_3, .ref q_4, .ref q_6, .int 0, .int 0, .int 0])), (q_4, .inl (cA_5, 20, .inr (.inr (.inr (.inr g_42))))), (q_43, .inr (5, [.ref q_45, .int 0, .int 0, .int 0]))] := hD
  refine W.widen (k := 25) (n := 3272) (Nat.le_of_ble_eq_true rfl) (Nat.le_of_ble_eq_true rfl) ?_
  refine va_astq (r := (RX5, TX5, 4)) hx hb hK_q_4 hP hD hS 1 2 2 5 rfl rfl rfl rfl (vpd (by decide)) dX0_init_68 (fun H locs hP hD hS => ?_)
  obtain ⟨g_46, e_g_46⟩ : ∃ y : Nat → Option Nat, y = va_up g_42 (9 : Int32).toNatClampNeg (some q_43) := ⟨_, rfl⟩
  have hP : va_P (dC, dI) vwCl [(h0, .inr (0, [.ref q_1, .ref q_2, .ref q_3, .ref q_4, .ref q_6, .int 0, .int 0, .int 0])), (q_4, .inl (cA_5, 20, .inr (.inr (.inr (.inr g_46))))), (q_43, .inr (5, [.ref q_45, .int 0, .int 0, .int 0]))] H := by rw [e_g_46]; exact hP
  have hD : va_D A [(h0, .inr (0, [.ref q_1, .ref q_2, .ref q_3, .ref q_4, .ref q_6, .int 0, .int 0, .int 0])), (q_4, .inl (cA_5, 20, .inr (.inr (.inr (.inr g_46)))))] := by rw [e_g_46]; exact hD.sub [0, 1] (by decide) rfl
  have hP := hP.sub (ws' := [(h0, .inr (0, [.ref q_1, .ref q_2, .ref q_3, .ref q_4, .ref q_6, .int 0, .int 0, .int 0])), (q_4, .inl (cA_5, 20, .inr (.inr (.inr (.inr g_46)))))]) [0, 1] rfl
  refine lv_iinc (v := 10) (lv' := [(1, .int 10), (0, .ref h0)]) hx hb dX0_init_69 hl (k := 0) rfl (by decide) (by decide) rfl (fun ls hl => ?_)
  refine lv_goto (tgt := 50) hx hb dX0_init_72 (by decide) ?_
  refine lv_iload_n hx hb dX0_init_50 rfl (lv_at hl 0 rfl) ?_
  refine lv_bipush (v := 20) hx hb dX0_init_51 (by decide) ?_
  refine lv_icmp_ge (tgt := 75) hx hb dX0_init_53 (by decide) (fun c => absurd c (by decide)) (fun _ => ?_)
  refine lv_aload_n hx hb dX0_init_56 rfl (lv_at hl 1 rfl) ?_
  refine va_get (D := (dC, dI)) (ci := 0) (v := .ref q_4) (C := RX0) (T := TX0) (N := 8) hx hb hts h_in_X0 hown hK hP 0 rfl rfl 3 (by decide) (hts (.fieldLink RX0 23 "MatchTrees$Acts" "orderAhead" "[LMatchTrees$Order;") (by decide +kernel)) (fun _ h9 => h9) rfl dX0_init_57 ?_
  refine lv_iload_n hx hb dX0_init_60 rfl (lv_at hl 0 rfl) ?_
  refine va_new (ci := 5) (fs := [.null, .int 0, .int 0, .int 0]) (C := RX5) (T := TX5) (N := 4) hx hb hts h_in_X5 tyX5 tyX5_ok hown (hts (.classLink RX0 21 RX5) (by decide +kernel)) (hts (.instantiable RX5 4) (by decide +kernel)) (hts (.initialized RX5) (by decide +kernel)) hK hP hD hS hA rfl (fun j hj => by rcases (show j = 0 ∨ j = 1 ∨ j = 2 ∨ j = 3 by omega) with rfl | rfl | rfl | rfl <;> rfl) (Nat.le_of_ble_eq_true rfl) (Nat.le_of_ble_eq_true rfl) dX0_init_61 (fun q_47 H hP hD hS => ?_)
  refine W.widen (k := 26) (n := 3276) (Nat.le_of_ble_eq_true rfl) (Nat.le_of_ble_eq_true rfl) ?_
  have hP : va_P (dC, dI) vwCl [(h0, .inr (0, [.ref q_1, .ref q_2, .ref q_3, .ref q_4, .ref q_6, .int 0, .int 0, .int 0])), (q_4, .inl (cA_5, 20, .inr (.inr (.inr (.inr g_46))))), (q_47, .inr (5, [.null, .int 0, .int 0, .int 0]))] H := hP
  have hD : va_D A [(h0, .inr (0, [.ref q_1, .ref q_2, .ref q_3, .ref q_4, .ref q_6, .int 0, .int 0, .int 0])), (q_4, .inl (cA_5, 20, .inr (.inr (.inr (.inr g_46))))), (q_47, .inr (5, [.null, .int 0, .int 0, .int 0]))] := hD
  refine lv_dup hx hb dX0_init_64 rfl ?_
  have hPc := hP.sub (ws' := [(q_47, .inr (5, [.null, .int 0, .int 0, .int 0]))]) [2] rfl
  have hDc := hD.sub (ws' := [(q_47, .inr (5, [.null, .int 0, .int 0, .int 0]))]) [2] (by decide) rfl
  have hFc := va_free (wc := [(q_47, .inr (5, [.null, .int 0, .int 0, .int 0]))]) hD hS hA [2] rfl
  refine va_callv (va_runIN (As := []) (rest := [.ref q_47, .int 10, .ref q_4]) ⟨hx, hb, hml, hown, hts⟩ (c_X5_init l dC dI cI cJ q_47 H.size) ⟨(va_cnB 0 hts gX0_init_X5_init_n30 rfl rfl rfl hN.2.2.2.2.1 (hts (.initialized RX5) (by decide +kernel)) (by decide +kernel) ⟨Nat.le_of_ble_eq_true rfl, Nat.le_of_ble_eq_true rfl⟩), rfl, hts (.instanceMethod yX5_init) (by decide +kernel)⟩ ⟨mBlind, mGo hPc hK hDc hN⟩ rfl rfl hl.1 rfl (lv_room (Nat.le_of_ble_eq_true rfl)) dX0_init_65 ⟨Nat.le_of_ble_eq_true rfl, Nat.le_of_ble_eq_true rfl⟩) hS (fun q _ h => hFc q h) hFc (fun u t H1 locs ht hvm hw hB hz1 hk1 hS => ?_)
  obtain ⟨q_49, hP1, hD1⟩ := hB
  rw [ht] at hP1
  obtain ⟨hP, hD⟩ := va_join (wr := [(h0, .inr (0, [.ref q_1, .ref q_2, .ref q_3, .ref q_4, .ref q_6, .int 0, .int 0, .int 0])), (q_4, .inl (cA_5, 20, .inr (.inr (.inr (.inr g_46)))))]) (w1 := [(q_47, .inr (5, [.ref q_49, .int 0, .int 0, .int 0]))]) hP hD [2] [0, 1] rfl rfl (by decide) (by decide) hk1 hFc hP1 hD1
  generalize H1 = H at hP hS ⊢
  have hP : va_P (dC, dI) vwCl [(h0, .inr (0, [.ref q_1, .ref q_2, .ref q_3, .ref q_4, .ref q_6, .int 0, .int 0, .int 0])), (q_4, .inl (cA_5, 20, .inr (.inr (.inr (.inr g_46))))), (q_47, .inr (5, [.ref q_49, .int 0, .int 0, .int 0]))] H := hP
  have hD : va_D A [(h0, .inr (0, [.ref q_1, .ref q_2, .ref q_3, .ref q_4, .ref q_6, .int 0, .int 0, .int 0])), (q_4, .inl (cA_5, 20, .inr (.inr (.inr (.inr g_46))))), (q_47, .inr (5, [.ref q_49, .int 0, .int 0, .int 0]))] := hD
  refine W.widen (k := 27) (n := 3288) (Nat.le_of_ble_eq_true rfl) (Nat.le_of_ble_eq_true rfl) ?_
  refine va_astq (r := (RX5, TX5, 4)) hx hb hK_q_4 hP hD hS 1 2 2 5 rfl rfl rfl rfl (vpd (by decide)) dX0_init_68 (fun H locs hP hD hS => ?_)
  obtain ⟨g_50, e_g_50⟩ : ∃ y : Nat → Option Nat, y = va_up g_46 (10 : Int32).toNatClampNeg (some q_47) := ⟨_, rfl⟩
  have hP : va_P (dC, dI) vwCl [(h0, .inr (0, [.ref q_1, .ref q_2, .ref q_3, .ref q_4, .ref q_6, .int 0, .int 0, .int 0])), (q_4, .inl (cA_5, 20, .inr (.inr (.inr (.inr g_50))))), (q_47, .inr (5, [.ref q_49, .int 0, .int 0, .int 0]))] H := by rw [e_g_50]; exact hP
  have hD : va_D A [(h0, .inr (0, [.ref q_1, .ref q_2, .ref q_3, .ref q_4, .ref q_6, .int 0, .int 0, .int 0])), (q_4, .inl (cA_5, 20, .inr (.inr (.inr (.inr g_50)))))] := by rw [e_g_50]; exact hD.sub [0, 1] (by decide) rfl
  have hP := hP.sub (ws' := [(h0, .inr (0, [.ref q_1, .ref q_2, .ref q_3, .ref q_4, .ref q_6, .int 0, .int 0, .int 0])), (q_4, .inl (cA_5, 20, .inr (.inr (.inr (.inr g_50)))))]) [0, 1] rfl
  refine lv_iinc (v := 11) (lv' := [(1, .int 11), (0, .ref h0)]) hx hb dX0_init_69 hl (k := 0) rfl (by decide) (by decide) rfl (fun ls hl => ?_)
  refine lv_goto (tgt := 50) hx hb dX0_init_72 (by decide) ?_
  refine lv_iload_n hx hb dX0_init_50 rfl (lv_at hl 0 rfl) ?_
  refine lv_bipush (v := 20) hx hb dX0_init_51 (by decide) ?_
  refine lv_icmp_ge (tgt := 75) hx hb dX0_init_53 (by decide) (fun c => absurd c (by decide)) (fun _ => ?_)
  refine lv_aload_n hx hb dX0_init_56 rfl (lv_at hl 1 rfl) ?_
  refine va_get (D := (dC, dI)) (ci := 0) (v := .ref q_4) (C := RX0) (T := TX0) (N := 8) hx hb hts h_in_X0 hown hK hP 0 rfl rfl 3 (by decide) (hts (.fieldLink RX0 23 "MatchTrees$Acts" "orderAhead" "[LMatchTrees$Order;") (by decide +kernel)) (fun _ h9 => h9) rfl dX0_init_57 ?_
  refine lv_iload_n hx hb dX0_init_60 rfl (lv_at hl 0 rfl) ?_
  refine va_new (ci := 5) (fs := [.null, .int 0, .int 0, .int 0]) (C := RX5) (T := TX5) (N := 4) hx hb hts h_in_X5 tyX5 tyX5_ok hown (hts (.classLink RX0 21 RX5) (by decide +kernel)) (hts (.instantiable RX5 4) (by decide +kernel)) (hts (.initialized RX5) (by decide +kernel)) hK hP hD hS hA rfl (fun j hj => by rcases (show j = 0 ∨ j = 1 ∨ j = 2 ∨ j = 3 by omega) with rfl | rfl | rfl | rfl <;> rfl) (Nat.le_of_ble_eq_true rfl) (Nat.le_of_ble_eq_true rfl) dX0_init_61 (fun q_51 H hP hD hS => ?_)
  refine W.widen (k := 28) (n := 3292) (Nat.le_of_ble_eq_true rfl) (Nat.le_of_ble_eq_true rfl) ?_
  have hP : va_P (dC, dI) vwCl [(h0, .inr (0, [.ref q_1, .ref q_2, .ref q_3, .ref q_4, .ref q_6, .int 0, .int 0, .int 0])), (q_4, .inl (cA_5, 20, .inr (.inr (.inr (.inr g_50))))), (q_51, .inr (5, [.null, .int 0, .int 0, .int 0]))] H := hP
  have hD : va_D A [(h0, .inr (0, [.ref q_1, .ref q_2, .ref q_3, .ref q_4, .ref q_6, .int 0, .int 0, .int 0])), (q_4, .inl (cA_5, 20, .inr (.inr (.inr (.inr g_50))))), (q_51, .inr (5, [.null, .int 0, .int 0, .int 0]))] := hD
  refine lv_dup hx hb dX0_init_64 rfl ?_
  have hPc := hP.sub (ws' := [(q_51, .inr (5, [.null, .int 0, .int 0, .int 0]))]) [2] rfl
  have hDc := hD.sub (ws' := [(q_51, .inr (5, [.null, .int 0, .int 0, .int 0]))]) [2] (by decide) rfl
  have hFc := va_free (wc := [(q_51, .inr (5, [.null, .int 0, .int 0, .int 0]))]) hD hS hA [2] rfl
  refine va_callv (va_runIN (As := []) (rest := [.ref q_51, .int 11, .ref q_4]) ⟨hx, hb, hml, hown, hts⟩ (c_X5_init l dC dI cI cJ q_51 H.size) ⟨(va_cnB 0 hts gX0_init_X5_init_n30 rfl rfl rfl hN.2.2.2.2.1 (hts (.initialized RX5) (by decide +kernel)) (by decide +kernel) ⟨Nat.le_of_ble_eq_true rfl, Nat.le_of_ble_eq_true rfl⟩), rfl, hts (.instanceMethod yX5_init) (by decide +kernel)⟩ ⟨mBlind, mGo hPc hK hDc hN⟩ rfl rfl hl.1 rfl (lv_room (Nat.le_of_ble_eq_true rfl)) dX0_init_65 ⟨Nat.le_of_ble_eq_true rfl, Nat.le_of_ble_eq_true rfl⟩) hS (fun q _ h => hFc q h) hFc (fun u t H1 locs ht hvm hw hB hz1 hk1 hS => ?_)
  obtain ⟨q_53, hP1, hD1⟩ := hB
  rw [ht] at hP1
  obtain ⟨hP, hD⟩ := va_join (wr := [(h0, .inr (0, [.ref q_1, .ref q_2, .ref q_3, .ref q_4, .ref q_6, .int 0, .int 0, .int 0])), (q_4, .inl (cA_5, 20, .inr (.inr (.inr (.inr g_50)))))]) (w1 := [(q_51, .inr (5, [.ref q_53, .int 0, .int 0, .int 0]))]) hP hD [2] [0, 1] rfl rfl (by decide) (by decide) hk1 hFc hP1 hD1
  generalize H1 = H at hP hS ⊢
  have hP : va_P (dC, dI) vwCl [(h0, .inr (0, [.ref q_1, .ref q_2, .ref q_3, .ref q_4, .ref q_6, .int 0, .int 0, .int 0])), (q_4, .inl (cA_5, 20, .inr (.inr (.inr (.inr g_50))))), (q_51, .inr (5, [.ref q_53, .int 0, .int 0, .int 0]))] H := hP
  have hD : va_D A [(h0, .inr (0, [.ref q_1, .ref q_2, .ref q_3, .ref q_4, .ref q_6, .int 0, .int 0, .int 0])), (q_4, .inl (cA_5, 20, .inr (.inr (.inr (.inr g_50))))), (q_51, .inr (5, [.ref q_53, .int 0, .int 0, .int 0]))] := hD
  refine W.widen (k := 29) (n := 3304) (Nat.le_of_ble_eq_true rfl) (Nat.le_of_ble_eq_true rfl) ?_
  refine va_astq (r := (RX5, TX5, 4)) hx hb hK_q_4 hP hD hS 1 2 2 5 rfl rfl rfl rfl (vpd (by decide)) dX0_init_68 (fun H locs hP hD hS => ?_)
  obtain ⟨g_54, e_g_54⟩ : ∃ y : Nat → Option Nat, y = va_up g_50 (11 : Int32).toNatClampNeg (some q_51) := ⟨_, rfl⟩
  have hP : va_P (dC, dI) vwCl [(h0, .inr (0, [.ref q_1, .ref q_2, .ref q_3, .ref q_4, .ref q_6, .int 0, .int 0, .int 0])), (q_4, .inl (cA_5, 20, .inr (.inr (.inr (.inr g_54))))), (q_51, .inr (5, [.ref q_53, .int 0, .int 0, .int 0]))] H := by rw [e_g_54]; exact hP
  have hD : va_D A [(h0, .inr (0, [.ref q_1, .ref q_2, .ref q_3, .ref q_4, .ref q_6, .int 0, .int 0, .int 0])), (q_4, .inl (cA_5, 20, .inr (.inr (.inr (.inr g_54)))))] := by rw [e_g_54]; exact hD.sub [0, 1] (by decide) rfl
  have hP := hP.sub (ws' := [(h0, .inr (0, [.ref q_1, .ref q_2, .ref q_3, .ref q_4, .ref q_6, .int 0, .int 0, .int 0])), (q_4, .inl (cA_5, 20, .inr (.inr (.inr (.inr g_54)))))]) [0, 1] rfl
  refine lv_iinc (v := 12) (lv' := [(1, .int 12), (0, .ref h0)]) hx hb dX0_init_69 hl (k := 0) rfl (by decide) (by decide) rfl (fun ls hl => ?_)
  refine lv_goto (tgt := 50) hx hb dX0_init_72 (by decide) ?_
  refine lv_iload_n hx hb dX0_init_50 rfl (lv_at hl 0 rfl) ?_
  refine lv_bipush (v := 20) hx hb dX0_init_51 (by decide) ?_
  refine lv_icmp_ge (tgt := 75) hx hb dX0_init_53 (by decide) (fun c => absurd c (by decide)) (fun _ => ?_)
  refine lv_aload_n hx hb dX0_init_56 rfl (lv_at hl 1 rfl) ?_
  refine va_get (D := (dC, dI)) (ci := 0) (v := .ref q_4) (C := RX0) (T := TX0) (N := 8) hx hb hts h_in_X0 hown hK hP 0 rfl rfl 3 (by decide) (hts (.fieldLink RX0 23 "MatchTrees$Acts" "orderAhead" "[LMatchTrees$Order;") (by decide +kernel)) (fun _ h9 => h9) rfl dX0_init_57 ?_
  refine lv_iload_n hx hb dX0_init_60 rfl (lv_at hl 0 rfl) ?_
  refine va_new (ci := 5) (fs := [.null, .int 0, .int 0, .int 0]) (C := RX5) (T := TX5) (N := 4) hx hb hts h_in_X5 tyX5 tyX5_ok hown (hts (.classLink RX0 21 RX5) (by decide +kernel)) (hts (.instantiable RX5 4) (by decide +kernel)) (hts (.initialized RX5) (by decide +kernel)) hK hP hD hS hA rfl (fun j hj => by rcases (show j = 0 ∨ j = 1 ∨ j = 2 ∨ j = 3 by omega) with rfl | rfl | rfl | rfl <;> rfl) (Nat.le_of_ble_eq_true rfl) (Nat.le_of_ble_eq_true rfl) dX0_init_61 (fun q_55 H hP hD hS => ?_)
  refine W.widen (k := 30) (n := 3308) (Nat.le_of_ble_eq_true rfl) (Nat.le_of_ble_eq_true rfl) ?_
  have hP : va_P (dC, dI) vwCl [(h0, .inr (0, [.ref q_1, .ref q_2, .ref q_3, .ref q_4, .ref q_6, .int 0, .int 0, .int 0])), (q_4, .inl (cA_5, 20, .inr (.inr (.inr (.inr g_54))))), (q_55, .inr (5, [.null, .int 0, .int 0, .int 0]))] H := hP
  have hD : va_D A [(h0, .inr (0, [.ref q_1, .ref q_2, .ref q_3, .ref q_4, .ref q_6, .int 0, .int 0, .int 0])), (q_4, .inl (cA_5, 20, .inr (.inr (.inr (.inr g_54))))), (q_55, .inr (5, [.null, .int 0, .int 0, .int 0]))] := hD
  refine lv_dup hx hb dX0_init_64 rfl ?_
  have hPc := hP.sub (ws' := [(q_55, .inr (5, [.null, .int 0, .int 0, .int 0]))]) [2] rfl
  have hDc := hD.sub (ws' := [(q_55, .inr (5, [.null, .int 0, .int 0, .int 0]))]) [2] (by decide) rfl
  have hFc := va_free (wc := [(q_55, .inr (5, [.null, .int 0, .int 0, .int 0]))]) hD hS hA [2] rfl
  refine va_callv (va_runIN (As := []) (rest := [.ref q_55, .int 12, .ref q_4]) ⟨hx, hb, hml, hown, hts⟩ (c_X5_init l dC dI cI cJ q_55 H.size) ⟨(va_cnB 0 hts gX0_init_X5_init_n30 rfl rfl rfl hN.2.2.2.2.1 (hts (.initialized RX5) (by decide +kernel)) (by decide +kernel) ⟨Nat.le_of_ble_eq_true rfl, Nat.le_of_ble_eq_true rfl⟩), rfl, hts (.instanceMethod yX5_init) (by decide +kernel)⟩ ⟨mBlind, mGo hPc hK hDc hN⟩ rfl rfl hl.1 rfl (lv_room (Nat.le_of_ble_eq_true rfl)) dX0_init_65 ⟨Nat.le_of_ble_eq_true rfl, Nat.le_of_ble_eq_true rfl⟩) hS (fun q _ h => hFc q h) hFc (fun u t H1 locs ht hvm hw hB hz1 hk1 hS => ?_)
  obtain ⟨q_57, hP1, hD1⟩ := hB
  rw [ht] at hP1
  obtain ⟨hP, hD⟩ := va_join (wr := [(h0, .inr (0, [.ref q_1, .ref q_2, .ref q_3, .ref q_4, .ref q_6, .int 0, .int 0, .int 0])), (q_4, .inl (cA_5, 20, .inr (.inr (.inr (.inr g_54)))))]) (w1 := [(q_55, .inr (5, [.ref q_57, .int 0, .int 0, .int 0]))]) hP hD [2] [0, 1] rfl rfl (by decide) (by decide) hk1 hFc hP1 hD1
  generalize H1 = H at hP hS ⊢
  have hP : va_P (dC, dI) vwCl [(h0, .inr (0, [.ref q_1, .ref q_2, .ref q_3, .ref q_4, .ref q_6, .int 0, .int 0, .int 0])), (q_4, .inl (cA_5, 20, .inr (.inr (.inr (.inr g_54))))), (q_55, .inr (5, [.ref q_57, .int 0, .int 0, .int 0]))] H := hP
  have hD : va_D A [(h0, .inr (0, [.ref q_1, .ref q_2, .ref q_3, .ref q_4, .ref q_6, .int 0, .int 0, .int 0])), (q_4, .inl (cA_5, 20, .inr (.inr (.inr (.inr g_54))))), (q_55, .inr (5, [.ref q_57, .int 0, .int 0, .int 0]))] := hD
  refine W.widen (k := 31) (n := 3320) (Nat.le_of_ble_eq_true rfl) (Nat.le_of_ble_eq_true rfl) ?_
  refine va_astq (r := (RX5, TX5, 4)) hx hb hK_q_4 hP hD hS 1 2 2 5 rfl rfl rfl rfl (vpd (by decide)) dX0_init_68 (fun H locs hP hD hS => ?_)
  obtain ⟨g_58, e_g_58⟩ : ∃ y : Nat → Option Nat, y = va_up g_54 (12 : Int32).toNatClampNeg (some q_55) := ⟨_, rfl⟩
  have hP : va_P (dC, dI) vwCl [(h0, .inr (0, [.ref q_1, .ref q_2, .ref q_3, .ref q_4, .ref q_6, .int 0, .int 0, .int 0])), (q_4, .inl (cA_5, 20, .inr (.inr (.inr (.inr g_58))))), (q_55, .inr (5, [.ref q_57, .int 0, .int 0, .int 0]))] H := by rw [e_g_58]; exact hP
  have hD : va_D A [(h0, .inr (0, [.ref q_1, .ref q_2, .ref q_3, .ref q_4, .ref q_6, .int 0, .int 0, .int 0])), (q_4, .inl (cA_5, 20, .inr (.inr (.inr (.inr g_58)))))] := by rw [e_g_58]; exact hD.sub [0, 1] (by decide) rfl
  have hP := hP.sub (ws' := [(h0, .inr (0, [.ref q_1, .ref q_2, .ref q_3, .ref q_4, .ref q_6, .int 0, .int 0, .int 0])), (q_4, .inl (cA_5, 20, .inr (.inr (.inr (.inr g_58)))))]) [0, 1] rfl
  refine lv_iinc (v := 13) (lv' := [(1, .int 13), (0, .ref h0)]) hx hb dX0_init_69 hl (k := 0) rfl (by decide) (by decide) rfl (fun ls hl => ?_)
  refine lv_goto (tgt := 50) hx hb dX0_init_72 (by decide) ?_
  refine lv_iload_n hx hb dX0_init_50 rfl (lv_at hl 0 rfl) ?_
  refine lv_bipush (v := 20) hx hb dX0_init_51 (by decide) ?_
  refine lv_icmp_ge (tgt := 75) hx hb dX0_init_53 (by decide) (fun c => absurd c (by decide)) (fun _ => ?_)
  refine lv_aload_n hx hb dX0_init_56 rfl (lv_at hl 1 rfl) ?_
  refine va_get (D := (dC, dI)) (ci := 0) (v := .ref q_4) (C := RX0) (T := TX0) (N := 8) hx hb hts h_in_X0 hown hK hP 0 rfl rfl 3 (by decide) (hts (.fieldLink RX0 23 "MatchTrees$Acts" "orderAhead" "[LMatchTrees$Order;") (by decide +kernel)) (fun _ h9 => h9) rfl dX0_init_57 ?_
  refine lv_iload_n hx hb dX0_init_60 rfl (lv_at hl 0 rfl) ?_
  refine va_new (ci := 5) (fs := [.null, .int 0, .int 0, .int 0]) (C := RX5) (T := TX5) (N := 4) hx hb hts h_in_X5 tyX5 tyX5_ok hown (hts (.classLink RX0 21 RX5) (by decide +kernel)) (hts (.instantiable RX5 4) (by decide +kernel)) (hts (.initialized RX5) (by decide +kernel)) hK hP hD hS hA rfl (fun j hj => by rcases (show j = 0 ∨ j = 1 ∨ j = 2 ∨ j = 3 by omega) with rfl | rfl | rfl | rfl <;> rfl) (Nat.le_of_ble_eq_true rfl) (Nat.le_of_ble_eq_true rfl) dX0_init_61 (fun q_59 H hP hD hS => ?_)
  refine W.widen (k := 32) (n := 3324) (Nat.le_of_ble_eq_true rfl) (Nat.le_of_ble_eq_true rfl) ?_
  have hP : va_P (dC, dI) vwCl [(h0, .inr (0, [.ref q_1, .ref q_2, .ref q_3, .ref q_4, .ref q_6, .int 0, .int 0, .int 0])), (q_4, .inl (cA_5, 20, .inr (.inr (.inr (.inr g_58))))), (q_59, .inr (5, [.null, .int 0, .int 0, .int 0]))] H := hP
  have hD : va_D A [(h0, .inr (0, [.ref q_1, .ref q_2, .ref q_3, .ref q_4, .ref q_6, .int 0, .int 0, .int 0])), (q_4, .inl (cA_5, 20, .inr (.inr (.inr (.inr g_58))))), (q_59, .inr (5, [.null, .int 0, .int 0, .int 0]))] := hD
  refine lv_dup hx hb dX0_init_64 rfl ?_
  have hPc := hP.sub (ws' := [(q_59, .inr (5, [.null, .int 0, .int 0, .int 0]))]) [2] rfl
  have hDc := hD.sub (ws' := [(q_59, .inr (5, [.null, .int 0, .int 0, .int 0]))]) [2] (by decide) rfl
  have hFc := va_free (wc := [(q_59, .inr (5, [.null, .int 0, .int 0, .int 0]))]) hD hS hA [2] rfl
  refine va_callv (va_runIN (As := []) (rest := [.ref q_59, .int 13, .ref q_4]) ⟨hx, hb, hml, hown, hts⟩ (c_X5_init l dC dI cI cJ q_59 H.size) ⟨(va_cnB 0 hts gX0_init_X5_init_n30 rfl rfl rfl hN.2.2.2.2.1 (hts (.initialized RX5) (by decide +kernel)) (by decide +kernel) ⟨Nat.le_of_ble_eq_true rfl, Nat.le_of_ble_eq_true rfl⟩), rfl, hts (.instanceMethod yX5_init) (by decide +kernel)⟩ ⟨mBlind, mGo hPc hK hDc hN⟩ rfl rfl hl.1 rfl (lv_room (Nat.le_of_ble_eq_true rfl)) dX0_init_65 ⟨Nat.le_of_ble_eq_true rfl, Nat.le_of_ble_eq_true rfl⟩) hS (fun q _ h => hFc q h) hFc (fun u t H1 locs ht hvm hw hB hz1 hk1 hS => ?_)
  obtain ⟨q_61, hP1, hD1⟩ := hB
  rw [ht] at hP1
  obtain ⟨hP, hD⟩ := va_join (wr := [(h0, .inr (0, [.ref q_1, .ref q_2, .ref q_3, .ref q_4, .ref q_6, .int 0, .int 0, .int 0])), (q_4, .inl (cA_5, 20, .inr (.inr (.inr (.inr g_58)))))]) (w1 := [(q_59, .inr (5, [.ref q_61, .int 0, .int 0, .int 0]))]) hP hD [2] [0, 1] rfl rfl (by decide) (by decide) hk1 hFc hP1 hD1
  generalize H1 = H at hP hS ⊢
  have hP : va_P (dC, dI) vwCl [(h0, .inr (0, [.ref q_1, .ref q_2, .ref q_3, .ref q_4, .ref q_6, .int 0, .int 0, .int 0])), (q_4, .inl (cA_5, 20, .inr (.inr (.inr (.inr g_58))))), (q_59, .inr (5, [.ref q_61, .int 0, .int 0, .int 0]))] H := hP
  have hD : va_D A [(h0, .inr (0, [.ref q_1, .ref q_2, .ref q_3, .ref q_4, .ref q_6, .int 0, .int 0, .int 0])), (q_4, .inl (cA_5, 20, .inr (.inr (.inr (.inr g_58))))), (q_59, .inr (5, [.ref q_61, .int 0, .int 0, .int 0]))] := hD
  refine W.widen (k := 33) (n := 3336) (Nat.le_of_ble_eq_true rfl) (Nat.le_of_ble_eq_true rfl) ?_
  refine va_astq (r := (RX5, TX5, 4)) hx hb hK_q_4 hP hD hS 1 2 2 5 rfl rfl rfl rfl (vpd (by decide)) dX0_init_68 (fun H locs hP hD hS => ?_)
  obtain ⟨g_62, e_g_62⟩ : ∃ y : Nat → Option Nat, y = va_up g_58 (13 : Int32).toNatClampNeg (some q_59) := ⟨_, rfl⟩
  have hP : va_P (dC, dI) vwCl [(h0, .inr (0, [.ref q_1, .ref q_2, .ref q_3, .ref q_4, .ref q_6, .int 0, .int 0, .int 0])), (q_4, .inl (cA_5, 20, .inr (.inr (.inr (.inr g_62))))), (q_59, .inr (5, [.ref q_61, .int 0, .int 0, .int 0]))] H := by rw [e_g_62]; exact hP
  have hD : va_D A [(h0, .inr (0, [.ref q_1, .ref q_2, .ref q_3, .ref q_4, .ref q_6, .int 0, .int 0, .int 0])), (q_4, .inl (cA_5, 20, .inr (.inr (.inr (.inr g_62)))))] := by rw [e_g_62]; exact hD.sub [0, 1] (by decide) rfl
  have hP := hP.sub (ws' := [(h0, .inr (0, [.ref q_1, .ref q_2, .ref q_3, .ref q_4, .ref q_6, .int 0, .int 0, .int 0])), (q_4, .inl (cA_5, 20, .inr (.inr (.inr (.inr g_62)))))]) [0, 1] rfl
  refine lv_iinc (v := 14) (lv' := [(1, .int 14), (0, .ref h0)]) hx hb dX0_init_69 hl (k := 0) rfl (by decide) (by decide) rfl (fun ls hl => ?_)
  refine lv_goto (tgt := 50) hx hb dX0_init_72 (by decide) ?_
  refine lv_iload_n hx hb dX0_init_50 rfl (lv_at hl 0 rfl) ?_
  refine lv_bipush (v := 20) hx hb dX0_init_51 (by decide) ?_
  refine lv_icmp_ge (tgt := 75) hx hb dX0_init_53 (by decide) (fun c => absurd c (by decide)) (fun _ => ?_)
  refine lv_aload_n hx hb dX0_init_56 rfl (lv_at hl 1 rfl) ?_
  refine va_get (D := (dC, dI)) (ci := 0) (v := .ref q_4) (C := RX0) (T := TX0) (N := 8) hx hb hts h_in_X0 hown hK hP 0 rfl rfl 3 (by decide) (hts (.fieldLink RX0 23 "MatchTrees$Acts" "orderAhead" "[LMatchTrees$Order;") (by decide +kernel)) (fun _ h9 => h9) rfl dX0_init_57 ?_
  refine lv_iload_n hx hb dX0_init_60 rfl (lv_at hl 0 rfl) ?_
  refine va_new (ci := 5) (fs := [.null, .int 0, .int 0, .int 0]) (C := RX5) (T := TX5) (N := 4) hx hb hts h_in_X5 tyX5 tyX5_ok hown (hts (.classLink RX0 21 RX5) (by decide +kernel)) (hts (.instantiable RX5 4) (by decide +kernel)) (hts (.initialized RX5) (by decide +kernel)) hK hP hD hS hA rfl (fun j hj => by rcases (show j = 0 ∨ j = 1 ∨ j = 2 ∨ j = 3 by omega) with rfl | rfl | rfl | rfl <;> rfl) (Nat.le_of_ble_eq_true rfl) (Nat.le_of_ble_eq_true rfl) dX0_init_61 (fun q_63 H hP hD hS => ?_)
  refine W.widen (k := 34) (n := 3340) (Nat.le_of_ble_eq_true rfl) (Nat.le_of_ble_eq_true rfl) ?_
  have hP : va_P (dC, dI) vwCl [(h0, .inr (0, [.ref q_1, .ref q_2, .ref q_3, .ref q_4, .ref q_6, .int 0, .int 0, .int 0])), (q_4, .inl (cA_5, 20, .inr (.inr (.inr (.inr g_62))))), (q_63, .inr (5, [.null, .int 0, .int 0, .int 0]))] H := hP
  have hD : va_D A [(h0, .inr (0, [.ref q_1, .ref q_2, .ref q_3, .ref q_4, .ref q_6, .int 0, .int 0, .int 0])), (q_4, .inl (cA_5, 20, .inr (.inr (.inr (.inr g_62))))), (q_63, .inr (5, [.null, .int 0, .int 0, .int 0]))] := hD
  refine lv_dup hx hb dX0_init_64 rfl ?_
  have hPc := hP.sub (ws' := [(q_63, .inr (5, [.null, .int 0, .int 0, .int 0]))]) [2] rfl
  have hDc := hD.sub (ws' := [(q_63, .inr (5, [.null, .int 0, .int 0, .int 0]))]) [2] (by decide) rfl
  have hFc := va_free (wc := [(q_63, .inr (5, [.null, .int 0, .int 0, .int 0]))]) hD hS hA [2] rfl
  refine va_callv (va_runIN (As := []) (rest := [.ref q_63, .int 14, .ref q_4]) ⟨hx, hb, hml, hown, hts⟩ (c_X5_init l dC dI cI cJ q_63 H.size) ⟨(va_cnB 0 hts gX0_init_X5_init_n30 rfl rfl rfl hN.2.2.2.2.1 (hts (.initialized RX5) (by decide +kernel)) (by decide +kernel) ⟨Nat.le_of_ble_eq_true rfl, Nat.le_of_ble_eq_true rfl⟩), rfl, hts (.instanceMethod yX5_init) (by decide +kernel)⟩ ⟨mBlind, mGo hPc hK hDc hN⟩ rfl rfl hl.1 rfl (lv_room (Nat.le_of_ble_eq_true rfl)) dX0_init_65 ⟨Nat.le_of_ble_eq_true rfl, Nat.le_of_ble_eq_true rfl⟩) hS (fun q _ h => hFc q h) hFc (fun u t H1 locs ht hvm hw hB hz1 hk1 hS => ?_)
  obtain ⟨q_65, hP1, hD1⟩ := hB
  rw [ht] at hP1
  obtain ⟨hP, hD⟩ := va_join (wr := [(h0, .inr (0, [.ref q_1, .ref q_2, .ref q_3, .ref q_4, .ref q_6, .int 0, .int 0, .int 0])), (q_4, .inl (cA_5, 20, .inr (.inr (.inr (.inr g_62)))))]) (w1 := [(q_63, .inr (5, [.ref q_65, .int 0, .int 0, .int 0]))]) hP hD [2] [0, 1] rfl rfl (by decide) (by decide) hk1 hFc hP1 hD1
  generalize H1 = H at hP hS ⊢
  have hP : va_P (dC, dI) vwCl [(h0, .inr (0, [.ref q_1, .ref q_2, .ref q_3, .ref q_4, .ref q_6, .int 0, .int 0, .int 0])), (q_4, .inl (cA_5, 20, .inr (.inr (.inr (.inr g_62))))), (q_63, .inr (5, [.ref q_65, .int 0, .int 0, .int 0]))] H := hP
  have hD : va_D A [(h0, .inr (0, [.ref q_1, .ref q_2, .ref q_3, .ref q_4, .ref q_6, .int 0, .int 0, .int 0])), (q_4, .inl (cA_5, 20, .inr (.inr (.inr (.inr g_62))))), (q_63, .inr (5, [.ref q_65, .int 0, .int 0, .int 0]))] := hD
  refine W.widen (k := 35) (n := 3352) (Nat.le_of_ble_eq_true rfl) (Nat.le_of_ble_eq_true rfl) ?_
  refine va_astq (r := (RX5, TX5, 4)) hx hb hK_q_4 hP hD hS 1 2 2 5 rfl rfl rfl rfl (vpd (by decide)) dX0_init_68 (fun H locs hP hD hS => ?_)
  obtain ⟨g_66, e_g_66⟩ : ∃ y : Nat → Option Nat, y = va_up g_62 (14 : Int32).toNatClampNeg (some q_63) := ⟨_, rfl⟩
  have hP : va_P (dC, dI) vwCl [(h0, .inr (0, [.ref q_1, .ref q_2, .ref q_3, .ref q_4, .ref q_6, .int 0, .int 0, .int 0])), (q_4, .inl (cA_5, 20, .inr (.inr (.inr (.inr g_66))))), (q_63, .inr (5, [.ref q_65, .int 0, .int 0, .int 0]))] H := by rw [e_g_66]; exact hP
  have hD : va_D A [(h0, .inr (0, [.ref q_1, .ref q_2, .ref q_3, .ref q_4, .ref q_6, .int 0, .int 0, .int 0])), (q_4, .inl (cA_5, 20, .inr (.inr (.inr (.inr g_66)))))] := by rw [e_g_66]; exact hD.sub [0, 1] (by decide) rfl
  have hP := hP.sub (ws' := [(h0, .inr (0, [.ref q_1, .ref q_2, .ref q_3, .ref q_4, .ref q_6, .int 0, .int 0, .int 0])), (q_4, .inl (cA_5, 20, .inr (.inr (.inr (.inr g_66)))))]) [0, 1] rfl
  refine lv_iinc (v := 15) (lv' := [(1, .int 15), (0, .ref h0)]) hx hb dX0_init_69 hl (k := 0) rfl (by decide) (by decide) rfl (fun ls hl => ?_)
  refine lv_goto (tgt := 50) hx hb dX0_init_72 (by decide) ?_
  refine lv_iload_n hx hb dX0_init_50 rfl (lv_at hl 0 rfl) ?_
  refine lv_bipush (v := 20) hx hb dX0_init_51 (by decide) ?_
  refine lv_icmp_ge (tgt := 75) hx hb dX0_init_53 (by decide) (fun c => absurd c (by decide)) (fun _ => ?_)
  refine lv_aload_n hx hb dX0_init_56 rfl (lv_at hl 1 rfl) ?_
  refine va_get (D := (dC, dI)) (ci := 0) (v := .ref q_4) (C := RX0) (T := TX0) (N := 8) hx hb hts h_in_X0 hown hK hP 0 rfl rfl 3 (by decide) (hts (.fieldLink RX0 23 "MatchTrees$Acts" "orderAhead" "[LMatchTrees$Order;") (by decide +kernel)) (fun _ h9 => h9) rfl dX0_init_57 ?_
  refine lv_iload_n hx hb dX0_init_60 rfl (lv_at hl 0 rfl) ?_
  refine va_new (ci := 5) (fs := [.null, .int 0, .int 0, .int 0]) (C := RX5) (T := TX5) (N := 4) hx hb hts h_in_X5 tyX5 tyX5_ok hown (hts (.classLink RX0 21 RX5) (by decide +kernel)) (hts (.instantiable RX5 4) (by decide +kernel)) (hts (.initialized RX5) (by decide +kernel)) hK hP hD hS hA rfl (fun j hj => by rcases (show j = 0 ∨ j = 1 ∨ j = 2 ∨ j = 3 by omega) with rfl | rfl | rfl | rfl <;> rfl) (Nat.le_of_ble_eq_true rfl) (Nat.le_of_ble_eq_true rfl) dX0_init_61 (fun q_67 H hP hD hS => ?_)
  refine W.widen (k := 36) (n := 3356) (Nat.le_of_ble_eq_true rfl) (Nat.le_of_ble_eq_true rfl) ?_
  have hP : va_P (dC, dI) vwCl [(h0, .inr (0, [.ref q_1, .ref q_2, .ref q_3, .ref q_4, .ref q_6, .int 0, .int 0, .int 0])), (q_4, .inl (cA_5, 20, .inr (.inr (.inr (.inr g_66))))), (q_67, .inr (5, [.null, .int 0, .int 0, .int 0]))] H := hP
  have hD : va_D A [(h0, .inr (0, [.ref q_1, .ref q_2, .ref q_3, .ref q_4, .ref q_6, .int 0, .int 0, .int 0])), (q_4, .inl (cA_5, 20, .inr (.inr (.inr (.inr g_66))))), (q_67, .inr (5, [.null, .int 0, .int 0, .int 0]))] := hD
  refine lv_dup hx hb dX0_init_64 rfl ?_
  have hPc := hP.sub (ws' := [(q_67, .inr (5, [.null, .int 0, .int 0, .int 0]))]) [2] rfl
  have hDc := hD.sub (ws' := [(q_67, .inr (5, [.null, .int 0, .int 0, .int 0]))]) [2] (by decide) rfl
  have hFc := va_free (wc := [(q_67, .inr (5, [.null, .int 0, .int 0, .int 0]))]) hD hS hA [2] rfl
  refine va_callv (va_runIN (As := []) (rest := [.ref q_67, .int 15, .ref q_4]) ⟨hx, hb, hml, hown, hts⟩ (c_X5_init l dC dI cI cJ q_67 H.size) ⟨(va_cnB 0 hts gX0_init_X5_init_n30 rfl rfl rfl hN.2.2.2.2.1 (hts (.initialized RX5) (by decide +kernel)) (by decide +kernel) ⟨Nat.le_of_ble_eq_true rfl, Nat.le_of_ble_eq_true rfl⟩), rfl, hts (.instanceMethod yX5_init) (by decide +kernel)⟩ ⟨mBlind, mGo hPc hK hDc hN⟩ rfl rfl hl.1 rfl (lv_room (Nat.le_of_ble_eq_true rfl)) dX0_init_65 ⟨Nat.le_of_ble_eq_true rfl, Nat.le_of_ble_eq_true rfl⟩) hS (fun q _ h => hFc q h) hFc (fun u t H1 locs ht hvm hw hB hz1 hk1 hS => ?_)
  obtain ⟨q_69, hP1, hD1⟩ := hB
  rw [ht] at hP1
  obtain ⟨hP, hD⟩ := va_join (wr := [(h0, .inr (0, [.ref q_1, .ref q_2, .ref q_3, .ref q_4, .ref q_6, .int 0, .int 0, .int 0])), (q_4, .inl (cA_5, 20, .inr (.inr (.inr (.inr g_66)))))]) (w1 := [(q_67, .inr (5, [.ref q_69, .int 0, .int 0, .int 0]))]) hP hD [2] [0, 1] rfl rfl (by decide) (by decide) hk1 hFc hP1 hD1
  generalize H1 = H at hP hS ⊢
  have hP : va_P (dC, dI) vwCl [(h0, .inr (0, [.ref q_1, .ref q_2, .ref q_3, .ref q_4, .ref q_6, .int 0, .int 0, .int 0])), (q_4, .inl (cA_5, 20, .inr (.inr (.inr (.inr g_66))))), (q_67, .inr (5, [.ref q_69, .int 0, .int 0, .int 0]))] H := hP
  have hD : va_D A [(h0, .inr (0, [.ref q_1, .ref q_2, .ref q_3, .ref q_4, .ref q_6, .int 0, .int 0, .int 0])), (q_4, .inl (cA_5, 20, .inr (.inr (.inr (.inr g_66))))), (q_67, .inr (5, [.ref q_69, .int 0, .int 0, .int 0]))] := hD
  refine W.widen (k := 37) (n := 3368) (Nat.le_of_ble_eq_true rfl) (Nat.le_of_ble_eq_true rfl) ?_
  refine va_astq (r := (RX5, TX5, 4)) hx hb hK_q_4 hP hD hS 1 2 2 5 rfl rfl rfl rfl (vpd (by decide)) dX0_init_68 (fun H locs hP hD hS => ?_)
  obtain ⟨g_70, e_g_70⟩ : ∃ y : Nat → Option Nat, y = va_up g_66 (15 : Int32).toNatClampNeg (some q_67) := ⟨_, rfl⟩
  have hP : va_P (dC, dI) vwCl [(h0, .inr (0, [.ref q_1, .ref q_2, .ref q_3, .ref q_4, .ref q_6, .int 0, .int 0, .int 0])), (q_4, .inl (cA_5, 20, .inr (.inr (.inr (.inr g_70))))), (q_67, .inr (5, [.ref q_69, .int 0, .int 0, .int 0]))] H := by rw [e_g_70]; exact hP
  have hD : va_D A [(h0, .inr (0, [.ref q_1, .ref q_2, .ref q_3, .ref q_4, .ref q_6, .int 0, .int 0, .int 0])), (q_4, .inl (cA_5, 20, .inr (.inr (.inr (.inr g_70)))))] := by rw [e_g_70]; exact hD.sub [0, 1] (by decide) rfl
  have hP := hP.sub (ws' := [(h0, .inr (0, [.ref q_1, .ref q_2, .ref q_3, .ref q_4, .ref q_6, .int 0, .int 0, .int 0])), (q_4, .inl (cA_5, 20, .inr (.inr (.inr (.inr g_70)))))]) [0, 1] rfl
  refine lv_iinc (v := 16) (lv' := [(1, .int 16), (0, .ref h0)]) hx hb dX0_init_69 hl (k := 0) rfl (by decide) (by decide) rfl (fun ls hl => ?_)
  refine lv_goto (tgt := 50) hx hb dX0_init_72 (by decide) ?_
  refine lv_iload_n hx hb dX0_init_50 rfl (lv_at hl 0 rfl) ?_
  refine lv_bipush (v := 20) hx hb dX0_init_51 (by decide) ?_
  refine lv_icmp_ge (tgt := 75) hx hb dX0_init_53 (by decide) (fun c => absurd c (by decide)) (fun _ => ?_)
  refine lv_aload_n hx hb dX0_init_56 rfl (lv_at hl 1 rfl) ?_
  refine va_get (D := (dC, dI)) (ci := 0) (v := .ref q_4) (C := RX0) (T := TX0) (N := 8) hx hb hts h_in_X0 hown hK hP 0 rfl rfl 3 (by decide) (hts (.fieldLink RX0 23 "MatchTrees$Acts" "orderAhead" "[LMatchTrees$Order;") (by decide +kernel)) (fun _ h9 => h9) rfl dX0_init_57 ?_
  refine lv_iload_n hx hb dX0_init_60 rfl (lv_at hl 0 rfl) ?_
  refine va_new (ci := 5) (fs := [.null, .int 0, .int 0, .int 0]) (C := RX5) (T := TX5) (N := 4) hx hb hts h_in_X5 tyX5 tyX5_ok hown (hts (.classLink RX0 21 RX5) (by decide +kernel)) (hts (.instantiable RX5 4) (by decide +kernel)) (hts (.initialized RX5) (by decide +kernel)) hK hP hD hS hA rfl (fun j hj => by rcases (show j = 0 ∨ j = 1 ∨ j = 2 ∨ j = 3 by omega) with rfl | rfl | rfl | rfl <;> rfl) (Nat.le_of_ble_eq_true rfl) (Nat.le_of_ble_eq_true rfl) dX0_init_61 (fun q_71 H hP hD hS => ?_)
  refine W.widen (k := 38) (n := 3372) (Nat.le_of_ble_eq_true rfl) (Nat.le_of_ble_eq_true rfl) ?_
  have hP : va_P (dC, dI) vwCl [(h0, .inr (0, [.ref q_1, .ref q_2, .ref q_3, .ref q_4, .ref q_6, .int 0, .int 0, .int 0])), (q_4, .inl (cA_5, 20, .inr (.inr (.inr (.inr g_70))))), (q_71, .inr (5, [.null, .int 0, .int 0, .int 0]))] H := hP
  have hD : va_D A [(h0, .inr (0, [.ref q_1, .ref q_2, .ref q_3, .ref q_4, .ref q_6, .int 0, .int 0, .int 0])), (q_4, .inl (cA_5, 20, .inr (.inr (.inr (.inr g_70))))), (q_71, .inr (5, [.null, .int 0, .int 0, .int 0]))] := hD
  refine lv_dup hx hb dX0_init_64 rfl ?_
  have hPc := hP.sub (ws' := [(q_71, .inr (5, [.null, .int 0, .int 0, .int 0]))]) [2] rfl
  have hDc := hD.sub (ws' := [(q_71, .inr (5, [.null, .int 0, .int 0, .int 0]))]) [2] (by decide) rfl
  have hFc := va_free (wc := [(q_71, .inr (5, [.null, .int 0, .int 0, .int 0]))]) hD hS hA [2] rfl
  refine va_callv (va_runIN (As := []) (rest := [.ref q_71, .int 16, .ref q_4]) ⟨hx, hb, hml, hown, hts⟩ (c_X5_init l dC dI cI cJ q_71 H.size) ⟨(va_cnB 0 hts gX0_init_X5_init_n30 rfl rfl rfl hN.2.2.2.2.1 (hts (.initialized RX5) (by decide +kernel)) (by decide +kernel) ⟨Nat.le_of_ble_eq_true rfl, Nat.le_of_ble_eq_true rfl⟩), rfl, hts (.instanceMethod yX5_init) (by decide +kernel)⟩ ⟨mBlind, mGo hPc hK hDc hN⟩ rfl rfl hl.1 rfl (lv_room (Nat.le_of_ble_eq_true rfl)) dX0_init_65 ⟨Nat.le_of_ble_eq_true rfl, Nat.le_of_ble_eq_true rfl⟩) hS (fun q _ h => hFc q h) hFc (fun u t H1 locs ht hvm hw hB hz1 hk1 hS => ?_)
  obtain ⟨q_73, hP1, hD1⟩ := hB
  rw [ht] at hP1
  obtain ⟨hP, hD⟩ := va_join (wr := [(h0, .inr (0, [.ref q_1, .ref q_2, .ref q_3, .ref q_4, .ref q_6, .int 0, .int 0, .int 0])), (q_4, .inl (cA_5, 20, .inr (.inr (.inr (.inr g_70)))))]) (w1 := [(q_71, .inr (5, [.ref q_73, .int 0, .int 0, .int 0]))]) hP hD [2] [0, 1] rfl rfl (by decide) (by decide) hk1 hFc hP1 hD1
  generalize H1 = H at hP hS ⊢
  have hP : va_P (dC, dI) vwCl [(h0, .inr (0, [.ref q_1, .ref q_2, .ref q_3, .ref q_4, .ref q_6, .int 0, .int 0, .int 0])), (q_4, .inl (cA_5, 20, .inr (.inr (.inr (.inr g_70))))), (q_71, .inr (5, [.ref q_73, .int 0, .int 0, .int 0]))] H := hP
  have hD : va_D A [(h0, .inr (0, [.ref q_1, .ref q_2, .ref q_3, .ref q_4, .ref q_6, .int 0, .int 0, .int 0])), (q_4, .inl (cA_5, 20, .inr (.inr (.inr (.inr g_70))))), (q_71, .inr (5, [.ref q_73, .int 0, .int 0, .int 0]))] := hD
  refine W.widen (k := 39) (n := 3384) (Nat.le_of_ble_eq_true rfl) (Nat.le_of_ble_eq_true rfl) ?_
  refine va_astq (r := (RX5, TX5, 4)) hx hb hK_q_4 hP hD hS 1 2 2 5 rfl rfl rfl rfl (vpd (by decide)) dX0_init_68 (fun H locs hP hD hS => ?_)
  obtain ⟨g_74, e_g_74⟩ : ∃ y : Nat → Option Nat, y = va_up g_70 (16 : Int32).toNatClampNeg (some q_71) := ⟨_, rfl⟩
  have hP : va_P (dC, dI) vwCl [(h0, .inr (0, [.ref q_1, .ref q_2, .ref q_3, .ref q_4, .ref q_6, .int 0, .int 0, .int 0])), (q_4, .inl (cA_5, 20, .inr (.inr (.inr (.inr g_74))))), (q_71, .inr (5, [.ref q_73, .int 0, .int 0, .int 0]))] H := by rw [e_g_74]; exact hP
  have hD : va_D A [(h0, .inr (0, [.ref q_1, .ref q_2, .ref q_3, .ref q_4, .ref q_6, .int 0, .int 0, .int 0])), (q_4, .inl (cA_5, 20, .inr (.inr (.inr (.inr g_74)))))] := by rw [e_g_74]; exact hD.sub [0, 1] (by decide) rfl
  have hP := hP.sub (ws' := [(h0, .inr (0, [.ref q_1, .ref q_2, .ref q_3, .ref q_4, .ref q_6, .int 0, .int 0, .int 0])), (q_4, .inl (cA_5, 20, .inr (.inr (.inr (.inr g_74)))))]) [0, 1] rfl
  refine lv_iinc (v := 17) (lv' := [(1, .int 17), (0, .ref h0)]) hx hb dX0_init_69 hl (k := 0) rfl (by decide) (by decide) rfl (fun ls hl => ?_)
  refine lv_goto (tgt := 50) hx hb dX0_init_72 (by decide) ?_
  refine lv_iload_n hx hb dX0_init_50 rfl (lv_at hl 0 rfl) ?_
  refine lv_bipush (v := 20) hx hb dX0_init_51 (by decide) ?_
  refine lv_icmp_ge (tgt := 75) hx hb dX0_init_53 (by decide) (fun c => absurd c (by decide)) (fun _ => ?_)
  refine lv_aload_n hx hb dX0_init_56 rfl (lv_at hl 1 rfl) ?_
  refine va_get (D := (dC, dI)) (ci := 0) (v := .ref q_4) (C := RX0) (T := TX0) (N := 8) hx hb hts h_in_X0 hown hK hP 0 rfl rfl 3 (by decide) (hts (.fieldLink RX0 23 "MatchTrees$Acts" "orderAhead" "[LMatchTrees$Order;") (by decide +kernel)) (fun _ h9 => h9) rfl dX0_init_57 ?_
  refine lv_iload_n hx hb dX0_init_60 rfl (lv_at hl 0 rfl) ?_
  refine va_new (ci := 5) (fs := [.null, .int 0, .int 0, .int 0]) (C := RX5) (T := TX5) (N := 4) hx hb hts h_in_X5 tyX5 tyX5_ok hown (hts (.classLink RX0 21 RX5) (by decide +kernel)) (hts (.instantiable RX5 4) (by decide +kernel)) (hts (.initialized RX5) (by decide +kernel)) hK hP hD hS hA rfl (fun j hj => by rcases (show j = 0 ∨ j = 1 ∨ j = 2 ∨ j = 3 by omega) with rfl | rfl | rfl | rfl <;> rfl) (Nat.le_of_ble_eq_true rfl) (Nat.le_of_ble_eq_true rfl) dX0_init_61 (fun q_75 H hP hD hS => ?_)
  refine W.widen (k := 40) (n := 3388) (Nat.le_of_ble_eq_true rfl) (Nat.le_of_ble_eq_true rfl) ?_
  have hP : va_P (dC, dI) vwCl [(h0, .inr (0, [.ref q_1, .ref q_2, .ref q_3, .ref q_4, .ref q_6, .int 0, .int 0, .int 0])), (q_4, .inl (cA_5, 20, .inr (.inr (.inr (.inr g_74))))), (q_75, .inr (5, [.null, .int 0, .int 0, .int 0]))] H := hP
  have hD : va_D A [(h0, .inr (0, [.ref q_1, .ref q_2, .ref q_3, .ref q_4, .ref q_6, .int 0, .int 0, .int 0])), (q_4, .inl (cA_5, 20, .inr (.inr (.inr (.inr g_74))))), (q_75, .inr (5, [.null, .int 0, .int 0, .int 0]))] := hD
  refine lv_dup hx hb dX0_init_64 rfl ?_
  have hPc := hP.sub (ws' := [(q_75, .inr (5, [.null, .int 0, .int 0, .int 0]))]) [2] rfl
  have hDc := hD.sub (ws' := [(q_75, .inr (5, [.null, .int 0, .int 0, .int 0]))]) [2] (by decide) rfl
  have hFc := va_free (wc := [(q_75, .inr (5, [.null, .int 0, .int 0, .int 0]))]) hD hS hA [2] rfl
  refine va_callv (va_runIN (As := []) (rest := [.ref q_75, .int 17, .ref q_4]) ⟨hx, hb, hml, hown, hts⟩ (c_X5_init l dC dI cI cJ q_75 H.size) ⟨(va_cnB 0 hts gX0_init_X5_init_n30 rfl rfl rfl hN.2.2.2.2.1 (hts (.initialized RX5) (by decide +kernel)) (by decide +kernel) ⟨Nat.le_of_ble_eq_true rfl, Nat.le_of_ble_eq_true rfl⟩), rfl, hts (.instanceMethod yX5_init) (by decide +kernel)⟩ ⟨mBlind, mGo hPc hK hDc hN⟩ rfl rfl hl.1 rfl (lv_room (Nat.le_of_ble_eq_true rfl)) dX0_init_65 ⟨Nat.le_of_ble_eq_true rfl, Nat.le_of_ble_eq_true rfl⟩) hS (fun q _ h => hFc q h) hFc (fun u t H1 locs ht hvm hw hB hz1 hk1 hS => ?_)
  obtain ⟨q_77, hP1, hD1⟩ := hB
  rw [ht] at hP1
  obtain ⟨hP, hD⟩ := va_join (wr := [(h0, .inr (0, [.ref q_1, .ref q_2, .ref q_3, .ref q_4, .ref q_6, .int 0, .int 0, .int 0])), (q_4, .inl (cA_5, 20, .inr (.inr (.inr (.inr g_74)))))]) (w1 := [(q_75, .inr (5, [.ref q_77, .int 0, .int 0, .int 0]))]) hP hD [2] [0, 1] rfl rfl (by decide) (by decide) hk1 hFc hP1 hD1
  generalize H1 = H at hP hS ⊢
  have hP : va_P (dC, dI) vwCl [(h0, .inr (0, [.ref q_1, .ref q_2, .ref q_3, .ref q_4, .ref q_6, .int 0, .int 0, .int 0])), (q_4, .inl (cA_5, 20, .inr (.inr (.inr (.inr g_74))))), (q_75, .inr (5, [.ref q_77, .int 0, .int 0, .int 0]))] H := hP
  have hD : va_D A [(h0, .inr (0, [.ref q_1, .ref q_2, .ref q_3, .ref q_4, .ref q_6, .int 0, .int 0, .int 0])), (q_4, .inl (cA_5, 20, .inr (.inr (.inr (.inr g_74))))), (q_75, .inr (5, [.ref q_77, .int 0, .int 0, .int 0]))] := hD
  refine W.widen (k := 41) (n := 3400) (Nat.le_of_ble_eq_true rfl) (Nat.le_of_ble_eq_true rfl) ?_
  refine va_astq (r := (RX5, TX5, 4)) hx hb hK_q_4 hP hD hS 1 2 2 5 rfl rfl rfl rfl (vpd (by decide)) dX0_init_68 (fun H locs hP hD hS => ?_)
  obtain ⟨g_78, e_g_78⟩ : ∃ y : Nat → Option Nat, y = va_up g_74 (17 : Int32).toNatClampNeg (some q_75) := ⟨_, rfl⟩
  have hP : va_P (dC, dI) vwCl [(h0, .inr (0, [.ref q_1, .ref q_2, .ref q_3, .ref q_4, .ref q_6, .int 0, .int 0, .int 0])), (q_4, .inl (cA_5, 20, .inr (.inr (.inr (.inr g_78))))), (q_75, .inr (5, [.ref q_77, .int 0, .int 0, .int 0]))] H := by rw [e_g_78]; exact hP
  have hD : va_D A [(h0, .inr (0, [.ref q_1, .ref q_2, .ref q_3, .ref q_4, .ref q_6, .int 0, .int 0, .int 0])), (q_4, .inl (cA_5, 20, .inr (.inr (.inr (.inr g_78)))))] := by rw [e_g_78]; exact hD.sub [0, 1] (by decide) rfl
  have hP := hP.sub (ws' := [(h0, .inr (0, [.ref q_1, .ref q_2, .ref q_3, .ref q_4, .ref q_6, .int 0, .int 0, .int 0])), (q_4, .inl (cA_5, 20, .inr (.inr (.inr (.inr g_78)))))]) [0, 1] rfl
  refine lv_iinc (v := 18) (lv' := [(1, .int 18), (0, .ref h0)]) hx hb dX0_init_69 hl (k := 0) rfl (by decide) (by decide) rfl (fun ls hl => ?_)
  refine lv_goto (tgt := 50) hx hb dX0_init_72 (by decide) ?_
  refine lv_iload_n hx hb dX0_init_50 rfl (lv_at hl 0 rfl) ?_
  refine lv_bipush (v := 20) hx hb dX0_init_51 (by decide) ?_
  refine lv_icmp_ge (tgt := 75) hx hb dX0_init_53 (by decide) (fun c => absurd c (by decide)) (fun _ => ?_)
  refine lv_aload_n hx hb dX0_init_56 rfl (lv_at hl 1 rfl) ?_
  refine va_get (D := (dC, dI)) (ci := 0) (v := .ref q_4) (C := RX0) (T := TX0) (N := 8) hx hb hts h_in_X0 hown hK hP 0 rfl rfl 3 (by decide) (hts (.fieldLink RX0 23 "MatchTrees$Acts" "orderAhead" "[LMatchTrees$Order;") (by decide +kernel)) (fun _ h9 => h9) rfl dX0_init_57 ?_
  refine lv_iload_n hx hb dX0_init_60 rfl (lv_at hl 0 rfl) ?_
  refine va_new (ci := 5) (fs := [.null, .int 0, .int 0, .int 0]) (C := RX5) (T := TX5) (N := 4) hx hb hts h_in_X5 tyX5 tyX5_ok hown (hts (.classLink RX0 21 RX5) (by decide +kernel)) (hts (.instantiable RX5 4) (by decide +kernel)) (hts (.initialized RX5) (by decide +kernel)) hK hP hD hS hA rfl (fun j hj => by rcases (show j = 0 ∨ j = 1 ∨ j = 2 ∨ j = 3 by omega) with rfl | rfl | rfl | rfl <;> rfl) (Nat.le_of_ble_eq_true rfl) (Nat.le_of_ble_eq_true rfl) dX0_init_61 (fun q_79 H hP hD hS => ?_)
  refine W.widen (k := 42) (n := 3404) (Nat.le_of_ble_eq_true rfl) (Nat.le_of_ble_eq_true rfl) ?_
  have hP : va_P (dC, dI) vwCl [(h0, .inr (0, [.ref q_1, .ref q_2, .ref q_3, .ref q_4, .ref q_6, .int 0, .int 0, .int 0])), (q_4, .inl (cA_5, 20, .inr (.inr (.inr (.inr g_78))))), (q_79, .inr (5, [.null, .int 0, .int 0, .int 0]))] H := hP
  have hD : va_D A [(h0, .inr (0, [.ref q_1, .ref q_2, .ref q_3, .ref q_4, .ref q_6, .int 0, .int 0, .int 0])), (q_4, .inl (cA_5, 20, .inr (.inr (.inr (.inr g_78))))), (q_79, .inr (5, [.null, .int 0, .int 0, .int 0]))] := hD
  refine lv_dup hx hb dX0_init_64 rfl ?_
  have hPc := hP.sub (ws' := [(q_79, .inr (5, [.null, .int 0, .int 0, .int 0]))]) [2] rfl
  have hDc := hD.sub (ws' := [(q_79, .inr (5, [.null, .int 0, .int 0, .int 0]))]) [2] (by decide) rfl
  have hFc := va_free (wc := [(q_79, .inr (5, [.null, .int 0, .int 0, .int 0]))]) hD hS hA [2] rfl
  refine va_callv (va_runIN (As := []) (rest := [.ref q_79, .int 18, .ref q_4]) ⟨hx, hb, hml, hown, hts⟩ (c_X5_init l dC dI cI cJ q_79 H.size) ⟨(va_cnB 0 hts gX0_init_X5_init_n30 rfl rfl rfl hN.2.2.2.2.1 (hts (.initialized RX5) (by decide +kernel)) (by decide +kernel) ⟨Nat.le_of_ble_eq_true rfl, Nat.le_of_ble_eq_true rfl⟩), rfl, hts (.instanceMethod yX5_init) (by decide +kernel)⟩ ⟨mBlind, mGo hPc hK hDc hN⟩ rfl rfl hl.1 rfl (lv_room (Nat.le_of_ble_eq_true rfl)) dX0_init_65 ⟨Nat.le_of_ble_eq_true rfl, Nat.le_of_ble_eq_true rfl⟩) hS (fun q _ h => hFc q h) hFc (fun u t H1 locs ht hvm hw hB hz1 hk1 hS => ?_)
  obtain ⟨q_81, hP1, hD1⟩ := hB
  rw [ht] at hP1
  obtain ⟨hP, hD⟩ := va_join (wr := [(h0, .inr (0, [.ref q_1, .ref q_2, .ref q_3, .ref q_4, .ref q_6, .int 0, .int 0, .int 0])), (q_4, .inl (cA_5, 20, .inr (.inr (.inr (.inr g_78)))))]) (w1 := [(q_79, .inr (5, [.ref q_81, .int 0, .int 0, .int 0]))]) hP hD [2] [0, 1] rfl rfl (by decide) (by decide) hk1 hFc hP1 hD1
  generalize H1 = H at hP hS ⊢
  have hP : va_P (dC, dI) vwCl [(h0, .inr (0, [.ref q_1, .ref q_2, .ref q_3, .ref q_4, .ref q_6, .int 0, .int 0, .int 0])), (q_4, .inl (cA_5, 20, .inr (.inr (.inr (.inr g_78))))), (q_79, .inr (5, [.ref q_81, .int 0, .int 0, .int 0]))] H := hP
  have hD : va_D A [(h0, .inr (0, [.ref q_1, .ref q_2, .ref q_3, .ref q_4, .ref q_6, .int 0, .int 0, .int 0])), (q_4, .inl (cA_5, 20, .inr (.inr (.inr (.inr g_78))))), (q_79, .inr (5, [.ref q_81, .int 0, .int 0, .int 0]))] := hD
  refine W.widen (k := 43) (n := 3416) (Nat.le_of_ble_eq_true rfl) (Nat.le_of_ble_eq_true rfl) ?_
  refine va_astq (r := (RX5, TX5, 4)) hx hb hK_q_4 hP hD hS 1 2 2 5 rfl rfl rfl rfl (vpd (by decide)) dX0_init_68 (fun H locs hP hD hS => ?_)
  obtain ⟨g_82, e_g_82⟩ : ∃ y : Nat → Option Nat, y = va_up g_78 (18 : Int32).toNatClampNeg (some q_79) := ⟨_, rfl⟩
  have hP : va_P (dC, dI) vwCl [(h0, .inr (0, [.ref q_1, .ref q_2, .ref q_3, .ref q_4, .ref q_6, .int 0, .int 0, .int 0])), (q_4, .inl (cA_5, 20, .inr (.inr (.inr (.inr g_82))))), (q_79, .inr (5, [.ref q_81, .int 0, .int 0, .int 0]))] H := by rw [e_g_82]; exact hP
  have hD : va_D A [(h0, .inr (0, [.ref q_1, .ref q_2, .ref q_3, .ref q_4, .ref q_6, .int 0, .int 0, .int 0])), (q_4, .inl (cA_5, 20, .inr (.inr (.inr (.inr g_82)))))] := by rw [e_g_82]; exact hD.sub [0, 1] (by decide) rfl
  have hP := hP.sub (ws' := [(h0, .inr (0, [.ref q_1, .ref q_2, .ref q_3, .ref q_4, .ref q_6, .int 0, .int 0, .int 0])), (q_4, .inl (cA_5, 20, .inr (.inr (.inr (.inr g_82)))))]) [0, 1] rfl
  refine lv_iinc (v := 19) (lv' := [(1, .int 19), (0, .ref h0)]) hx hb dX0_init_69 hl (k := 0) rfl (by decide) (by decide) rfl (fun ls hl => ?_)
  refine lv_goto (tgt := 50) hx hb dX0_init_72 (by decide) ?_
  refine lv_iload_n hx hb dX0_init_50 rfl (lv_at hl 0 rfl) ?_
  refine lv_bipush (v := 20) hx hb dX0_init_51 (by decide) ?_
  refine lv_icmp_ge (tgt := 75) hx hb dX0_init_53 (by decide) (fun c => absurd c (by decide)) (fun _ => ?_)
  refine lv_aload_n hx hb dX0_init_56 rfl (lv_at hl 1 rfl) ?_
  refine va_get (D := (dC, dI)) (ci := 0) (v := .ref q_4) (C := RX0) (T := TX0) (N := 8) hx hb hts h_in_X0 hown hK hP 0 rfl rfl 3 (by decide) (hts (.fieldLink RX0 23 "MatchTrees$Acts" "orderAhead" "[LMatchTrees$Order;") (by decide +kernel)) (fun _ h9 => h9) rfl dX0_init_57 ?_
  refine lv_iload_n hx hb dX0_init_60 rfl (lv_at hl 0 rfl) ?_
  refine va_new (ci := 5) (fs := [.null, .int 0, .int 0, .int 0]) (C := RX5) (T := TX5) (N := 4) hx hb hts h_in_X5 tyX5 tyX5_ok hown (hts (.classLink RX0 21 RX5) (by decide +kernel)) (hts (.instantiable RX5 4) (by decide +kernel)) (hts (.initialized RX5) (by decide +kernel)) hK hP hD hS hA rfl (fun j hj => by rcases (show j = 0 ∨ j = 1 ∨ j = 2 ∨ j = 3 by omega) with rfl | rfl | rfl | rfl <;> rfl) (Nat.le_of_ble_eq_true rfl) (Nat.le_of_ble_eq_true rfl) dX0_init_61 (fun q_83 H hP hD hS => ?_)
  refine W.widen (k := 44) (n := 3420) (Nat.le_of_ble_eq_true rfl) (Nat.le_of_ble_eq_true rfl) ?_
  have hP : va_P (dC, dI) vwCl [(h0, .inr (0, [.ref q_1, .ref q_2, .ref q_3, .ref q_4, .ref q_6, .int 0, .int 0, .int 0])), (q_4, .inl (cA_5, 20, .inr (.inr (.inr (.inr g_82))))), (q_83, .inr (5, [.null, .int 0, .int 0, .int 0]))] H := hP
  have hD : va_D A [(h0, .inr (0, [.ref q_1, .ref q_2, .ref q_3, .ref q_4, .ref q_6, .int 0, .int 0, .int 0])), (q_4, .inl (cA_5, 20, .inr (.inr (.inr (.inr g_82))))), (q_83, .inr (5, [.null, .int 0, .int 0, .int 0]))] := hD
  refine lv_dup hx hb dX0_init_64 rfl ?_
  have hPc := hP.sub (ws' := [(q_83, .inr (5, [.null, .int 0, .int 0, .int 0]))]) [2] rfl
  have hDc := hD.sub (ws' := [(q_83, .inr (5, [.null, .int 0, .int 0, .int 0]))]) [2] (by decide) rfl
  have hFc := va_free (wc := [(q_83, .inr (5, [.null, .int 0, .int 0, .int 0]))]) hD hS hA [2] rfl
  refine va_callv (va_runIN (As := []) (rest := [.ref q_83, .int 19, .ref q_4]) ⟨hx, hb, hml, hown, hts⟩ (c_X5_init l dC dI cI cJ q_83 H.size) ⟨(va_cnB 0 hts gX0_init_X5_init_n30 rfl rfl rfl hN.2.2.2.2.1 (hts (.initialized RX5) (by decide +kernel)) (by decide +kernel) ⟨Nat.le_of_ble_eq_true rfl, Nat.le_of_ble_eq_true rfl⟩), rfl, hts (.instanceMethod yX5_init) (by decide +kernel)⟩ ⟨mBlind, mGo hPc hK hDc hN⟩ rfl rfl hl.1 rfl (lv_room (Nat.le_of_ble_eq_true rfl)) dX0_init_65 ⟨Nat.le_of_ble_eq_true rfl, Nat.le_of_ble_eq_true rfl⟩) hS (fun q _ h => hFc q h) hFc (fun u t H1 locs ht hvm hw hB hz1 hk1 hS => ?_)
  obtain ⟨q_85, hP1, hD1⟩ := hB
  rw [ht] at hP1
  obtain ⟨hP, hD⟩ := va_join (wr := [(h0, .inr (0, [.ref q_1, .ref q_2, .ref q_3, .ref q_4, .ref q_6, .int 0, .int 0, .int 0])), (q_4, .inl (cA_5, 20, .inr (.inr (.inr (.inr g_82)))))]) (w1 := [(q_83, .inr (5, [.ref q_85, .int 0, .int 0, .int 0]))]) hP hD [2] [0, 1] rfl rfl (by decide) (by decide) hk1 hFc hP1 hD1
  generalize H1 = H at hP hS ⊢
  have hP : va_P (dC, dI) vwCl [(h0, .inr (0, [.ref q_1, .ref q_2, .ref q_3, .ref q_4, .ref q_6, .int 0, .int 0, .int 0])), (q_4, .inl (cA_5, 20, .inr (.inr (.inr (.inr g_82))))), (q_83, .inr (5, [.ref q_85, .int 0, .int 0, .int 0]))] H := hP
  have hD : va_D A [(h0, .inr (0, [.ref q_1, .ref q_2, .ref q_3, .ref q_4, .ref q_6, .int 0, .int 0, .int 0])), (q_4, .inl (cA_5, 20, .inr (.inr (.inr (.inr g_82))))), (q_83, .inr (5, [.ref q_85, .int 0, .int 0, .int 0]))] := hD
  refine W.widen (k := 45) (n := 3432) (Nat.le_of_ble_eq_true rfl) (Nat.le_of_ble_eq_true rfl) ?_
  refine va_astq (r := (RX5, TX5, 4)) hx hb hK_q_4 hP hD hS 1 2 2 5 rfl rfl rfl rfl (vpd (by decide)) dX0_init_68 (fun H locs hP hD hS => ?_)
  obtain ⟨g_86, e_g_86⟩ : ∃ y : Nat → Option Nat, y = va_up g_82 (19 : Int32).toNatClampNeg (some q_83) := ⟨_, rfl⟩
  have hP : va_P (dC, dI) vwCl [(h0, .inr (0, [.ref q_1, .ref q_2, .ref q_3, .ref q_4, .ref q_6, .int 0, .int 0, .int 0])), (q_4, .inl (cA_5, 20, .inr (.inr (.inr (.inr g_86))))), (q_83, .inr (5, [.ref q_85, .int 0, .int 0, .int 0]))] H := by rw [e_g_86]; exact hP
  have hD : va_D A [(h0, .inr (0, [.ref q_1, .ref q_2, .ref q_3, .ref q_4, .ref q_6, .int 0, .int 0, .int 0])), (q_4, .inl (cA_5, 20, .inr (.inr (.inr (.inr g_86)))))] := by rw [e_g_86]; exact hD.sub [0, 1] (by decide) rfl
  have hP := hP.sub (ws' := [(h0, .inr (0, [.ref q_1, .ref q_2, .ref q_3, .ref q_4, .ref q_6, .int 0, .int 0, .int 0])), (q_4, .inl (cA_5, 20, .inr (.inr (.inr (.inr g_86)))))]) [0, 1] rfl
  refine lv_iinc (v := 20) (lv' := [(1, .int 20), (0, .ref h0)]) hx hb dX0_init_69 hl (k := 0) rfl (by decide) (by decide) rfl (fun ls hl => ?_)
  refine lv_goto (tgt := 50) hx hb dX0_init_72 (by decide) ?_
  refine lv_iload_n hx hb dX0_init_50 rfl (lv_at hl 0 rfl) ?_
  refine lv_bipush (v := 20) hx hb dX0_init_51 (by decide) ?_
  refine lv_icmp_ge (tgt := 75) hx hb dX0_init_53 (by decide) (fun _ => ?_) (fun c => absurd (by decide) c)
  have hP9 := hP.sub (ws' := [(h0, .inr (0, [.ref q_1, .ref q_2, .ref q_3, .ref q_4, .ref q_6, .int 0, .int 0, .int 0]))]) [0] rfl
  have hD9 := hD.sub (ws' := [(h0, .inr (0, [.ref q_1, .ref q_2, .ref q_3, .ref q_4, .ref q_6, .int 0, .int 0, .int 0]))]) [0] (by decide) rfl
  exact W.vret hx hb hr (fun t ht hW => ⟨⟨(), rfl, trivial, q_1, q_2, q_3, q_4, q_6, by rw [ht]; exact hP9, hD9⟩, hS.F ht⟩) hS.2.2 dX0_init_75
end
