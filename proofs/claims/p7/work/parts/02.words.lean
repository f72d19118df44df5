section
/-! One list of words for every method: the tables' words that stay true while tables warm. -/
def WT : List Cond := lw_tbl.filter goodWord
theorem WT_tbl {w : Cond} (h : w ∈ WT) : w ∈ lw_tbl := (List.mem_filter.mp h).1
theorem WT_good {w : Cond} (h : w ∈ WT) : goodWord w = true := (List.mem_filter.mp h).2
theorem WT_of {w : Cond} (h : w ∈ lw_tbl) (g : goodWord w = true) : w ∈ WT := List.mem_filter.mpr ⟨h, g⟩
/-- a callee's words among WT -/
theorem gI {w : Cond} (h : w ∈ WT) : GoodIn WT (w :: WT) := fun x hx => (List.mem_cons.mp hx).elim (fun e => e ▸ ⟨h, good_of_word (WT_good h)⟩) (fun q => ⟨q, good_of_word (WT_good q)⟩)
theorem gV {own C : String} {idx : Nat} {y : MethodName} {w : Cond} (h1 : Cond.methodLink own idx y ∈ WT) (h2 : Cond.instanceMethod y ∈ WT) (h3 : Cond.selects C y y ∈ WT) (h4 : Cond.initialized C ∈ WT) (h5 : w ∈ WT) : GoodIn WT (wsV own idx C y (w :: WT)) := by
  intro x hx
  have hm : x ∈ WT := by
    rcases List.mem_append.mp hx with q | q
    · simp only [List.mem_cons, List.not_mem_nil, or_false] at q
      rcases q with rfl | rfl | rfl | rfl <;> assumption
    · rcases List.mem_cons.mp q with rfl | q
      · exact h5
      · exact q
  exact ⟨hm, good_of_word (WT_good hm)⟩
theorem gS {own : String} {idx : Nat} {y : MethodName} {w : Cond} (h1 : Cond.methodLink own idx y ∈ WT) (h2 : Cond.static y ∈ WT) (h3 : Cond.initialized own ∈ WT) (h5 : w ∈ WT) : GoodIn WT (wsS own idx y (w :: WT)) := by
  intro x hx
  have hm : x ∈ WT := by
    rcases List.mem_append.mp hx with q | q
    · simp only [List.mem_cons, List.not_mem_nil, or_false] at q
      rcases q with rfl | rfl | rfl <;> assumption
    · rcases List.mem_cons.mp q with rfl | q
      · exact h5
      · exact q
  exact ⟨hm, good_of_word (WT_good hm)⟩
theorem gT {own : String} {idx : Nat} {y : MethodName} {w : Cond} (h1 : Cond.methodLink own idx y ∈ WT) (h2 : Cond.static y ∈ WT) (h3 : Cond.initialized y.cls ∈ WT) (h5 : w ∈ WT) : GoodIn WT (va_wsS own idx y (w :: WT)) := by
  intro x hx
  have hm : x ∈ WT := by
    rcases List.mem_append.mp hx with q | q
    · simp only [List.mem_cons, List.not_mem_nil, or_false] at q
      rcases q with rfl | rfl | rfl <;> assumption
    · rcases List.mem_cons.mp q with rfl | q
      · exact h5
      · exact q
  exact ⟨hm, good_of_word (WT_good hm)⟩
theorem tb_in : ∀ w ∈ tables_1, w ∈ lw_tbl := fun w h => List.mem_append_right _ h
theorem sub_tables_1_1 : ∀ w ∈ tables_1_1, w ∈ lw_tbl := fun w h => tb_in w (List.mem_append_left _ h)
theorem sub_tables_1_2 : ∀ w ∈ tables_1_2, w ∈ lw_tbl := fun w h => tb_in w (List.mem_append_right _ (List.mem_append_left _ h))
theorem sub_tables_1_3 : ∀ w ∈ tables_1_3, w ∈ lw_tbl := fun w h => tb_in w (List.mem_append_right _ (List.mem_append_right _ (List.mem_append_left _ h)))
theorem sub_tables_1_4 : ∀ w ∈ tables_1_4, w ∈ lw_tbl := fun w h => tb_in w (List.mem_append_right _ (List.mem_append_right _ (List.mem_append_right _ (List.mem_append_left _ h))))
theorem sub_tables_1_5 : ∀ w ∈ tables_1_5, w ∈ lw_tbl := fun w h => tb_in w (List.mem_append_right _ (List.mem_append_right _ (List.mem_append_right _ (List.mem_append_right _ (List.mem_append_left _ h)))))
theorem sub_tables_1_6 : ∀ w ∈ tables_1_6, w ∈ lw_tbl := fun w h => tb_in w (List.mem_append_right _ (List.mem_append_right _ (List.mem_append_right _ (List.mem_append_right _ (List.mem_append_right _ (List.mem_append_left _ h))))))
theorem sub_tables_1_7 : ∀ w ∈ tables_1_7, w ∈ lw_tbl := fun w h => tb_in w (List.mem_append_right _ (List.mem_append_right _ (List.mem_append_right _ (List.mem_append_right _ (List.mem_append_right _ (List.mem_append_right _ (List.mem_append_left _ h)))))))
theorem sub_tables_1_8 : ∀ w ∈ tables_1_8, w ∈ lw_tbl := fun w h => tb_in w (List.mem_append_right _ (List.mem_append_right _ (List.mem_append_right _ (List.mem_append_right _ (List.mem_append_right _ (List.mem_append_right _ (List.mem_append_right _ (List.mem_append_left _ h))))))))
theorem sub_tables_1_9 : ∀ w ∈ tables_1_9, w ∈ lw_tbl := fun w h => tb_in w (List.mem_append_right _ (List.mem_append_right _ (List.mem_append_right _ (List.mem_append_right _ (List.mem_append_right _ (List.mem_append_right _ (List.mem_append_right _ (List.mem_append_right _ h))))))))
end
section
set_option maxRecDepth 20000 in
theorem t_130 : (Jvm.Cond.initialized "MatchTrees") ∈ WT := WT_of (sub_tables_1_1 _ (List.mem_of_getElem? (i := 1) (by decide +kernel))) (by decide +kernel)
set_option maxRecDepth 20000 in
theorem t_131 : (Jvm.Cond.initialized "MatchTrees$Bytes") ∈ WT := WT_of (sub_tables_1_1 _ (List.mem_of_getElem? (i := 2) (by decide +kernel))) (by decide +kernel)
set_option maxRecDepth 20000 in
theorem t_132 : (Jvm.Cond.initialized "java/lang/Math") ∈ WT := WT_of (sub_tables_1_1 _ (List.mem_of_getElem? (i := 3) (by decide +kernel))) (by decide +kernel)
set_option maxRecDepth 20000 in
theorem t_133 : (Jvm.Cond.initialized "MatchTrees$Marks") ∈ WT := WT_of (sub_tables_1_1 _ (List.mem_of_getElem? (i := 4) (by decide +kernel))) (by decide +kernel)
set_option maxRecDepth 20000 in
theorem t_134 : (Jvm.Cond.initialized "MatchTrees$Groups") ∈ WT := WT_of (sub_tables_1_1 _ (List.mem_of_getElem? (i := 5) (by decide +kernel))) (by decide +kernel)
set_option maxRecDepth 20000 in
theorem t_135 : (Jvm.Cond.initialized "MatchTrees$Order") ∈ WT := WT_of (sub_tables_1_1 _ (List.mem_of_getElem? (i := 6) (by decide +kernel))) (by decide +kernel)
set_option maxRecDepth 20000 in
theorem t_136 : (Jvm.Cond.initialized "MatchTrees$Acts") ∈ WT := WT_of (sub_tables_1_1 _ (List.mem_of_getElem? (i := 7) (by decide +kernel))) (by decide +kernel)
set_option maxRecDepth 20000 in
theorem t_137 : (Jvm.Cond.initialized "MatchTrees$Seen") ∈ WT := WT_of (sub_tables_1_1 _ (List.mem_of_getElem? (i := 8) (by decide +kernel))) (by decide +kernel)
set_option maxRecDepth 20000 in
theorem t_138 : (Jvm.Cond.initialized "MatchTrees$Table") ∈ WT := WT_of (sub_tables_1_1 _ (List.mem_of_getElem? (i := 9) (by decide +kernel))) (by decide +kernel)
set_option maxRecDepth 20000 in
theorem t_139 : (Jvm.Cond.initialized "MatchTrees$Kinds") ∈ WT := WT_of (sub_tables_1_1 _ (List.mem_of_getElem? (i := 10) (by decide +kernel))) (by decide +kernel)
set_option maxRecDepth 20000 in
theorem t_140 : (Jvm.Cond.initialized "MatchTrees$Reader") ∈ WT := WT_of (sub_tables_1_1 _ (List.mem_of_getElem? (i := 11) (by decide +kernel))) (by decide +kernel)
set_option maxRecDepth 20000 in
theorem t_141 : (Jvm.Cond.initialized "MatchTrees$Scanner") ∈ WT := WT_of (sub_tables_1_1 _ (List.mem_of_getElem? (i := 12) (by decide +kernel))) (by decide +kernel)
set_option maxRecDepth 20000 in
theorem t_142 : (Jvm.Cond.initialized "java/lang/String") ∈ WT := WT_of (sub_tables_1_1 _ (List.mem_of_getElem? (i := 13) (by decide +kernel))) (by decide +kernel)
set_option maxRecDepth 20000 in
theorem t_143 : (Jvm.Cond.initialized "java/lang/StringLatin1") ∈ WT := WT_of (sub_tables_1_1 _ (List.mem_of_getElem? (i := 14) (by decide +kernel))) (by decide +kernel)
set_option maxRecDepth 20000 in
theorem t_144 : (Jvm.Cond.initialized "jdk/internal/util/Preconditions") ∈ WT := WT_of (sub_tables_1_1 _ (List.mem_of_getElem? (i := 15) (by decide +kernel))) (by decide +kernel)
set_option maxRecDepth 20000 in
theorem t_146 : (Jvm.Cond.initialized "MatchTrees$Trees") ∈ WT := WT_of (sub_tables_1_1 _ (List.mem_of_getElem? (i := 17) (by decide +kernel))) (by decide +kernel)
set_option maxRecDepth 20000 in
theorem t_147 : (Jvm.Cond.initialized "MatchTreesModel") ∈ WT := WT_of (sub_tables_1_1 _ (List.mem_of_getElem? (i := 18) (by decide +kernel))) (by decide +kernel)
set_option maxRecDepth 20000 in
theorem t_148 : (Jvm.Cond.initialized "java/lang/Integer") ∈ WT := WT_of (sub_tables_1_1 _ (List.mem_of_getElem? (i := 19) (by decide +kernel))) (by decide +kernel)
set_option maxRecDepth 20000 in
theorem t_149 : (Jvm.Cond.classLink "MatchTreesLaw" (7 : Nat) "MatchTrees") ∈ WT := WT_of (sub_tables_1_1 _ (List.mem_of_getElem? (i := 20) (by decide +kernel))) (by decide +kernel)
set_option maxRecDepth 20000 in
theorem t_150 : (Jvm.Cond.instantiable "MatchTrees" (15 : Nat)) ∈ WT := WT_of (sub_tables_1_1 _ (List.mem_of_getElem? (i := 21) (by decide +kernel))) (by decide +kernel)
set_option maxRecDepth 20000 in
theorem t_151 : (Jvm.Cond.methodLink "MatchTreesLaw" (9 : Nat) ({ cls := "MatchTrees", name := "<init>", desc := "()V" } : Jvm.MethodName)) ∈ WT := WT_of (sub_tables_1_1 _ (List.mem_of_getElem? (i := 22) (by decide +kernel))) (by decide +kernel)
set_option maxRecDepth 20000 in
theorem t_152 : (Jvm.Cond.instanceMethod ({ cls := "MatchTrees", name := "<init>", desc := "()V" } : Jvm.MethodName)) ∈ WT := WT_of (sub_tables_1_1 _ (List.mem_of_getElem? (i := 23) (by decide +kernel))) (by decide +kernel)
set_option maxRecDepth 20000 in
theorem t_153 : (Jvm.Cond.code ({ cls := "MatchTrees", name := "<init>", desc := "()V" } : Jvm.MethodName) prog_1_method_1_code (1 : Nat) (Option.none : Option Jvm.ClassFile.FieldType)) ∈ WT := WT_of (sub_tables_1_1 _ (List.mem_of_getElem? (i := 24) rfl)) (by decide +kernel)
set_option maxRecDepth 20000 in
theorem t_154 : (Jvm.Cond.methodLink "MatchTrees" (3 : Nat) ({ cls := "java/lang/Object", name := "<init>", desc := "()V" } : Jvm.MethodName)) ∈ WT := WT_of (sub_tables_1_1 _ (List.mem_of_getElem? (i := 25) (by decide +kernel))) (by decide +kernel)
set_option maxRecDepth 20000 in
theorem t_155 : (Jvm.Cond.instanceMethod ({ cls := "java/lang/Object", name := "<init>", desc := "()V" } : Jvm.MethodName)) ∈ WT := WT_of (sub_tables_1_1 _ (List.mem_of_getElem? (i := 26) (by decide +kernel))) (by decide +kernel)
set_option maxRecDepth 20000 in
theorem t_156 : (Jvm.Cond.code ({ cls := "java/lang/Object", name := "<init>", desc := "()V" } : Jvm.MethodName) object_method_1_code (1 : Nat) (Option.none : Option Jvm.ClassFile.FieldType)) ∈ WT := WT_of (sub_tables_1_1 _ (List.mem_of_getElem? (i := 27) rfl)) (by decide +kernel)
set_option maxRecDepth 20000 in
theorem t_157 : (Jvm.Cond.classLink "MatchTrees" (9 : Nat) "MatchTrees$Bytes") ∈ WT := WT_of (sub_tables_1_1 _ (List.mem_of_getElem? (i := 28) (by decide +kernel))) (by decide +kernel)
set_option maxRecDepth 20000 in
theorem t_158 : (Jvm.Cond.instantiable "MatchTrees$Bytes" (2 : Nat)) ∈ WT := WT_of (sub_tables_1_1 _ (List.mem_of_getElem? (i := 29) (by decide +kernel))) (by decide +kernel)
set_option maxRecDepth 20000 in
theorem t_159 : (Jvm.Cond.methodLink "MatchTrees" (11 : Nat) ({ cls := "MatchTrees$Bytes", name := "<init>", desc := "(I)V" } : Jvm.MethodName)) ∈ WT := WT_of (sub_tables_1_1 _ (List.mem_of_getElem? (i := 30) (by decide +kernel))) (by decide +kernel)
set_option maxRecDepth 20000 in
theorem t_160 : (Jvm.Cond.instanceMethod ({ cls := "MatchTrees$Bytes", name := "<init>", desc := "(I)V" } : Jvm.MethodName)) ∈ WT := WT_of (sub_tables_1_1 _ (List.mem_of_getElem? (i := 31) (by decide +kernel))) (by decide +kernel)
set_option maxRecDepth 20000 in
theorem t_161 : (Jvm.Cond.code ({ cls := "MatchTrees$Bytes", name := "<init>", desc := "(I)V" } : Jvm.MethodName) prog_3_method_1_code (2 : Nat) (Option.none : Option Jvm.ClassFile.FieldType)) ∈ WT := WT_of (sub_tables_1_1 _ (List.mem_of_getElem? (i := 32) rfl)) (by decide +kernel)
set_option maxRecDepth 20000 in
theorem t_162 : (Jvm.Cond.methodLink "MatchTrees$Bytes" (3 : Nat) ({ cls := "java/lang/Object", name := "<init>", desc := "()V" } : Jvm.MethodName)) ∈ WT := WT_of (sub_tables_1_1 _ (List.mem_of_getElem? (i := 33) (by decide +kernel))) (by decide +kernel)
set_option maxRecDepth 20000 in
theorem t_163 : (Jvm.Cond.methodLink "MatchTrees$Bytes" (9 : Nat) ({ cls := "java/lang/Math", name := "max", desc := "(II)I" } : Jvm.MethodName)) ∈ WT := WT_of (sub_tables_1_1 _ (List.mem_of_getElem? (i := 34) (by decide +kernel))) (by decide +kernel)
set_option maxRecDepth 20000 in
theorem t_164 : (Jvm.Cond.static ({ cls := "java/lang/Math", name := "max", desc := "(II)I" } : Jvm.MethodName)) ∈ WT := WT_of (sub_tables_1_1 _ (List.mem_of_getElem? (i := 35) (by decide +kernel))) (by decide +kernel)
set_option maxRecDepth 20000 in
theorem t_165 : (Jvm.Cond.code ({ cls := "java/lang/Math", name := "max", desc := "(II)I" } : Jvm.MethodName) prog_16_method_65_code (2 : Nat) (Option.some Jvm.ClassFile.FieldType.int)) ∈ WT := WT_of (sub_tables_1_1 _ (List.mem_of_getElem? (i := 36) rfl)) (by decide +kernel)
set_option maxRecDepth 20000 in
theorem t_166 : (Jvm.Cond.fieldLink "MatchTrees$Bytes" (15 : Nat) "MatchTrees$Bytes" "bytes" "[I") ∈ WT := WT_of (sub_tables_1_1 _ (List.mem_of_getElem? (i := 37) (by decide +kernel))) (by decide +kernel)
set_option maxRecDepth 20000 in
theorem t_167 : (Jvm.Cond.fieldLink "MatchTrees$Scanner" (54 : Nat) "MatchTrees$Bytes" "bytes" "[I") ∈ WT := WT_of (sub_tables_1_1 _ (List.mem_of_getElem? (i := 38) (by decide +kernel))) (by decide +kernel)
set_option maxRecDepth 20000 in
theorem t_168 : (Jvm.Cond.fieldLink "MatchTrees$Bytes" (21 : Nat) "MatchTrees$Bytes" "length" "I") ∈ WT := WT_of (sub_tables_1_1 _ (List.mem_of_getElem? (i := 39) (by decide +kernel))) (by decide +kernel)
set_option maxRecDepth 20000 in
theorem t_169 : (Jvm.Cond.fieldLink "MatchTrees$Seen" (24 : Nat) "MatchTrees$Bytes" "length" "I") ∈ WT := WT_of (sub_tables_1_1 _ (List.mem_of_getElem? (i := 40) (by decide +kernel))) (by decide +kernel)
set_option maxRecDepth 20000 in
theorem t_170 : (Jvm.Cond.fieldLink "MatchTrees" (100 : Nat) "MatchTrees$Bytes" "length" "I") ∈ WT := WT_of (sub_tables_1_1 _ (List.mem_of_getElem? (i := 41) (by decide +kernel))) (by decide +kernel)
set_option maxRecDepth 20000 in
theorem t_171 : (Jvm.Cond.fieldLink "MatchTrees$Scanner" (59 : Nat) "MatchTrees$Bytes" "length" "I") ∈ WT := WT_of (sub_tables_1_1 _ (List.mem_of_getElem? (i := 42) (by decide +kernel))) (by decide +kernel)
set_option maxRecDepth 20000 in
theorem t_172 : (Jvm.Cond.laysFinal "MatchTrees$Bytes" "MatchTrees$Bytes" "bytes" "[I") ∈ WT := WT_of (sub_tables_1_1 _ (List.mem_of_getElem? (i := 43) (by decide +kernel))) (by decide +kernel)
set_option maxRecDepth 20000 in
theorem t_174 : (Jvm.Cond.lays "MatchTrees$Bytes" "MatchTrees$Bytes" "length" "I") ∈ WT := WT_of (sub_tables_1_1 _ (List.mem_of_getElem? (i := 45) (by decide +kernel))) (by decide +kernel)
set_option maxRecDepth 20000 in
theorem t_177 : (Jvm.Cond.arrayClass Jvm.ClassFile.FieldType.int) ∈ WT := WT_of (sub_tables_1_1 _ (List.mem_of_getElem? (i := 48) (by decide +kernel))) (by decide +kernel)
set_option maxRecDepth 20000 in
theorem t_178 : (Jvm.Cond.classLink "MatchTrees" (21 : Nat) "MatchTrees$Marks") ∈ WT := WT_of (sub_tables_1_1 _ (List.mem_of_getElem? (i := 49) (by decide +kernel))) (by decide +kernel)
set_option maxRecDepth 20000 in
theorem t_179 : (Jvm.Cond.instantiable "MatchTrees$Marks" (3 : Nat)) ∈ WT := WT_of (sub_tables_1_1 _ (List.mem_of_getElem? (i := 50) (by decide +kernel))) (by decide +kernel)
set_option maxRecDepth 20000 in
theorem t_182 : (Jvm.Cond.code ({ cls := "MatchTrees$Marks", name := "<init>", desc := "()V" } : Jvm.MethodName) prog_6_method_1_code (1 : Nat) (Option.none : Option Jvm.ClassFile.FieldType)) ∈ WT := WT_of (sub_tables_1_1 _ (List.mem_of_getElem? (i := 53) rfl)) (by decide +kernel)
set_option maxRecDepth 20000 in
theorem t_183 : (Jvm.Cond.methodLink "MatchTrees$Marks" (3 : Nat) ({ cls := "java/lang/Object", name := "<init>", desc := "()V" } : Jvm.MethodName)) ∈ WT := WT_of (sub_tables_1_1 _ (List.mem_of_getElem? (i := 54) (by decide +kernel))) (by decide +kernel)
set_option maxRecDepth 20000 in
theorem t_184 : (Jvm.Cond.fieldLink "MatchTrees$Marks" (9 : Nat) "MatchTrees$Marks" "time" "[I") ∈ WT := WT_of (sub_tables_1_1 _ (List.mem_of_getElem? (i := 55) (by decide +kernel))) (by decide +kernel)
set_option maxRecDepth 20000 in
theorem t_185 : (Jvm.Cond.fieldLink "MatchTrees$Marks" (15 : Nat) "MatchTrees$Marks" "spot" "[I") ∈ WT := WT_of (sub_tables_1_1 _ (List.mem_of_getElem? (i := 56) (by decide +kernel))) (by decide +kernel)
set_option maxRecDepth 20000 in
theorem t_186 : (Jvm.Cond.fieldLink "MatchTrees$Groups" (41 : Nat) "MatchTrees$Marks" "spot" "[I") ∈ WT := WT_of (sub_tables_1_1 _ (List.mem_of_getElem? (i := 57) (by decide +kernel))) (by decide +kernel)
set_option maxRecDepth 20000 in
theorem t_187 : (Jvm.Cond.fieldLink "MatchTrees$Marks" (18 : Nat) "MatchTrees$Marks" "now" "I") ∈ WT := WT_of (sub_tables_1_1 _ (List.mem_of_getElem? (i := 58) (by decide +kernel))) (by decide +kernel)
set_option maxRecDepth 20000 in
theorem t_188 : (Jvm.Cond.laysFinal "MatchTrees$Marks" "MatchTrees$Marks" "time" "[I") ∈ WT := WT_of (sub_tables_1_1 _ (List.mem_of_getElem? (i := 59) (by decide +kernel))) (by decide +kernel)
set_option maxRecDepth 20000 in
theorem t_190 : (Jvm.Cond.laysFinal "MatchTrees$Marks" "MatchTrees$Marks" "spot" "[I") ∈ WT := WT_of (sub_tables_1_1 _ (List.mem_of_getElem? (i := 61) (by decide +kernel))) (by decide +kernel)
set_option maxRecDepth 20000 in
theorem t_192 : (Jvm.Cond.lays "MatchTrees$Marks" "MatchTrees$Marks" "now" "I") ∈ WT := WT_of (sub_tables_1_1 _ (List.mem_of_getElem? (i := 63) (by decide +kernel))) (by decide +kernel)
set_option maxRecDepth 20000 in
theorem t_195 : (Jvm.Cond.classLink "MatchTrees" (28 : Nat) "MatchTrees$Groups") ∈ WT := WT_of (sub_tables_1_1 _ (List.mem_of_getElem? (i := 66) (by decide +kernel))) (by decide +kernel)
set_option maxRecDepth 20000 in
theorem t_196 : (Jvm.Cond.instantiable "MatchTrees$Groups" (4 : Nat)) ∈ WT := WT_of (sub_tables_1_1 _ (List.mem_of_getElem? (i := 67) (by decide +kernel))) (by decide +kernel)
set_option maxRecDepth 20000 in
theorem t_197 : (Jvm.Cond.methodLink "MatchTrees" (30 : Nat) ({ cls := "MatchTrees$Groups", name := "<init>", desc := "(ILMatchTrees$Marks;)V" } : Jvm.MethodName)) ∈ WT := WT_of (sub_tables_1_1 _ (List.mem_of_getElem? (i := 68) (by decide +kernel))) (by decide +kernel)
set_option maxRecDepth 20000 in
theorem t_198 : (Jvm.Cond.instanceMethod ({ cls := "MatchTrees$Groups", name := "<init>", desc := "(ILMatchTrees$Marks;)V" } : Jvm.MethodName)) ∈ WT := WT_of (sub_tables_1_1 _ (List.mem_of_getElem? (i := 69) (by decide +kernel))) (by decide +kernel)
set_option maxRecDepth 20000 in
theorem t_199 : (Jvm.Cond.code ({ cls := "MatchTrees$Groups", name := "<init>", desc := "(ILMatchTrees$Marks;)V" } : Jvm.MethodName) prog_4_method_1_code (3 : Nat) (Option.none : Option Jvm.ClassFile.FieldType)) ∈ WT := WT_of (sub_tables_1_1 _ (List.mem_of_getElem? (i := 70) rfl)) (by decide +kernel)
set_option maxRecDepth 20000 in
theorem t_200 : (Jvm.Cond.methodLink "MatchTrees$Groups" (3 : Nat) ({ cls := "java/lang/Object", name := "<init>", desc := "()V" } : Jvm.MethodName)) ∈ WT := WT_of (sub_tables_1_1 _ (List.mem_of_getElem? (i := 71) (by decide +kernel))) (by decide +kernel)
set_option maxRecDepth 20000 in
theorem t_201 : (Jvm.Cond.methodLink "MatchTrees$Groups" (9 : Nat) ({ cls := "java/lang/Math", name := "max", desc := "(II)I" } : Jvm.MethodName)) ∈ WT := WT_of (sub_tables_1_1 _ (List.mem_of_getElem? (i := 72) (by decide +kernel))) (by decide +kernel)
set_option maxRecDepth 20000 in
theorem t_202 : (Jvm.Cond.fieldLink "MatchTrees$Groups" (15 : Nat) "MatchTrees$Groups" "arms" "[I") ∈ WT := WT_of (sub_tables_1_1 _ (List.mem_of_getElem? (i := 73) (by decide +kernel))) (by decide +kernel)
set_option maxRecDepth 20000 in
theorem t_203 : (Jvm.Cond.fieldLink "MatchTrees$Trees" (104 : Nat) "MatchTrees$Groups" "arms" "[I") ∈ WT := WT_of (sub_tables_1_1 _ (List.mem_of_getElem? (i := 74) (by decide +kernel))) (by decide +kernel)
set_option maxRecDepth 20000 in
theorem t_204 : (Jvm.Cond.fieldLink "MatchTrees" (232 : Nat) "MatchTrees$Groups" "arms" "[I") ∈ WT := WT_of (sub_tables_1_1 _ (List.mem_of_getElem? (i := 75) (by decide +kernel))) (by decide +kernel)
set_option maxRecDepth 20000 in
theorem t_205 : (Jvm.Cond.fieldLink "MatchTrees$Groups" (21 : Nat) "MatchTrees$Groups" "size" "[I") ∈ WT := WT_of (sub_tables_1_1 _ (List.mem_of_getElem? (i := 76) (by decide +kernel))) (by decide +kernel)
set_option maxRecDepth 20000 in
theorem t_206 : (Jvm.Cond.fieldLink "MatchTrees" (238 : Nat) "MatchTrees$Groups" "size" "[I") ∈ WT := WT_of (sub_tables_1_1 _ (List.mem_of_getElem? (i := 77) (by decide +kernel))) (by decide +kernel)
set_option maxRecDepth 20000 in
theorem t_207 : (Jvm.Cond.fieldLink "MatchTrees$Trees" (163 : Nat) "MatchTrees$Groups" "size" "[I") ∈ WT := WT_of (sub_tables_1_1 _ (List.mem_of_getElem? (i := 78) (by decide +kernel))) (by decide +kernel)
set_option maxRecDepth 20000 in
theorem t_208 : (Jvm.Cond.fieldLink "MatchTrees$Groups" (24 : Nat) "MatchTrees$Groups" "marks" "LMatchTrees$Marks;") ∈ WT := WT_of (sub_tables_1_1 _ (List.mem_of_getElem? (i := 79) (by decide +kernel))) (by decide +kernel)
set_option maxRecDepth 20000 in
theorem t_209 : (Jvm.Cond.fieldLink "MatchTrees$Groups" (28 : Nat) "MatchTrees$Groups" "count" "I") ∈ WT := WT_of (sub_tables_1_1 _ (List.mem_of_getElem? (i := 80) (by decide +kernel))) (by decide +kernel)
set_option maxRecDepth 20000 in
theorem t_210 : (Jvm.Cond.fieldLink "MatchTrees$Trees" (103 : Nat) "MatchTrees$Groups" "count" "I") ∈ WT := WT_of (sub_tables_1_1 _ (List.mem_of_getElem? (i := 81) (by decide +kernel))) (by decide +kernel)
set_option maxRecDepth 20000 in
theorem t_211 : (Jvm.Cond.fieldLink "MatchTrees" (231 : Nat) "MatchTrees$Groups" "count" "I") ∈ WT := WT_of (sub_tables_1_1 _ (List.mem_of_getElem? (i := 82) (by decide +kernel))) (by decide +kernel)
set_option maxRecDepth 20000 in
theorem t_212 : (Jvm.Cond.laysFinal "MatchTrees$Groups" "MatchTrees$Groups" "arms" "[I") ∈ WT := WT_of (sub_tables_1_1 _ (List.mem_of_getElem? (i := 83) (by decide +kernel))) (by decide +kernel)
set_option maxRecDepth 20000 in
theorem t_214 : (Jvm.Cond.laysFinal "MatchTrees$Groups" "MatchTrees$Groups" "size" "[I") ∈ WT := WT_of (sub_tables_1_1 _ (List.mem_of_getElem? (i := 85) (by decide +kernel))) (by decide +kernel)
set_option maxRecDepth 20000 in
theorem t_216 : (Jvm.Cond.laysFinal "MatchTrees$Groups" "MatchTrees$Groups" "marks" "LMatchTrees$Marks;") ∈ WT := WT_of (sub_tables_1_1 _ (List.mem_of_getElem? (i := 87) (by decide +kernel))) (by decide +kernel)
set_option maxRecDepth 20000 in
theorem t_218 : (Jvm.Cond.lays "MatchTrees$Groups" "MatchTrees$Groups" "count" "I") ∈ WT := WT_of (sub_tables_1_1 _ (List.mem_of_getElem? (i := 89) (by decide +kernel))) (by decide +kernel)
set_option maxRecDepth 20000 in
theorem t_221 : (Jvm.Cond.classLink "MatchTrees" (40 : Nat) "MatchTrees$Order") ∈ WT := WT_of (sub_tables_1_1 _ (List.mem_of_getElem? (i := 92) (by decide +kernel))) (by decide +kernel)
set_option maxRecDepth 20000 in
theorem t_222 : (Jvm.Cond.instantiable "MatchTrees$Order" (4 : Nat)) ∈ WT := WT_of (sub_tables_1_1 _ (List.mem_of_getElem? (i := 93) (by decide +kernel))) (by decide +kernel)
set_option maxRecDepth 20000 in
theorem t_225 : (Jvm.Cond.code ({ cls := "MatchTrees$Order", name := "<init>", desc := "()V" } : Jvm.MethodName) prog_7_method_1_code (1 : Nat) (Option.none : Option Jvm.ClassFile.FieldType)) ∈ WT := WT_of (sub_tables_1_1 _ (List.mem_of_getElem? (i := 96) rfl)) (by decide +kernel)
set_option maxRecDepth 20000 in
theorem t_226 : (Jvm.Cond.methodLink "MatchTrees$Order" (3 : Nat) ({ cls := "java/lang/Object", name := "<init>", desc := "()V" } : Jvm.MethodName)) ∈ WT := WT_of (sub_tables_1_1 _ (List.mem_of_getElem? (i := 97) (by decide +kernel))) (by decide +kernel)
set_option maxRecDepth 20000 in
theorem t_227 : (Jvm.Cond.fieldLink "MatchTrees$Order" (9 : Nat) "MatchTrees$Order" "arm" "[I") ∈ WT := WT_of (sub_tables_1_1 _ (List.mem_of_getElem? (i := 98) (by decide +kernel))) (by decide +kernel)
set_option maxRecDepth 20000 in
theorem t_228 : (Jvm.Cond.fieldLink "MatchTrees$Trees" (95 : Nat) "MatchTrees$Order" "arm" "[I") ∈ WT := WT_of (sub_tables_1_1 _ (List.mem_of_getElem? (i := 99) (by decide +kernel))) (by decide +kernel)
set_option maxRecDepth 20000 in
theorem t_229 : (Jvm.Cond.fieldLink "MatchTrees" (417 : Nat) "MatchTrees$Order" "arm" "[I") ∈ WT := WT_of (sub_tables_1_1 _ (List.mem_of_getElem? (i := 100) (by decide +kernel))) (by decide +kernel)
set_option maxRecDepth 20000 in
theorem t_230 : (Jvm.Cond.fieldLink "MatchTrees$Order" (24 : Nat) "MatchTrees$Order" "count" "I") ∈ WT := WT_of (sub_tables_1_1 _ (List.mem_of_getElem? (i := 101) (by decide +kernel))) (by decide +kernel)
set_option maxRecDepth 20000 in
theorem t_231 : (Jvm.Cond.fieldLink "MatchTrees$Trees" (92 : Nat) "MatchTrees$Order" "count" "I") ∈ WT := WT_of (sub_tables_1_1 _ (List.mem_of_getElem? (i := 102) (by decide +kernel))) (by decide +kernel)
set_option maxRecDepth 20000 in
theorem t_232 : (Jvm.Cond.fieldLink "MatchTrees" (176 : Nat) "MatchTrees$Order" "count" "I") ∈ WT := WT_of (sub_tables_1_1 _ (List.mem_of_getElem? (i := 103) (by decide +kernel))) (by decide +kernel)
set_option maxRecDepth 20000 in
theorem t_233 : (Jvm.Cond.fieldLink "MatchTrees$Order" (28 : Nat) "MatchTrees$Order" "on" "I") ∈ WT := WT_of (sub_tables_1_1 _ (List.mem_of_getElem? (i := 104) (by decide +kernel))) (by decide +kernel)
set_option maxRecDepth 20000 in
theorem t_234 : (Jvm.Cond.fieldLink "MatchTrees" (177 : Nat) "MatchTrees$Order" "on" "I") ∈ WT := WT_of (sub_tables_1_1 _ (List.mem_of_getElem? (i := 105) (by decide +kernel))) (by decide +kernel)
set_option maxRecDepth 20000 in
theorem t_235 : (Jvm.Cond.fieldLink "MatchTrees$Trees" (170 : Nat) "MatchTrees$Order" "on" "I") ∈ WT := WT_of (sub_tables_1_1 _ (List.mem_of_getElem? (i := 106) (by decide +kernel))) (by decide +kernel)
set_option maxRecDepth 20000 in
theorem t_236 : (Jvm.Cond.fieldLink "MatchTrees$Order" (31 : Nat) "MatchTrees$Order" "rule" "I") ∈ WT := WT_of (sub_tables_1_1 _ (List.mem_of_getElem? (i := 107) (by decide +kernel))) (by decide +kernel)
set_option maxRecDepth 20000 in
theorem t_237 : (Jvm.Cond.fieldLink "MatchTrees" (180 : Nat) "MatchTrees$Order" "rule" "I") ∈ WT := WT_of (sub_tables_1_1 _ (List.mem_of_getElem? (i := 108) (by decide +kernel))) (by decide +kernel)
set_option maxRecDepth 20000 in
theorem t_238 : (Jvm.Cond.fieldLink "MatchTrees$Trees" (179 : Nat) "MatchTrees$Order" "rule" "I") ∈ WT := WT_of (sub_tables_1_1 _ (List.mem_of_getElem? (i := 109) (by decide +kernel))) (by decide +kernel)
set_option maxRecDepth 20000 in
theorem t_239 : (Jvm.Cond.laysFinal "MatchTrees$Order" "MatchTrees$Order" "arm" "[I") ∈ WT := WT_of (sub_tables_1_1 _ (List.mem_of_getElem? (i := 110) (by decide +kernel))) (by decide +kernel)
set_option maxRecDepth 20000 in
theorem t_241 : (Jvm.Cond.lays "MatchTrees$Order" "MatchTrees$Order" "count" "I") ∈ WT := WT_of (sub_tables_1_1 _ (List.mem_of_getElem? (i := 112) (by decide +kernel))) (by decide +kernel)
set_option maxRecDepth 20000 in
theorem t_243 : (Jvm.Cond.lays "MatchTrees$Order" "MatchTrees$Order" "on" "I") ∈ WT := WT_of (sub_tables_1_1 _ (List.mem_of_getElem? (i := 114) (by decide +kernel))) (by decide +kernel)
set_option maxRecDepth 20000 in
theorem t_245 : (Jvm.Cond.lays "MatchTrees$Order" "MatchTrees$Order" "rule" "I") ∈ WT := WT_of (sub_tables_1_1 _ (List.mem_of_getElem? (i := 116) (by decide +kernel))) (by decide +kernel)
set_option maxRecDepth 20000 in
theorem t_248 : (Jvm.Cond.classLink "MatchTrees" (50 : Nat) "MatchTrees$Acts") ∈ WT := WT_of (sub_tables_1_1 _ (List.mem_of_getElem? (i := 119) (by decide +kernel))) (by decide +kernel)
set_option maxRecDepth 20000 in
theorem t_249 : (Jvm.Cond.instantiable "MatchTrees$Acts" (8 : Nat)) ∈ WT := WT_of (sub_tables_1_1 _ (List.mem_of_getElem? (i := 120) (by decide +kernel))) (by decide +kernel)
set_option maxRecDepth 20000 in
theorem t_250 : (Jvm.Cond.methodLink "MatchTrees" (52 : Nat) ({ cls := "MatchTrees$Acts", name := "<init>", desc := "()V" } : Jvm.MethodName)) ∈ WT := WT_of (sub_tables_1_1 _ (List.mem_of_getElem? (i := 121) (by decide +kernel))) (by decide +kernel)
set_option maxRecDepth 20000 in
theorem t_251 : (Jvm.Cond.instanceMethod ({ cls := "MatchTrees$Acts", name := "<init>", desc := "()V" } : Jvm.MethodName)) ∈ WT := WT_of (sub_tables_1_1 _ (List.mem_of_getElem? (i := 122) (by decide +kernel))) (by decide +kernel)
set_option maxRecDepth 20000 in
theorem t_252 : (Jvm.Cond.code ({ cls := "MatchTrees$Acts", name := "<init>", desc := "()V" } : Jvm.MethodName) prog_2_method_1_code (2 : Nat) (Option.none : Option Jvm.ClassFile.FieldType)) ∈ WT := WT_of (sub_tables_1_1 _ (List.mem_of_getElem? (i := 123) rfl)) (by decide +kernel)
set_option maxRecDepth 20000 in
theorem t_253 : (Jvm.Cond.methodLink "MatchTrees$Acts" (3 : Nat) ({ cls := "java/lang/Object", name := "<init>", desc := "()V" } : Jvm.MethodName)) ∈ WT := WT_of (sub_tables_1_1 _ (List.mem_of_getElem? (i := 124) (by decide +kernel))) (by decide +kernel)
set_option maxRecDepth 20000 in
theorem t_254 : (Jvm.Cond.classLink "MatchTrees$Acts" (21 : Nat) "MatchTrees$Order") ∈ WT := WT_of (sub_tables_1_1 _ (List.mem_of_getElem? (i := 125) (by decide +kernel))) (by decide +kernel)
set_option maxRecDepth 20000 in
theorem t_257 : (Jvm.Cond.fieldLink "MatchTrees$Acts" (9 : Nat) "MatchTrees$Acts" "row" "[I") ∈ WT := WT_of (sub_tables_1_1 _ (List.mem_of_getElem? (i := 128) (by decide +kernel))) (by decide +kernel)
set_option maxRecDepth 20000 in
theorem t_258 : (Jvm.Cond.fieldLink "MatchTrees$Acts" (15 : Nat) "MatchTrees$Acts" "arm" "[I") ∈ WT := WT_of (sub_tables_1_1 _ (List.mem_of_getElem? (i := 129) (by decide +kernel))) (by decide +kernel)
set_option maxRecDepth 20000 in
theorem t_259 : (Jvm.Cond.fieldLink "MatchTrees$Acts" (18 : Nat) "MatchTrees$Acts" "asked" "[I") ∈ WT := WT_of (sub_tables_1_1 _ (List.mem_of_getElem? (i := 130) (by decide +kernel))) (by decide +kernel)
set_option maxRecDepth 20000 in
theorem t_260 : (Jvm.Cond.fieldLink "MatchTrees$Acts" (23 : Nat) "MatchTrees$Acts" "orderAhead" "[LMatchTrees$Order;") ∈ WT := WT_of (sub_tables_1_1 _ (List.mem_of_getElem? (i := 131) (by decide +kernel))) (by decide +kernel)
set_option maxRecDepth 20000 in
theorem t_261 : (Jvm.Cond.fieldLink "MatchTrees$Acts" (27 : Nat) "MatchTrees$Acts" "keptAhead" "[I") ∈ WT := WT_of (sub_tables_1_1 _ (List.mem_of_getElem? (i := 132) (by decide +kernel))) (by decide +kernel)
set_option maxRecDepth 20000 in
theorem t_262 : (Jvm.Cond.fieldLink "MatchTrees$Acts" (31 : Nat) "MatchTrees$Acts" "keptRows" "I") ∈ WT := WT_of (sub_tables_1_1 _ (List.mem_of_getElem? (i := 133) (by decide +kernel))) (by decide +kernel)
set_option maxRecDepth 20000 in
theorem t_263 : (Jvm.Cond.fieldLink "MatchTrees$Acts" (51 : Nat) "MatchTrees$Acts" "next" "I") ∈ WT := WT_of (sub_tables_1_1 _ (List.mem_of_getElem? (i := 134) (by decide +kernel))) (by decide +kernel)
set_option maxRecDepth 20000 in
theorem t_264 : (Jvm.Cond.fieldLink "MatchTrees$Acts" (35 : Nat) "MatchTrees$Acts" "undoable" "I") ∈ WT := WT_of (sub_tables_1_1 _ (List.mem_of_getElem? (i := 135) (by decide +kernel))) (by decide +kernel)
set_option maxRecDepth 20000 in
theorem t_265 : (Jvm.Cond.fieldLink "MatchTrees" (185 : Nat) "MatchTrees$Acts" "undoable" "I") ∈ WT := WT_of (sub_tables_1_1 _ (List.mem_of_getElem? (i := 136) (by decide +kernel))) (by decide +kernel)
set_option maxRecDepth 20000 in
theorem t_266 : (Jvm.Cond.laysFinal "MatchTrees$Acts" "MatchTrees$Acts" "row" "[I") ∈ WT := WT_of (sub_tables_1_1 _ (List.mem_of_getElem? (i := 137) (by decide +kernel))) (by decide +kernel)
set_option maxRecDepth 20000 in
theorem t_268 : (Jvm.Cond.laysFinal "MatchTrees$Acts" "MatchTrees$Acts" "arm" "[I") ∈ WT := WT_of (sub_tables_1_1 _ (List.mem_of_getElem? (i := 139) (by decide +kernel))) (by decide +kernel)
set_option maxRecDepth 20000 in
theorem t_270 : (Jvm.Cond.laysFinal "MatchTrees$Acts" "MatchTrees$Acts" "asked" "[I") ∈ WT := WT_of (sub_tables_1_1 _ (List.mem_of_getElem? (i := 141) (by decide +kernel))) (by decide +kernel)
set_option maxRecDepth 20000 in
theorem t_272 : (Jvm.Cond.laysFinal "MatchTrees$Acts" "MatchTrees$Acts" "orderAhead" "[LMatchTrees$Order;") ∈ WT := WT_of (sub_tables_1_1 _ (List.mem_of_getElem? (i := 143) (by decide +kernel))) (by decide +kernel)
set_option maxRecDepth 20000 in
theorem t_274 : (Jvm.Cond.laysFinal "MatchTrees$Acts" "MatchTrees$Acts" "keptAhead" "[I") ∈ WT := WT_of (sub_tables_1_1 _ (List.mem_of_getElem? (i := 145) (by decide +kernel))) (by decide +kernel)
set_option maxRecDepth 20000 in
theorem t_276 : (Jvm.Cond.lays "MatchTrees$Acts" "MatchTrees$Acts" "keptRows" "I") ∈ WT := WT_of (sub_tables_1_1 _ (List.mem_of_getElem? (i := 147) (by decide +kernel))) (by decide +kernel)
set_option maxRecDepth 20000 in
theorem t_278 : (Jvm.Cond.lays "MatchTrees$Acts" "MatchTrees$Acts" "next" "I") ∈ WT := WT_of (sub_tables_1_1 _ (List.mem_of_getElem? (i := 149) (by decide +kernel))) (by decide +kernel)
set_option maxRecDepth 20000 in
theorem t_280 : (Jvm.Cond.lays "MatchTrees$Acts" "MatchTrees$Acts" "undoable" "I") ∈ WT := WT_of (sub_tables_1_1 _ (List.mem_of_getElem? (i := 151) (by decide +kernel))) (by decide +kernel)
set_option maxRecDepth 20000 in
theorem t_283 : (Jvm.Cond.classLink "MatchTrees" (57 : Nat) "MatchTrees$Seen") ∈ WT := WT_of (sub_tables_1_1 _ (List.mem_of_getElem? (i := 154) (by decide +kernel))) (by decide +kernel)
set_option maxRecDepth 20000 in
theorem t_284 : (Jvm.Cond.instantiable "MatchTrees$Seen" (6 : Nat)) ∈ WT := WT_of (sub_tables_1_1 _ (List.mem_of_getElem? (i := 155) (by decide +kernel))) (by decide +kernel)
set_option maxRecDepth 20000 in
theorem t_287 : (Jvm.Cond.code ({ cls := "MatchTrees$Seen", name := "<init>", desc := "()V" } : Jvm.MethodName) prog_10_method_1_code (1 : Nat) (Option.none : Option Jvm.ClassFile.FieldType)) ∈ WT := WT_of (sub_tables_1_1 _ (List.mem_of_getElem? (i := 158) rfl)) (by decide +kernel)
set_option maxRecDepth 20000 in
theorem t_288 : (Jvm.Cond.methodLink "MatchTrees$Seen" (3 : Nat) ({ cls := "java/lang/Object", name := "<init>", desc := "()V" } : Jvm.MethodName)) ∈ WT := WT_of (sub_tables_1_1 _ (List.mem_of_getElem? (i := 159) (by decide +kernel))) (by decide +kernel)
set_option maxRecDepth 20000 in
theorem t_289 : (Jvm.Cond.fieldLink "MatchTrees$Seen" (9 : Nat) "MatchTrees$Seen" "row" "[I") ∈ WT := WT_of (sub_tables_1_1 _ (List.mem_of_getElem? (i := 160) (by decide +kernel))) (by decide +kernel)
set_option maxRecDepth 20000 in
theorem t_290 : (Jvm.Cond.fieldLink "MatchTrees$Seen" (15 : Nat) "MatchTrees$Seen" "arm" "[I") ∈ WT := WT_of (sub_tables_1_1 _ (List.mem_of_getElem? (i := 161) (by decide +kernel))) (by decide +kernel)
set_option maxRecDepth 20000 in
theorem t_291 : (Jvm.Cond.fieldLink "MatchTrees$Seen" (49 : Nat) "MatchTrees$Seen" "count" "I") ∈ WT := WT_of (sub_tables_1_1 _ (List.mem_of_getElem? (i := 162) (by decide +kernel))) (by decide +kernel)
set_option maxRecDepth 20000 in
theorem t_292 : (Jvm.Cond.fieldLink "MatchTrees" (153 : Nat) "MatchTrees$Seen" "count" "I") ∈ WT := WT_of (sub_tables_1_1 _ (List.mem_of_getElem? (i := 163) (by decide +kernel))) (by decide +kernel)
set_option maxRecDepth 20000 in
theorem t_293 : (Jvm.Cond.fieldLink "MatchTrees$Seen" (18 : Nat) "MatchTrees$Seen" "set" "[I") ∈ WT := WT_of (sub_tables_1_1 _ (List.mem_of_getElem? (i := 164) (by decide +kernel))) (by decide +kernel)
set_option maxRecDepth 20000 in
theorem t_294 : (Jvm.Cond.fieldLink "MatchTrees" (375 : Nat) "MatchTrees$Seen" "set" "[I") ∈ WT := WT_of (sub_tables_1_1 _ (List.mem_of_getElem? (i := 165) (by decide +kernel))) (by decide +kernel)
set_option maxRecDepth 20000 in
theorem t_295 : (Jvm.Cond.fieldLink "MatchTrees$Seen" (55 : Nat) "MatchTrees$Seen" "sets" "I") ∈ WT := WT_of (sub_tables_1_1 _ (List.mem_of_getElem? (i := 166) (by decide +kernel))) (by decide +kernel)
set_option maxRecDepth 20000 in
theorem t_296 : (Jvm.Cond.fieldLink "MatchTrees" (372 : Nat) "MatchTrees$Seen" "sets" "I") ∈ WT := WT_of (sub_tables_1_1 _ (List.mem_of_getElem? (i := 167) (by decide +kernel))) (by decide +kernel)
set_option maxRecDepth 20000 in
theorem t_297 : (Jvm.Cond.fieldLink "MatchTrees$Seen" (21 : Nat) "MatchTrees$Seen" "tally" "[I") ∈ WT := WT_of (sub_tables_1_1 _ (List.mem_of_getElem? (i := 168) (by decide +kernel))) (by decide +kernel)
set_option maxRecDepth 20000 in
theorem t_298 : (Jvm.Cond.laysFinal "MatchTrees$Seen" "MatchTrees$Seen" "row" "[I") ∈ WT := WT_of (sub_tables_1_1 _ (List.mem_of_getElem? (i := 169) (by decide +kernel))) (by decide +kernel)
set_option maxRecDepth 20000 in
theorem t_300 : (Jvm.Cond.laysFinal "MatchTrees$Seen" "MatchTrees$Seen" "arm" "[I") ∈ WT := WT_of (sub_tables_1_1 _ (List.mem_of_getElem? (i := 171) (by decide +kernel))) (by decide +kernel)
set_option maxRecDepth 20000 in
theorem t_302 : (Jvm.Cond.lays "MatchTrees$Seen" "MatchTrees$Seen" "count" "I") ∈ WT := WT_of (sub_tables_1_1 _ (List.mem_of_getElem? (i := 173) (by decide +kernel))) (by decide +kernel)
set_option maxRecDepth 20000 in
theorem t_304 : (Jvm.Cond.laysFinal "MatchTrees$Seen" "MatchTrees$Seen" "set" "[I") ∈ WT := WT_of (sub_tables_1_1 _ (List.mem_of_getElem? (i := 175) (by decide +kernel))) (by decide +kernel)
set_option maxRecDepth 20000 in
theorem t_306 : (Jvm.Cond.lays "MatchTrees$Seen" "MatchTrees$Seen" "sets" "I") ∈ WT := WT_of (sub_tables_1_1 _ (List.mem_of_getElem? (i := 177) (by decide +kernel))) (by decide +kernel)
set_option maxRecDepth 20000 in
theorem t_308 : (Jvm.Cond.laysFinal "MatchTrees$Seen" "MatchTrees$Seen" "tally" "[I") ∈ WT := WT_of (sub_tables_1_1 _ (List.mem_of_getElem? (i := 179) (by decide +kernel))) (by decide +kernel)
set_option maxRecDepth 20000 in
theorem t_311 : (Jvm.Cond.classLink "MatchTrees" (68 : Nat) "MatchTrees$Table") ∈ WT := WT_of (sub_tables_1_1 _ (List.mem_of_getElem? (i := 182) (by decide +kernel))) (by decide +kernel)
set_option maxRecDepth 20000 in
theorem t_312 : (Jvm.Cond.instantiable "MatchTrees$Table" (11 : Nat)) ∈ WT := WT_of (sub_tables_1_1 _ (List.mem_of_getElem? (i := 183) (by decide +kernel))) (by decide +kernel)
set_option maxRecDepth 20000 in
theorem t_315 : (Jvm.Cond.code ({ cls := "MatchTrees$Table", name := "<init>", desc := "()V" } : Jvm.MethodName) prog_11_method_1_code (1 : Nat) (Option.none : Option Jvm.ClassFile.FieldType)) ∈ WT := WT_of (sub_tables_1_1 _ (List.mem_of_getElem? (i := 186) rfl)) (by decide +kernel)
set_option maxRecDepth 20000 in
theorem t_316 : (Jvm.Cond.methodLink "MatchTrees$Table" (3 : Nat) ({ cls := "java/lang/Object", name := "<init>", desc := "()V" } : Jvm.MethodName)) ∈ WT := WT_of (sub_tables_1_1 _ (List.mem_of_getElem? (i := 187) (by decide +kernel))) (by decide +kernel)
set_option maxRecDepth 20000 in
theorem t_317 : (Jvm.Cond.classLink "MatchTrees$Table" (9 : Nat) "MatchTrees$Kinds") ∈ WT := WT_of (sub_tables_1_1 _ (List.mem_of_getElem? (i := 188) (by decide +kernel))) (by decide +kernel)
set_option maxRecDepth 20000 in
theorem t_318 : (Jvm.Cond.instantiable "MatchTrees$Kinds" (11 : Nat)) ∈ WT := WT_of (sub_tables_1_1 _ (List.mem_of_getElem? (i := 189) (by decide +kernel))) (by decide +kernel)
set_option maxRecDepth 20000 in
theorem t_321 : (Jvm.Cond.code ({ cls := "MatchTrees$Kinds", name := "<init>", desc := "()V" } : Jvm.MethodName) prog_5_method_1_code (1 : Nat) (Option.none : Option Jvm.ClassFile.FieldType)) ∈ WT := WT_of (sub_tables_1_1 _ (List.mem_of_getElem? (i := 192) rfl)) (by decide +kernel)
set_option maxRecDepth 20000 in
theorem t_322 : (Jvm.Cond.methodLink "MatchTrees$Kinds" (3 : Nat) ({ cls := "java/lang/Object", name := "<init>", desc := "()V" } : Jvm.MethodName)) ∈ WT := WT_of (sub_tables_1_1 _ (List.mem_of_getElem? (i := 193) (by decide +kernel))) (by decide +kernel)
set_option maxRecDepth 20000 in
theorem t_323 : (Jvm.Cond.fieldLink "MatchTrees$Kinds" (9 : Nat) "MatchTrees$Kinds" "kindName" "[I") ∈ WT := WT_of (sub_tables_1_1 _ (List.mem_of_getElem? (i := 194) (by decide +kernel))) (by decide +kernel)
set_option maxRecDepth 20000 in
theorem t_324 : (Jvm.Cond.fieldLink "MatchTrees" (191 : Nat) "MatchTrees$Kinds" "kindName" "[I") ∈ WT := WT_of (sub_tables_1_1 _ (List.mem_of_getElem? (i := 195) (by decide +kernel))) (by decide +kernel)
set_option maxRecDepth 20000 in
theorem t_325 : (Jvm.Cond.fieldLink "MatchTrees$Kinds" (15 : Nat) "MatchTrees$Kinds" "firstCon" "[I") ∈ WT := WT_of (sub_tables_1_1 _ (List.mem_of_getElem? (i := 196) (by decide +kernel))) (by decide +kernel)
set_option maxRecDepth 20000 in
theorem t_326 : (Jvm.Cond.fieldLink "MatchTrees$Kinds" (18 : Nat) "MatchTrees$Kinds" "conCount" "[I") ∈ WT := WT_of (sub_tables_1_1 _ (List.mem_of_getElem? (i := 197) (by decide +kernel))) (by decide +kernel)
set_option maxRecDepth 20000 in
theorem t_327 : (Jvm.Cond.fieldLink "MatchTrees$Kinds" (21 : Nat) "MatchTrees$Kinds" "size" "[I") ∈ WT := WT_of (sub_tables_1_1 _ (List.mem_of_getElem? (i := 198) (by decide +kernel))) (by decide +kernel)
set_option maxRecDepth 20000 in
theorem t_328 : (Jvm.Cond.fieldLink "MatchTrees$Kinds" (24 : Nat) "MatchTrees$Kinds" "conName" "[I") ∈ WT := WT_of (sub_tables_1_1 _ (List.mem_of_getElem? (i := 199) (by decide +kernel))) (by decide +kernel)
set_option maxRecDepth 20000 in
theorem t_329 : (Jvm.Cond.fieldLink "MatchTrees" (201 : Nat) "MatchTrees$Kinds" "conName" "[I") ∈ WT := WT_of (sub_tables_1_1 _ (List.mem_of_getElem? (i := 200) (by decide +kernel))) (by decide +kernel)
set_option maxRecDepth 20000 in
theorem t_330 : (Jvm.Cond.fieldLink "MatchTrees$Kinds" (27 : Nat) "MatchTrees$Kinds" "base" "[I") ∈ WT := WT_of (sub_tables_1_1 _ (List.mem_of_getElem? (i := 201) (by decide +kernel))) (by decide +kernel)
set_option maxRecDepth 20000 in
theorem t_331 : (Jvm.Cond.fieldLink "MatchTrees$Reader" (190 : Nat) "MatchTrees$Kinds" "base" "[I") ∈ WT := WT_of (sub_tables_1_1 _ (List.mem_of_getElem? (i := 202) (by decide +kernel))) (by decide +kernel)
set_option maxRecDepth 20000 in
theorem t_332 : (Jvm.Cond.fieldLink "MatchTrees" (291 : Nat) "MatchTrees$Kinds" "base" "[I") ∈ WT := WT_of (sub_tables_1_1 _ (List.mem_of_getElem? (i := 203) (by decide +kernel))) (by decide +kernel)
set_option maxRecDepth 20000 in
theorem t_333 : (Jvm.Cond.fieldLink "MatchTrees$Kinds" (30 : Nat) "MatchTrees$Kinds" "fields" "[I") ∈ WT := WT_of (sub_tables_1_1 _ (List.mem_of_getElem? (i := 204) (by decide +kernel))) (by decide +kernel)
set_option maxRecDepth 20000 in
theorem t_334 : (Jvm.Cond.fieldLink "MatchTrees$Reader" (187 : Nat) "MatchTrees$Kinds" "fields" "[I") ∈ WT := WT_of (sub_tables_1_1 _ (List.mem_of_getElem? (i := 205) (by decide +kernel))) (by decide +kernel)
set_option maxRecDepth 20000 in
theorem t_335 : (Jvm.Cond.fieldLink "MatchTrees" (288 : Nat) "MatchTrees$Kinds" "fields" "[I") ∈ WT := WT_of (sub_tables_1_1 _ (List.mem_of_getElem? (i := 206) (by decide +kernel))) (by decide +kernel)
set_option maxRecDepth 20000 in
theorem t_336 : (Jvm.Cond.fieldLink "MatchTrees$Kinds" (33 : Nat) "MatchTrees$Kinds" "fieldA" "[I") ∈ WT := WT_of (sub_tables_1_1 _ (List.mem_of_getElem? (i := 207) (by decide +kernel))) (by decide +kernel)
set_option maxRecDepth 20000 in
theorem t_337 : (Jvm.Cond.fieldLink "MatchTrees$Reader" (193 : Nat) "MatchTrees$Kinds" "fieldA" "[I") ∈ WT := WT_of (sub_tables_1_1 _ (List.mem_of_getElem? (i := 208) (by decide +kernel))) (by decide +kernel)
set_option maxRecDepth 20000 in
theorem t_338 : (Jvm.Cond.fieldLink "MatchTrees" (294 : Nat) "MatchTrees$Kinds" "fieldA" "[I") ∈ WT := WT_of (sub_tables_1_1 _ (List.mem_of_getElem? (i := 209) (by decide +kernel))) (by decide +kernel)
set_option maxRecDepth 20000 in
theorem t_339 : (Jvm.Cond.fieldLink "MatchTrees$Kinds" (36 : Nat) "MatchTrees$Kinds" "fieldB" "[I") ∈ WT := WT_of (sub_tables_1_1 _ (List.mem_of_getElem? (i := 210) (by decide +kernel))) (by decide +kernel)
set_option maxRecDepth 20000 in
theorem t_340 : (Jvm.Cond.fieldLink "MatchTrees$Reader" (196 : Nat) "MatchTrees$Kinds" "fieldB" "[I") ∈ WT := WT_of (sub_tables_1_1 _ (List.mem_of_getElem? (i := 211) (by decide +kernel))) (by decide +kernel)
set_option maxRecDepth 20000 in
theorem t_341 : (Jvm.Cond.fieldLink "MatchTrees" (297 : Nat) "MatchTrees$Kinds" "fieldB" "[I") ∈ WT := WT_of (sub_tables_1_1 _ (List.mem_of_getElem? (i := 212) (by decide +kernel))) (by decide +kernel)
set_option maxRecDepth 20000 in
theorem t_342 : (Jvm.Cond.fieldLink "MatchTrees$Kinds" (39 : Nat) "MatchTrees$Kinds" "kinds" "I") ∈ WT := WT_of (sub_tables_1_1 _ (List.mem_of_getElem? (i := 213) (by decide +kernel))) (by decide +kernel)
set_option maxRecDepth 20000 in
theorem t_343 : (Jvm.Cond.fieldLink "MatchTrees" (166 : Nat) "MatchTrees$Kinds" "kinds" "I") ∈ WT := WT_of (sub_tables_1_1 _ (List.mem_of_getElem? (i := 214) (by decide +kernel))) (by decide +kernel)
set_option maxRecDepth 20000 in
theorem t_344 : (Jvm.Cond.fieldLink "MatchTrees$Reader" (112 : Nat) "MatchTrees$Kinds" "kinds" "I") ∈ WT := WT_of (sub_tables_1_1 _ (List.mem_of_getElem? (i := 215) (by decide +kernel))) (by decide +kernel)
set_option maxRecDepth 20000 in
theorem t_345 : (Jvm.Cond.fieldLink "MatchTrees$Kinds" (43 : Nat) "MatchTrees$Kinds" "cons" "I") ∈ WT := WT_of (sub_tables_1_1 _ (List.mem_of_getElem? (i := 216) (by decide +kernel))) (by decide +kernel)
set_option maxRecDepth 20000 in
theorem t_346 : (Jvm.Cond.fieldLink "MatchTrees" (170 : Nat) "MatchTrees$Kinds" "cons" "I") ∈ WT := WT_of (sub_tables_1_1 _ (List.mem_of_getElem? (i := 217) (by decide +kernel))) (by decide +kernel)
set_option maxRecDepth 20000 in
theorem t_347 : (Jvm.Cond.laysFinal "MatchTrees$Kinds" "MatchTrees$Kinds" "kindName" "[I") ∈ WT := WT_of (sub_tables_1_1 _ (List.mem_of_getElem? (i := 218) (by decide +kernel))) (by decide +kernel)
set_option maxRecDepth 20000 in
theorem t_349 : (Jvm.Cond.laysFinal "MatchTrees$Kinds" "MatchTrees$Kinds" "firstCon" "[I") ∈ WT := WT_of (sub_tables_1_1 _ (List.mem_of_getElem? (i := 220) (by decide +kernel))) (by decide +kernel)
set_option maxRecDepth 20000 in
theorem t_351 : (Jvm.Cond.laysFinal "MatchTrees$Kinds" "MatchTrees$Kinds" "conCount" "[I") ∈ WT := WT_of (sub_tables_1_1 _ (List.mem_of_getElem? (i := 222) (by decide +kernel))) (by decide +kernel)
set_option maxRecDepth 20000 in
theorem t_353 : (Jvm.Cond.laysFinal "MatchTrees$Kinds" "MatchTrees$Kinds" "size" "[I") ∈ WT := WT_of (sub_tables_1_1 _ (List.mem_of_getElem? (i := 224) (by decide +kernel))) (by decide +kernel)
set_option maxRecDepth 20000 in
theorem t_355 : (Jvm.Cond.laysFinal "MatchTrees$Kinds" "MatchTrees$Kinds" "conName" "[I") ∈ WT := WT_of (sub_tables_1_1 _ (List.mem_of_getElem? (i := 226) (by decide +kernel))) (by decide +kernel)
set_option maxRecDepth 20000 in
theorem t_357 : (Jvm.Cond.laysFinal "MatchTrees$Kinds" "MatchTrees$Kinds" "base" "[I") ∈ WT := WT_of (sub_tables_1_1 _ (List.mem_of_getElem? (i := 228) (by decide +kernel))) (by decide +kernel)
set_option maxRecDepth 20000 in
theorem t_359 : (Jvm.Cond.laysFinal "MatchTrees$Kinds" "MatchTrees$Kinds" "fields" "[I") ∈ WT := WT_of (sub_tables_1_1 _ (List.mem_of_getElem? (i := 230) (by decide +kernel))) (by decide +kernel)
set_option maxRecDepth 20000 in
theorem t_361 : (Jvm.Cond.laysFinal "MatchTrees$Kinds" "MatchTrees$Kinds" "fieldA" "[I") ∈ WT := WT_of (sub_tables_1_1 _ (List.mem_of_getElem? (i := 232) (by decide +kernel))) (by decide +kernel)
set_option maxRecDepth 20000 in
theorem t_363 : (Jvm.Cond.laysFinal "MatchTrees$Kinds" "MatchTrees$Kinds" "fieldB" "[I") ∈ WT := WT_of (sub_tables_1_1 _ (List.mem_of_getElem? (i := 234) (by decide +kernel))) (by decide +kernel)
set_option maxRecDepth 20000 in
theorem t_365 : (Jvm.Cond.lays "MatchTrees$Kinds" "MatchTrees$Kinds" "kinds" "I") ∈ WT := WT_of (sub_tables_1_1 _ (List.mem_of_getElem? (i := 236) (by decide +kernel))) (by decide +kernel)
set_option maxRecDepth 20000 in
theorem t_367 : (Jvm.Cond.lays "MatchTrees$Kinds" "MatchTrees$Kinds" "cons" "I") ∈ WT := WT_of (sub_tables_1_1 _ (List.mem_of_getElem? (i := 238) (by decide +kernel))) (by decide +kernel)
set_option maxRecDepth 20000 in
theorem t_370 : (Jvm.Cond.classLink "MatchTrees$Table" (31 : Nat) "[[I") ∈ WT := WT_of (sub_tables_1_2 _ (List.mem_of_getElem? (i := 1) (by decide +kernel))) (by decide +kernel)
set_option maxRecDepth 20000 in
theorem t_372 : (Jvm.Cond.fieldLink "MatchTrees$Table" (12 : Nat) "MatchTrees$Table" "kinds" "LMatchTrees$Kinds;") ∈ WT := WT_of (sub_tables_1_2 _ (List.mem_of_getElem? (i := 3) (by decide +kernel))) (by decide +kernel)
set_option maxRecDepth 20000 in
theorem t_373 : (Jvm.Cond.fieldLink "MatchTrees" (162 : Nat) "MatchTrees$Table" "kinds" "LMatchTrees$Kinds;") ∈ WT := WT_of (sub_tables_1_2 _ (List.mem_of_getElem? (i := 4) (by decide +kernel))) (by decide +kernel)
set_option maxRecDepth 20000 in
theorem t_374 : (Jvm.Cond.fieldLink "MatchTrees$Reader" (108 : Nat) "MatchTrees$Table" "kinds" "LMatchTrees$Kinds;") ∈ WT := WT_of (sub_tables_1_2 _ (List.mem_of_getElem? (i := 5) (by decide +kernel))) (by decide +kernel)
set_option maxRecDepth 20000 in
theorem t_375 : (Jvm.Cond.fieldLink "MatchTrees$Table" (18 : Nat) "MatchTrees$Table" "kindOf" "[I") ∈ WT := WT_of (sub_tables_1_2 _ (List.mem_of_getElem? (i := 6) (by decide +kernel))) (by decide +kernel)
set_option maxRecDepth 20000 in
theorem t_376 : (Jvm.Cond.fieldLink "MatchTrees$Reader" (159 : Nat) "MatchTrees$Table" "kindOf" "[I") ∈ WT := WT_of (sub_tables_1_2 _ (List.mem_of_getElem? (i := 7) (by decide +kernel))) (by decide +kernel)
set_option maxRecDepth 20000 in
theorem t_377 : (Jvm.Cond.fieldLink "MatchTrees" (266 : Nat) "MatchTrees$Table" "kindOf" "[I") ∈ WT := WT_of (sub_tables_1_2 _ (List.mem_of_getElem? (i := 8) (by decide +kernel))) (by decide +kernel)
set_option maxRecDepth 20000 in
theorem t_378 : (Jvm.Cond.fieldLink "MatchTrees$Table" (22 : Nat) "MatchTrees$Table" "size" "[I") ∈ WT := WT_of (sub_tables_1_2 _ (List.mem_of_getElem? (i := 9) (by decide +kernel))) (by decide +kernel)
set_option maxRecDepth 20000 in
theorem t_379 : (Jvm.Cond.fieldLink "MatchTrees$Trees" (53 : Nat) "MatchTrees$Table" "size" "[I") ∈ WT := WT_of (sub_tables_1_2 _ (List.mem_of_getElem? (i := 10) (by decide +kernel))) (by decide +kernel)
set_option maxRecDepth 20000 in
theorem t_380 : (Jvm.Cond.fieldLink "MatchTrees" (245 : Nat) "MatchTrees$Table" "size" "[I") ∈ WT := WT_of (sub_tables_1_2 _ (List.mem_of_getElem? (i := 11) (by decide +kernel))) (by decide +kernel)
set_option maxRecDepth 20000 in
theorem t_381 : (Jvm.Cond.fieldLink "MatchTrees$Reader" (218 : Nat) "MatchTrees$Table" "size" "[I") ∈ WT := WT_of (sub_tables_1_2 _ (List.mem_of_getElem? (i := 12) (by decide +kernel))) (by decide +kernel)
set_option maxRecDepth 20000 in
theorem t_382 : (Jvm.Cond.fieldLink "MatchTrees$Table" (25 : Nat) "MatchTrees$Table" "full" "[I") ∈ WT := WT_of (sub_tables_1_2 _ (List.mem_of_getElem? (i := 13) (by decide +kernel))) (by decide +kernel)
set_option maxRecDepth 20000 in
theorem t_383 : (Jvm.Cond.fieldLink "MatchTrees$Trees" (74 : Nat) "MatchTrees$Table" "full" "[I") ∈ WT := WT_of (sub_tables_1_2 _ (List.mem_of_getElem? (i := 14) (by decide +kernel))) (by decide +kernel)
set_option maxRecDepth 20000 in
theorem t_384 : (Jvm.Cond.fieldLink "MatchTrees$Table" (28 : Nat) "MatchTrees$Table" "guard" "[I") ∈ WT := WT_of (sub_tables_1_2 _ (List.mem_of_getElem? (i := 15) (by decide +kernel))) (by decide +kernel)
set_option maxRecDepth 20000 in
theorem t_385 : (Jvm.Cond.fieldLink "MatchTrees$Table" (33 : Nat) "MatchTrees$Table" "fitting" "[[I") ∈ WT := WT_of (sub_tables_1_2 _ (List.mem_of_getElem? (i := 16) (by decide +kernel))) (by decide +kernel)
set_option maxRecDepth 20000 in
theorem t_386 : (Jvm.Cond.fieldLink "MatchTrees$Table" (39 : Nat) "MatchTrees$Table" "columns" "I") ∈ WT := WT_of (sub_tables_1_2 _ (List.mem_of_getElem? (i := 17) (by decide +kernel))) (by decide +kernel)
set_option maxRecDepth 20000 in
theorem t_387 : (Jvm.Cond.fieldLink "MatchTrees$Trees" (44 : Nat) "MatchTrees$Table" "columns" "I") ∈ WT := WT_of (sub_tables_1_2 _ (List.mem_of_getElem? (i := 18) (by decide +kernel))) (by decide +kernel)
set_option maxRecDepth 20000 in
theorem t_388 : (Jvm.Cond.fieldLink "MatchTrees$Reader" (79 : Nat) "MatchTrees$Table" "columns" "I") ∈ WT := WT_of (sub_tables_1_2 _ (List.mem_of_getElem? (i := 19) (by decide +kernel))) (by decide +kernel)
set_option maxRecDepth 20000 in
theorem t_389 : (Jvm.Cond.fieldLink "MatchTrees" (130 : Nat) "MatchTrees$Table" "columns" "I") ∈ WT := WT_of (sub_tables_1_2 _ (List.mem_of_getElem? (i := 20) (by decide +kernel))) (by decide +kernel)
set_option maxRecDepth 20000 in
theorem t_390 : (Jvm.Cond.fieldLink "MatchTrees$Table" (43 : Nat) "MatchTrees$Table" "rows" "I") ∈ WT := WT_of (sub_tables_1_2 _ (List.mem_of_getElem? (i := 21) (by decide +kernel))) (by decide +kernel)
set_option maxRecDepth 20000 in
theorem t_391 : (Jvm.Cond.fieldLink "MatchTrees" (173 : Nat) "MatchTrees$Table" "rows" "I") ∈ WT := WT_of (sub_tables_1_2 _ (List.mem_of_getElem? (i := 22) (by decide +kernel))) (by decide +kernel)
set_option maxRecDepth 20000 in
theorem t_392 : (Jvm.Cond.fieldLink "MatchTrees$Table" (46 : Nat) "MatchTrees$Table" "arms" "I") ∈ WT := WT_of (sub_tables_1_2 _ (List.mem_of_getElem? (i := 23) (by decide +kernel))) (by decide +kernel)
set_option maxRecDepth 20000 in
theorem t_393 : (Jvm.Cond.fieldLink "MatchTrees" (123 : Nat) "MatchTrees$Table" "arms" "I") ∈ WT := WT_of (sub_tables_1_2 _ (List.mem_of_getElem? (i := 24) (by decide +kernel))) (by decide +kernel)
set_option maxRecDepth 20000 in
theorem t_394 : (Jvm.Cond.fieldLink "MatchTrees$Reader" (156 : Nat) "MatchTrees$Table" "arms" "I") ∈ WT := WT_of (sub_tables_1_2 _ (List.mem_of_getElem? (i := 25) (by decide +kernel))) (by decide +kernel)
set_option maxRecDepth 20000 in
theorem t_395 : (Jvm.Cond.fieldLink "MatchTrees$Table" (49 : Nat) "MatchTrees$Table" "rule" "I") ∈ WT := WT_of (sub_tables_1_2 _ (List.mem_of_getElem? (i := 26) (by decide +kernel))) (by decide +kernel)
set_option maxRecDepth 20000 in
theorem t_396 : (Jvm.Cond.fieldLink "MatchTrees" (145 : Nat) "MatchTrees$Table" "rule" "I") ∈ WT := WT_of (sub_tables_1_2 _ (List.mem_of_getElem? (i := 27) (by decide +kernel))) (by decide +kernel)
set_option maxRecDepth 20000 in
theorem t_397 : (Jvm.Cond.fieldLink "MatchTrees$Reader" (102 : Nat) "MatchTrees$Table" "rule" "I") ∈ WT := WT_of (sub_tables_1_2 _ (List.mem_of_getElem? (i := 28) (by decide +kernel))) (by decide +kernel)
set_option maxRecDepth 20000 in
theorem t_398 : (Jvm.Cond.fieldLink "MatchTrees$Table" (52 : Nat) "MatchTrees$Table" "budget" "I") ∈ WT := WT_of (sub_tables_1_2 _ (List.mem_of_getElem? (i := 29) (by decide +kernel))) (by decide +kernel)
set_option maxRecDepth 20000 in
theorem t_399 : (Jvm.Cond.fieldLink "MatchTrees$Reader" (105 : Nat) "MatchTrees$Table" "budget" "I") ∈ WT := WT_of (sub_tables_1_2 _ (List.mem_of_getElem? (i := 30) (by decide +kernel))) (by decide +kernel)
set_option maxRecDepth 20000 in
theorem t_400 : (Jvm.Cond.fieldLink "MatchTrees$Trees" (203 : Nat) "MatchTrees$Table" "budget" "I") ∈ WT := WT_of (sub_tables_1_2 _ (List.mem_of_getElem? (i := 31) (by decide +kernel))) (by decide +kernel)
set_option maxRecDepth 20000 in
theorem t_401 : (Jvm.Cond.laysFinal "MatchTrees$Table" "MatchTrees$Table" "kinds" "LMatchTrees$Kinds;") ∈ WT := WT_of (sub_tables_1_2 _ (List.mem_of_getElem? (i := 32) (by decide +kernel))) (by decide +kernel)
set_option maxRecDepth 20000 in
theorem t_403 : (Jvm.Cond.laysFinal "MatchTrees$Table" "MatchTrees$Table" "kindOf" "[I") ∈ WT := WT_of (sub_tables_1_2 _ (List.mem_of_getElem? (i := 34) (by decide +kernel))) (by decide +kernel)
set_option maxRecDepth 20000 in
theorem t_405 : (Jvm.Cond.laysFinal "MatchTrees$Table" "MatchTrees$Table" "size" "[I") ∈ WT := WT_of (sub_tables_1_2 _ (List.mem_of_getElem? (i := 36) (by decide +kernel))) (by decide +kernel)
set_option maxRecDepth 20000 in
theorem t_407 : (Jvm.Cond.laysFinal "MatchTrees$Table" "MatchTrees$Table" "full" "[I") ∈ WT := WT_of (sub_tables_1_2 _ (List.mem_of_getElem? (i := 38) (by decide +kernel))) (by decide +kernel)
set_option maxRecDepth 20000 in
theorem t_409 : (Jvm.Cond.laysFinal "MatchTrees$Table" "MatchTrees$Table" "guard" "[I") ∈ WT := WT_of (sub_tables_1_2 _ (List.mem_of_getElem? (i := 40) (by decide +kernel))) (by decide +kernel)
set_option maxRecDepth 20000 in
theorem t_411 : (Jvm.Cond.laysFinal "MatchTrees$Table" "MatchTrees$Table" "fitting" "[[I") ∈ WT := WT_of (sub_tables_1_2 _ (List.mem_of_getElem? (i := 42) (by decide +kernel))) (by decide +kernel)
set_option maxRecDepth 20000 in
theorem t_413 : (Jvm.Cond.lays "MatchTrees$Table" "MatchTrees$Table" "columns" "I") ∈ WT := WT_of (sub_tables_1_2 _ (List.mem_of_getElem? (i := 44) (by decide +kernel))) (by decide +kernel)
set_option maxRecDepth 20000 in
theorem t_415 : (Jvm.Cond.lays "MatchTrees$Table" "MatchTrees$Table" "rows" "I") ∈ WT := WT_of (sub_tables_1_2 _ (List.mem_of_getElem? (i := 46) (by decide +kernel))) (by decide +kernel)
set_option maxRecDepth 20000 in
theorem t_417 : (Jvm.Cond.lays "MatchTrees$Table" "MatchTrees$Table" "arms" "I") ∈ WT := WT_of (sub_tables_1_2 _ (List.mem_of_getElem? (i := 48) (by decide +kernel))) (by decide +kernel)
set_option maxRecDepth 20000 in
theorem t_419 : (Jvm.Cond.lays "MatchTrees$Table" "MatchTrees$Table" "rule" "I") ∈ WT := WT_of (sub_tables_1_2 _ (List.mem_of_getElem? (i := 50) (by decide +kernel))) (by decide +kernel)
set_option maxRecDepth 20000 in
theorem t_421 : (Jvm.Cond.lays "MatchTrees$Table" "MatchTrees$Table" "budget" "I") ∈ WT := WT_of (sub_tables_1_2 _ (List.mem_of_getElem? (i := 52) (by decide +kernel))) (by decide +kernel)
set_option maxRecDepth 20000 in
theorem t_424 : (Jvm.Cond.classLink "MatchTrees" (78 : Nat) "MatchTrees$Reader") ∈ WT := WT_of (sub_tables_1_2 _ (List.mem_of_getElem? (i := 55) (by decide +kernel))) (by decide +kernel)
set_option maxRecDepth 20000 in
theorem t_425 : (Jvm.Cond.instantiable "MatchTrees$Reader" (5 : Nat)) ∈ WT := WT_of (sub_tables_1_2 _ (List.mem_of_getElem? (i := 56) (by decide +kernel))) (by decide +kernel)
set_option maxRecDepth 20000 in
theorem t_426 : (Jvm.Cond.methodLink "MatchTrees" (80 : Nat) ({ cls := "MatchTrees$Reader", name := "<init>", desc := "(LMatchTrees$Table;)V" } : Jvm.MethodName)) ∈ WT := WT_of (sub_tables_1_2 _ (List.mem_of_getElem? (i := 57) (by decide +kernel))) (by decide +kernel)
set_option maxRecDepth 20000 in
theorem t_427 : (Jvm.Cond.instanceMethod ({ cls := "MatchTrees$Reader", name := "<init>", desc := "(LMatchTrees$Table;)V" } : Jvm.MethodName)) ∈ WT := WT_of (sub_tables_1_2 _ (List.mem_of_getElem? (i := 58) (by decide +kernel))) (by decide +kernel)
set_option maxRecDepth 20000 in
theorem t_428 : (Jvm.Cond.code ({ cls := "MatchTrees$Reader", name := "<init>", desc := "(LMatchTrees$Table;)V" } : Jvm.MethodName) prog_8_method_1_code (2 : Nat) (Option.none : Option Jvm.ClassFile.FieldType)) ∈ WT := WT_of (sub_tables_1_2 _ (List.mem_of_getElem? (i := 59) rfl)) (by decide +kernel)
set_option maxRecDepth 20000 in
theorem t_429 : (Jvm.Cond.methodLink "MatchTrees$Reader" (3 : Nat) ({ cls := "java/lang/Object", name := "<init>", desc := "()V" } : Jvm.MethodName)) ∈ WT := WT_of (sub_tables_1_2 _ (List.mem_of_getElem? (i := 60) (by decide +kernel))) (by decide +kernel)
set_option maxRecDepth 20000 in
theorem t_430 : (Jvm.Cond.classLink "MatchTrees$Reader" (9 : Nat) "MatchTrees$Scanner") ∈ WT := WT_of (sub_tables_1_2 _ (List.mem_of_getElem? (i := 61) (by decide +kernel))) (by decide +kernel)
set_option maxRecDepth 20000 in
theorem t_431 : (Jvm.Cond.instantiable "MatchTrees$Scanner" (9 : Nat)) ∈ WT := WT_of (sub_tables_1_2 _ (List.mem_of_getElem? (i := 62) (by decide +kernel))) (by decide +kernel)
set_option maxRecDepth 20000 in
theorem t_434 : (Jvm.Cond.code ({ cls := "MatchTrees$Scanner", name := "<init>", desc := "()V" } : Jvm.MethodName) prog_9_method_1_code (1 : Nat) (Option.none : Option Jvm.ClassFile.FieldType)) ∈ WT := WT_of (sub_tables_1_2 _ (List.mem_of_getElem? (i := 65) rfl)) (by decide +kernel)
set_option maxRecDepth 20000 in
theorem t_435 : (Jvm.Cond.methodLink "MatchTrees$Scanner" (3 : Nat) ({ cls := "java/lang/Object", name := "<init>", desc := "()V" } : Jvm.MethodName)) ∈ WT := WT_of (sub_tables_1_2 _ (List.mem_of_getElem? (i := 66) (by decide +kernel))) (by decide +kernel)
set_option maxRecDepth 20000 in
theorem t_437 : (Jvm.Cond.methodLink "MatchTrees$Scanner" (11 : Nat) ({ cls := "MatchTrees$Scanner", name := "spell", desc := "(Ljava/lang/String;)I" } : Jvm.MethodName)) ∈ WT := WT_of (sub_tables_1_2 _ (List.mem_of_getElem? (i := 68) (by decide +kernel))) (by decide +kernel)
set_option maxRecDepth 20000 in
theorem t_438 : (Jvm.Cond.static ({ cls := "MatchTrees$Scanner", name := "spell", desc := "(Ljava/lang/String;)I" } : Jvm.MethodName)) ∈ WT := WT_of (sub_tables_1_2 _ (List.mem_of_getElem? (i := 69) (by decide +kernel))) (by decide +kernel)
set_option maxRecDepth 20000 in
theorem t_439 : (Jvm.Cond.code ({ cls := "MatchTrees$Scanner", name := "spell", desc := "(Ljava/lang/String;)I" } : Jvm.MethodName) prog_9_method_2_code (3 : Nat) (Option.some Jvm.ClassFile.FieldType.int)) ∈ WT := WT_of (sub_tables_1_2 _ (List.mem_of_getElem? (i := 70) rfl)) (by decide +kernel)
set_option maxRecDepth 20000 in
theorem t_440 : (Jvm.Cond.methodLink "MatchTrees$Scanner" (44 : Nat) ({ cls := "java/lang/String", name := "length", desc := "()I" } : Jvm.MethodName)) ∈ WT := WT_of (sub_tables_1_2 _ (List.mem_of_getElem? (i := 71) (by decide +kernel))) (by decide +kernel)
set_option maxRecDepth 20000 in
theorem t_441 : (Jvm.Cond.instanceMethod ({ cls := "java/lang/String", name := "length", desc := "()I" } : Jvm.MethodName)) ∈ WT := WT_of (sub_tables_1_2 _ (List.mem_of_getElem? (i := 72) (by decide +kernel))) (by decide +kernel)
set_option maxRecDepth 20000 in
theorem t_442 : (Jvm.Cond.selects "java/lang/String" ({ cls := "java/lang/String", name := "length", desc := "()I" } : Jvm.MethodName) ({ cls := "java/lang/String", name := "length", desc := "()I" } : Jvm.MethodName)) ∈ WT := WT_of (sub_tables_1_2 _ (List.mem_of_getElem? (i := 73) (by decide +kernel))) (by decide +kernel)
set_option maxRecDepth 20000 in
theorem t_443 : (Jvm.Cond.code ({ cls := "java/lang/String", name := "length", desc := "()I" } : Jvm.MethodName) prog_17_method_54_code (1 : Nat) (Option.some Jvm.ClassFile.FieldType.int)) ∈ WT := WT_of (sub_tables_1_2 _ (List.mem_of_getElem? (i := 74) rfl)) (by decide +kernel)
set_option maxRecDepth 20000 in
theorem t_444 : (Jvm.Cond.methodLink "java/lang/String" (335 : Nat) ({ cls := "java/lang/String", name := "coder", desc := "()B" } : Jvm.MethodName)) ∈ WT := WT_of (sub_tables_1_2 _ (List.mem_of_getElem? (i := 75) (by decide +kernel))) (by decide +kernel)
set_option maxRecDepth 20000 in
theorem t_445 : (Jvm.Cond.instanceMethod ({ cls := "java/lang/String", name := "coder", desc := "()B" } : Jvm.MethodName)) ∈ WT := WT_of (sub_tables_1_2 _ (List.mem_of_getElem? (i := 76) (by decide +kernel))) (by decide +kernel)
set_option maxRecDepth 20000 in
theorem t_446 : (Jvm.Cond.selects "java/lang/String" ({ cls := "java/lang/String", name := "coder", desc := "()B" } : Jvm.MethodName) ({ cls := "java/lang/String", name := "coder", desc := "()B" } : Jvm.MethodName)) ∈ WT := WT_of (sub_tables_1_2 _ (List.mem_of_getElem? (i := 77) (by decide +kernel))) (by decide +kernel)
set_option maxRecDepth 20000 in
theorem t_447 : (Jvm.Cond.code ({ cls := "java/lang/String", name := "coder", desc := "()B" } : Jvm.MethodName) prog_17_method_152_code (1 : Nat) (Option.some Jvm.ClassFile.FieldType.byte)) ∈ WT := WT_of (sub_tables_1_2 _ (List.mem_of_getElem? (i := 78) rfl)) (by decide +kernel)
set_option maxRecDepth 20000 in
theorem t_448 : (Jvm.Cond.fieldLink "java/lang/String" (38 : Nat) "java/lang/String" "COMPACT_STRINGS" "Z") ∈ WT := WT_of (sub_tables_1_2 _ (List.mem_of_getElem? (i := 79) (by decide +kernel))) (by decide +kernel)
set_option maxRecDepth 20000 in
theorem t_450 : (Jvm.Cond.methodLink "MatchTrees$Scanner" (50 : Nat) ({ cls := "java/lang/String", name := "charAt", desc := "(I)C" } : Jvm.MethodName)) ∈ WT := WT_of (sub_tables_1_2 _ (List.mem_of_getElem? (i := 81) (by decide +kernel))) (by decide +kernel)
set_option maxRecDepth 20000 in
theorem t_451 : (Jvm.Cond.instanceMethod ({ cls := "java/lang/String", name := "charAt", desc := "(I)C" } : Jvm.MethodName)) ∈ WT := WT_of (sub_tables_1_2 _ (List.mem_of_getElem? (i := 82) (by decide +kernel))) (by decide +kernel)
set_option maxRecDepth 20000 in
theorem t_452 : (Jvm.Cond.selects "java/lang/String" ({ cls := "java/lang/String", name := "charAt", desc := "(I)C" } : Jvm.MethodName) ({ cls := "java/lang/String", name := "charAt", desc := "(I)C" } : Jvm.MethodName)) ∈ WT := WT_of (sub_tables_1_2 _ (List.mem_of_getElem? (i := 83) (by decide +kernel))) (by decide +kernel)
set_option maxRecDepth 20000 in
theorem t_453 : (Jvm.Cond.code ({ cls := "java/lang/String", name := "charAt", desc := "(I)C" } : Jvm.MethodName) prog_17_method_56_code (2 : Nat) (Option.some Jvm.ClassFile.FieldType.char)) ∈ WT := WT_of (sub_tables_1_2 _ (List.mem_of_getElem? (i := 84) rfl)) (by decide +kernel)
set_option maxRecDepth 20000 in
theorem t_454 : (Jvm.Cond.methodLink "java/lang/String" (492 : Nat) ({ cls := "java/lang/String", name := "isLatin1", desc := "()Z" } : Jvm.MethodName)) ∈ WT := WT_of (sub_tables_1_2 _ (List.mem_of_getElem? (i := 85) (by decide +kernel))) (by decide +kernel)
set_option maxRecDepth 20000 in
theorem t_455 : (Jvm.Cond.instanceMethod ({ cls := "java/lang/String", name := "isLatin1", desc := "()Z" } : Jvm.MethodName)) ∈ WT := WT_of (sub_tables_1_2 _ (List.mem_of_getElem? (i := 86) (by decide +kernel))) (by decide +kernel)
set_option maxRecDepth 20000 in
theorem t_456 : (Jvm.Cond.selects "java/lang/String" ({ cls := "java/lang/String", name := "isLatin1", desc := "()Z" } : Jvm.MethodName) ({ cls := "java/lang/String", name := "isLatin1", desc := "()Z" } : Jvm.MethodName)) ∈ WT := WT_of (sub_tables_1_2 _ (List.mem_of_getElem? (i := 87) (by decide +kernel))) (by decide +kernel)
set_option maxRecDepth 20000 in
theorem t_457 : (Jvm.Cond.code ({ cls := "java/lang/String", name := "isLatin1", desc := "()Z" } : Jvm.MethodName) prog_17_method_154_code (1 : Nat) (Option.some Jvm.ClassFile.FieldType.boolean)) ∈ WT := WT_of (sub_tables_1_2 _ (List.mem_of_getElem? (i := 88) rfl)) (by decide +kernel)
set_option maxRecDepth 20000 in
theorem t_458 : (Jvm.Cond.methodLink "java/lang/String" (495 : Nat) ({ cls := "java/lang/StringLatin1", name := "charAt", desc := "([BI)C" } : Jvm.MethodName)) ∈ WT := WT_of (sub_tables_1_2 _ (List.mem_of_getElem? (i := 89) (by decide +kernel))) (by decide +kernel)
set_option maxRecDepth 20000 in
theorem t_459 : (Jvm.Cond.static ({ cls := "java/lang/StringLatin1", name := "charAt", desc := "([BI)C" } : Jvm.MethodName)) ∈ WT := WT_of (sub_tables_1_2 _ (List.mem_of_getElem? (i := 90) (by decide +kernel))) (by decide +kernel)
set_option maxRecDepth 20000 in
theorem t_460 : (Jvm.Cond.code ({ cls := "java/lang/StringLatin1", name := "charAt", desc := "([BI)C" } : Jvm.MethodName) prog_18_method_2_code (2 : Nat) (Option.some Jvm.ClassFile.FieldType.char)) ∈ WT := WT_of (sub_tables_1_2 _ (List.mem_of_getElem? (i := 91) rfl)) (by decide +kernel)
set_option maxRecDepth 20000 in
theorem t_461 : (Jvm.Cond.methodLink "java/lang/StringLatin1" (9 : Nat) ({ cls := "java/lang/String", name := "checkIndex", desc := "(II)V" } : Jvm.MethodName)) ∈ WT := WT_of (sub_tables_1_2 _ (List.mem_of_getElem? (i := 92) (by decide +kernel))) (by decide +kernel)
set_option maxRecDepth 20000 in
theorem t_462 : (Jvm.Cond.static ({ cls := "java/lang/String", name := "checkIndex", desc := "(II)V" } : Jvm.MethodName)) ∈ WT := WT_of (sub_tables_1_2 _ (List.mem_of_getElem? (i := 93) (by decide +kernel))) (by decide +kernel)
set_option maxRecDepth 20000 in
theorem t_463 : (Jvm.Cond.code ({ cls := "java/lang/String", name := "checkIndex", desc := "(II)V" } : Jvm.MethodName) prog_17_method_155_code (2 : Nat) (Option.none : Option Jvm.ClassFile.FieldType)) ∈ WT := WT_of (sub_tables_1_2 _ (List.mem_of_getElem? (i := 94) rfl)) (by decide +kernel)
set_option maxRecDepth 20000 in
theorem t_464 : (Jvm.Cond.fieldLink "java/lang/String" (1053 : Nat) "jdk/internal/util/Preconditions" "SIOOBE_FORMATTER" "Ljava/util/function/BiFunction;") ∈ WT := WT_of (sub_tables_1_2 _ (List.mem_of_getElem? (i := 95) (by decide +kernel))) (by decide +kernel)
set_option maxRecDepth 20000 in
theorem t_466 : (Jvm.Cond.methodLink "java/lang/String" (1059 : Nat) ({ cls := "jdk/internal/util/Preconditions", name := "checkIndex", desc := "(IILjava/util/function/BiFunction;)I" } : Jvm.MethodName)) ∈ WT := WT_of (sub_tables_1_2 _ (List.mem_of_getElem? (i := 97) (by decide +kernel))) (by decide +kernel)
set_option maxRecDepth 20000 in
theorem t_467 : (Jvm.Cond.static ({ cls := "jdk/internal/util/Preconditions", name := "checkIndex", desc := "(IILjava/util/function/BiFunction;)I" } : Jvm.MethodName)) ∈ WT := WT_of (sub_tables_1_2 _ (List.mem_of_getElem? (i := 98) (by decide +kernel))) (by decide +kernel)
set_option maxRecDepth 20000 in
theorem t_468 : (Jvm.Cond.code ({ cls := "jdk/internal/util/Preconditions", name := "checkIndex", desc := "(IILjava/util/function/BiFunction;)I" } : Jvm.MethodName) prog_20_method_11_code (3 : Nat) (Option.some Jvm.ClassFile.FieldType.int)) ∈ WT := WT_of (sub_tables_1_2 _ (List.mem_of_getElem? (i := 99) rfl)) (by decide +kernel)
set_option maxRecDepth 20000 in
theorem t_498 : (Jvm.Cond.fieldLink "MatchTrees$Scanner" (37 : Nat) "MatchTrees$Scanner" "ownWords" "[I") ∈ WT := WT_of (sub_tables_1_2 _ (List.mem_of_getElem? (i := 129) (by decide +kernel))) (by decide +kernel)
set_option maxRecDepth 20000 in
theorem t_499 : (Jvm.Cond.fieldLink "MatchTrees$Scanner" (41 : Nat) "MatchTrees$Scanner" "text" "[I") ∈ WT := WT_of (sub_tables_1_2 _ (List.mem_of_getElem? (i := 130) (by decide +kernel))) (by decide +kernel)
set_option maxRecDepth 20000 in
theorem t_500 : (Jvm.Cond.fieldLink "MatchTrees$Scanner" (71 : Nat) "MatchTrees$Scanner" "length" "I") ∈ WT := WT_of (sub_tables_1_2 _ (List.mem_of_getElem? (i := 131) (by decide +kernel))) (by decide +kernel)
set_option maxRecDepth 20000 in
theorem t_501 : (Jvm.Cond.fieldLink "MatchTrees$Scanner" (72 : Nat) "MatchTrees$Scanner" "next" "I") ∈ WT := WT_of (sub_tables_1_2 _ (List.mem_of_getElem? (i := 132) (by decide +kernel))) (by decide +kernel)
set_option maxRecDepth 20000 in
theorem t_502 : (Jvm.Cond.fieldLink "MatchTrees$Reader" (40 : Nat) "MatchTrees$Scanner" "type" "I") ∈ WT := WT_of (sub_tables_1_2 _ (List.mem_of_getElem? (i := 133) (by decide +kernel))) (by decide +kernel)
set_option maxRecDepth 20000 in
theorem t_503 : (Jvm.Cond.fieldLink "MatchTrees$Scanner" (75 : Nat) "MatchTrees$Scanner" "type" "I") ∈ WT := WT_of (sub_tables_1_2 _ (List.mem_of_getElem? (i := 134) (by decide +kernel))) (by decide +kernel)
set_option maxRecDepth 20000 in
theorem t_504 : (Jvm.Cond.fieldLink "MatchTrees$Reader" (72 : Nat) "MatchTrees$Scanner" "at" "I") ∈ WT := WT_of (sub_tables_1_2 _ (List.mem_of_getElem? (i := 135) (by decide +kernel))) (by decide +kernel)
set_option maxRecDepth 20000 in
theorem t_505 : (Jvm.Cond.fieldLink "MatchTrees$Scanner" (81 : Nat) "MatchTrees$Scanner" "at" "I") ∈ WT := WT_of (sub_tables_1_2 _ (List.mem_of_getElem? (i := 136) (by decide +kernel))) (by decide +kernel)
set_option maxRecDepth 20000 in
theorem t_506 : (Jvm.Cond.fieldLink "MatchTrees$Scanner" (84 : Nat) "MatchTrees$Scanner" "stop" "I") ∈ WT := WT_of (sub_tables_1_2 _ (List.mem_of_getElem? (i := 137) (by decide +kernel))) (by decide +kernel)
set_option maxRecDepth 20000 in
theorem t_507 : (Jvm.Cond.fieldLink "MatchTrees$Reader" (86 : Nat) "MatchTrees$Scanner" "stop" "I") ∈ WT := WT_of (sub_tables_1_2 _ (List.mem_of_getElem? (i := 138) (by decide +kernel))) (by decide +kernel)
set_option maxRecDepth 20000 in
theorem t_508 : (Jvm.Cond.fieldLink "MatchTrees$Scanner" (90 : Nat) "MatchTrees$Scanner" "value" "I") ∈ WT := WT_of (sub_tables_1_2 _ (List.mem_of_getElem? (i := 139) (by decide +kernel))) (by decide +kernel)
set_option maxRecDepth 20000 in
theorem t_509 : (Jvm.Cond.fieldLink "MatchTrees$Reader" (95 : Nat) "MatchTrees$Scanner" "value" "I") ∈ WT := WT_of (sub_tables_1_2 _ (List.mem_of_getElem? (i := 140) (by decide +kernel))) (by decide +kernel)
set_option maxRecDepth 20000 in
theorem t_510 : (Jvm.Cond.fieldLink "MatchTrees$Reader" (43 : Nat) "MatchTrees$Scanner" "own" "I") ∈ WT := WT_of (sub_tables_1_2 _ (List.mem_of_getElem? (i := 141) (by decide +kernel))) (by decide +kernel)
set_option maxRecDepth 20000 in
theorem t_511 : (Jvm.Cond.fieldLink "MatchTrees$Scanner" (87 : Nat) "MatchTrees$Scanner" "own" "I") ∈ WT := WT_of (sub_tables_1_2 _ (List.mem_of_getElem? (i := 142) (by decide +kernel))) (by decide +kernel)
set_option maxRecDepth 20000 in
theorem t_512 : (Jvm.Cond.laysFinal "MatchTrees$Scanner" "MatchTrees$Scanner" "ownWords" "[I") ∈ WT := WT_of (sub_tables_1_2 _ (List.mem_of_getElem? (i := 143) (by decide +kernel))) (by decide +kernel)
set_option maxRecDepth 20000 in
theorem t_514 : (Jvm.Cond.lays "MatchTrees$Scanner" "MatchTrees$Scanner" "text" "[I") ∈ WT := WT_of (sub_tables_1_2 _ (List.mem_of_getElem? (i := 145) (by decide +kernel))) (by decide +kernel)
set_option maxRecDepth 20000 in
theorem t_516 : (Jvm.Cond.lays "MatchTrees$Scanner" "MatchTrees$Scanner" "length" "I") ∈ WT := WT_of (sub_tables_1_2 _ (List.mem_of_getElem? (i := 147) (by decide +kernel))) (by decide +kernel)
set_option maxRecDepth 20000 in
theorem t_518 : (Jvm.Cond.lays "MatchTrees$Scanner" "MatchTrees$Scanner" "next" "I") ∈ WT := WT_of (sub_tables_1_2 _ (List.mem_of_getElem? (i := 149) (by decide +kernel))) (by decide +kernel)
set_option maxRecDepth 20000 in
theorem t_520 : (Jvm.Cond.lays "MatchTrees$Scanner" "MatchTrees$Scanner" "type" "I") ∈ WT := WT_of (sub_tables_1_2 _ (List.mem_of_getElem? (i := 151) (by decide +kernel))) (by decide +kernel)
set_option maxRecDepth 20000 in
theorem t_522 : (Jvm.Cond.lays "MatchTrees$Scanner" "MatchTrees$Scanner" "at" "I") ∈ WT := WT_of (sub_tables_1_2 _ (List.mem_of_getElem? (i := 153) (by decide +kernel))) (by decide +kernel)
set_option maxRecDepth 20000 in
theorem t_524 : (Jvm.Cond.lays "MatchTrees$Scanner" "MatchTrees$Scanner" "stop" "I") ∈ WT := WT_of (sub_tables_1_2 _ (List.mem_of_getElem? (i := 155) (by decide +kernel))) (by decide +kernel)
set_option maxRecDepth 20000 in
theorem t_526 : (Jvm.Cond.lays "MatchTrees$Scanner" "MatchTrees$Scanner" "value" "I") ∈ WT := WT_of (sub_tables_1_2 _ (List.mem_of_getElem? (i := 157) (by decide +kernel))) (by decide +kernel)
set_option maxRecDepth 20000 in
theorem t_528 : (Jvm.Cond.lays "MatchTrees$Scanner" "MatchTrees$Scanner" "own" "I") ∈ WT := WT_of (sub_tables_1_2 _ (List.mem_of_getElem? (i := 159) (by decide +kernel))) (by decide +kernel)
set_option maxRecDepth 20000 in
theorem t_532 : (Jvm.Cond.classLink "MatchTrees$Reader" (18 : Nat) "[[I") ∈ WT := WT_of (sub_tables_1_2 _ (List.mem_of_getElem? (i := 163) (by decide +kernel))) (by decide +kernel)
set_option maxRecDepth 20000 in
theorem t_533 : (Jvm.Cond.fieldLink "MatchTrees$Reader" (12 : Nat) "MatchTrees$Reader" "scan" "LMatchTrees$Scanner;") ∈ WT := WT_of (sub_tables_1_2 _ (List.mem_of_getElem? (i := 164) (by decide +kernel))) (by decide +kernel)
set_option maxRecDepth 20000 in
theorem t_534 : (Jvm.Cond.fieldLink "MatchTrees$Reader" (20 : Nat) "MatchTrees$Reader" "fit" "[[I") ∈ WT := WT_of (sub_tables_1_2 _ (List.mem_of_getElem? (i := 165) (by decide +kernel))) (by decide +kernel)
set_option maxRecDepth 20000 in
theorem t_535 : (Jvm.Cond.fieldLink "MatchTrees$Reader" (27 : Nat) "MatchTrees$Reader" "table" "LMatchTrees$Table;") ∈ WT := WT_of (sub_tables_1_2 _ (List.mem_of_getElem? (i := 166) (by decide +kernel))) (by decide +kernel)
set_option maxRecDepth 20000 in
theorem t_536 : (Jvm.Cond.fieldLink "MatchTrees$Reader" (82 : Nat) "MatchTrees$Reader" "fault" "I") ∈ WT := WT_of (sub_tables_1_2 _ (List.mem_of_getElem? (i := 167) (by decide +kernel))) (by decide +kernel)
set_option maxRecDepth 20000 in
theorem t_537 : (Jvm.Cond.fieldLink "MatchTrees" (156 : Nat) "MatchTrees$Reader" "fault" "I") ∈ WT := WT_of (sub_tables_1_2 _ (List.mem_of_getElem? (i := 168) (by decide +kernel))) (by decide +kernel)
set_option maxRecDepth 20000 in
theorem t_538 : (Jvm.Cond.fieldLink "MatchTrees$Reader" (23 : Nat) "MatchTrees$Reader" "place" "I") ∈ WT := WT_of (sub_tables_1_2 _ (List.mem_of_getElem? (i := 169) (by decide +kernel))) (by decide +kernel)
set_option maxRecDepth 20000 in
theorem t_539 : (Jvm.Cond.fieldLink "MatchTrees" (159 : Nat) "MatchTrees$Reader" "place" "I") ∈ WT := WT_of (sub_tables_1_2 _ (List.mem_of_getElem? (i := 170) (by decide +kernel))) (by decide +kernel)
set_option maxRecDepth 20000 in
theorem t_540 : (Jvm.Cond.laysFinal "MatchTrees$Reader" "MatchTrees$Reader" "scan" "LMatchTrees$Scanner;") ∈ WT := WT_of (sub_tables_1_2 _ (List.mem_of_getElem? (i := 171) (by decide +kernel))) (by decide +kernel)
set_option maxRecDepth 20000 in
theorem t_542 : (Jvm.Cond.laysFinal "MatchTrees$Reader" "MatchTrees$Reader" "fit" "[[I") ∈ WT := WT_of (sub_tables_1_2 _ (List.mem_of_getElem? (i := 173) (by decide +kernel))) (by decide +kernel)
set_option maxRecDepth 20000 in
theorem t_544 : (Jvm.Cond.lays "MatchTrees$Reader" "MatchTrees$Reader" "table" "LMatchTrees$Table;") ∈ WT := WT_of (sub_tables_1_2 _ (List.mem_of_getElem? (i := 175) (by decide +kernel))) (by decide +kernel)
set_option maxRecDepth 20000 in
theorem t_546 : (Jvm.Cond.lays "MatchTrees$Reader" "MatchTrees$Reader" "fault" "I") ∈ WT := WT_of (sub_tables_1_2 _ (List.mem_of_getElem? (i := 177) (by decide +kernel))) (by decide +kernel)
set_option maxRecDepth 20000 in
theorem t_548 : (Jvm.Cond.lays "MatchTrees$Reader" "MatchTrees$Reader" "place" "I") ∈ WT := WT_of (sub_tables_1_2 _ (List.mem_of_getElem? (i := 179) (by decide +kernel))) (by decide +kernel)
set_option maxRecDepth 20000 in
theorem t_551 : (Jvm.Cond.classLink "MatchTrees" (87 : Nat) "MatchTrees$Trees") ∈ WT := WT_of (sub_tables_1_2 _ (List.mem_of_getElem? (i := 182) (by decide +kernel))) (by decide +kernel)
set_option maxRecDepth 20000 in
theorem t_552 : (Jvm.Cond.instantiable "MatchTrees$Trees" (15 : Nat)) ∈ WT := WT_of (sub_tables_1_2 _ (List.mem_of_getElem? (i := 183) (by decide +kernel))) (by decide +kernel)
set_option maxRecDepth 20000 in
theorem t_553 : (Jvm.Cond.methodLink "MatchTrees" (89 : Nat) ({ cls := "MatchTrees$Trees", name := "<init>", desc := "(LMatchTrees$Table;LMatchTrees$Order;LMatchTrees$Marks;)V" } : Jvm.MethodName)) ∈ WT := WT_of (sub_tables_1_2 _ (List.mem_of_getElem? (i := 184) (by decide +kernel))) (by decide +kernel)
set_option maxRecDepth 20000 in
theorem t_554 : (Jvm.Cond.instanceMethod ({ cls := "MatchTrees$Trees", name := "<init>", desc := "(LMatchTrees$Table;LMatchTrees$Order;LMatchTrees$Marks;)V" } : Jvm.MethodName)) ∈ WT := WT_of (sub_tables_1_2 _ (List.mem_of_getElem? (i := 185) (by decide +kernel))) (by decide +kernel)
set_option maxRecDepth 20000 in
theorem t_555 : (Jvm.Cond.code ({ cls := "MatchTrees$Trees", name := "<init>", desc := "(LMatchTrees$Table;LMatchTrees$Order;LMatchTrees$Marks;)V" } : Jvm.MethodName) prog_12_method_1_code (5 : Nat) (Option.none : Option Jvm.ClassFile.FieldType)) ∈ WT := WT_of (sub_tables_1_2 _ (List.mem_of_getElem? (i := 186) rfl)) (by decide +kernel)
set_option maxRecDepth 20000 in
theorem t_556 : (Jvm.Cond.methodLink "MatchTrees$Trees" (3 : Nat) ({ cls := "java/lang/Object", name := "<init>", desc := "()V" } : Jvm.MethodName)) ∈ WT := WT_of (sub_tables_1_2 _ (List.mem_of_getElem? (i := 187) (by decide +kernel))) (by decide +kernel)
set_option maxRecDepth 20000 in
theorem t_557 : (Jvm.Cond.classLink "MatchTrees$Trees" (9 : Nat) "MatchTrees$Groups") ∈ WT := WT_of (sub_tables_1_2 _ (List.mem_of_getElem? (i := 188) (by decide +kernel))) (by decide +kernel)
set_option maxRecDepth 20000 in
theorem t_559 : (Jvm.Cond.constant "MatchTrees$Trees" (20 : Nat) (65536 : Int32)) ∈ WT := WT_of (sub_tables_1_2 _ (List.mem_of_getElem? (i := 190) (by decide +kernel))) (by decide +kernel)
set_option maxRecDepth 20000 in
theorem t_560 : (Jvm.Cond.methodLink "MatchTrees$Trees" (41 : Nat) ({ cls := "MatchTrees$Groups", name := "<init>", desc := "(ILMatchTrees$Marks;)V" } : Jvm.MethodName)) ∈ WT := WT_of (sub_tables_1_2 _ (List.mem_of_getElem? (i := 191) (by decide +kernel))) (by decide +kernel)
set_option maxRecDepth 20000 in
theorem t_561 : (Jvm.Cond.fieldLink "MatchTrees$Trees" (11 : Nat) "MatchTrees$Trees" "column" "[LMatchTrees$Groups;") ∈ WT := WT_of (sub_tables_1_2 _ (List.mem_of_getElem? (i := 192) (by decide +kernel))) (by decide +kernel)
set_option maxRecDepth 20000 in
theorem t_562 : (Jvm.Cond.fieldLink "MatchTrees" (137 : Nat) "MatchTrees$Trees" "column" "[LMatchTrees$Groups;") ∈ WT := WT_of (sub_tables_1_2 _ (List.mem_of_getElem? (i := 193) (by decide +kernel))) (by decide +kernel)
set_option maxRecDepth 20000 in
theorem t_563 : (Jvm.Cond.fieldLink "MatchTrees$Trees" (17 : Nat) "MatchTrees$Trees" "branch" "[LMatchTrees$Groups;") ∈ WT := WT_of (sub_tables_1_2 _ (List.mem_of_getElem? (i := 194) (by decide +kernel))) (by decide +kernel)
set_option maxRecDepth 20000 in
theorem t_564 : (Jvm.Cond.fieldLink "MatchTrees$Trees" (37 : Nat) "MatchTrees$Trees" "marks" "LMatchTrees$Marks;") ∈ WT := WT_of (sub_tables_1_2 _ (List.mem_of_getElem? (i := 195) (by decide +kernel))) (by decide +kernel)
set_option maxRecDepth 20000 in
theorem t_565 : (Jvm.Cond.fieldLink "MatchTrees$Trees" (21 : Nat) "MatchTrees$Trees" "counted" "[J") ∈ WT := WT_of (sub_tables_1_2 _ (List.mem_of_getElem? (i := 196) (by decide +kernel))) (by decide +kernel)
set_option maxRecDepth 20000 in
theorem t_566 : (Jvm.Cond.fieldLink "MatchTrees$Trees" (128 : Nat) "MatchTrees$Trees" "now" "I") ∈ WT := WT_of (sub_tables_1_2 _ (List.mem_of_getElem? (i := 197) (by decide +kernel))) (by decide +kernel)
set_option maxRecDepth 20000 in
theorem t_567 : (Jvm.Cond.fieldLink "MatchTrees$Trees" (131 : Nat) "MatchTrees$Trees" "unlike" "I") ∈ WT := WT_of (sub_tables_1_2 _ (List.mem_of_getElem? (i := 198) (by decide +kernel))) (by decide +kernel)
set_option maxRecDepth 20000 in
theorem t_568 : (Jvm.Cond.fieldLink "MatchTrees" (314 : Nat) "MatchTrees$Trees" "unlike" "I") ∈ WT := WT_of (sub_tables_1_2 _ (List.mem_of_getElem? (i := 199) (by decide +kernel))) (by decide +kernel)
set_option maxRecDepth 20000 in
theorem t_569 : (Jvm.Cond.fieldLink "MatchTrees$Trees" (25 : Nat) "MatchTrees$Trees" "scopesShut" "[I") ∈ WT := WT_of (sub_tables_1_2 _ (List.mem_of_getElem? (i := 200) (by decide +kernel))) (by decide +kernel)
set_option maxRecDepth 20000 in
theorem t_570 : (Jvm.Cond.fieldLink "MatchTrees$Trees" (183 : Nat) "MatchTrees$Trees" "scopesOpened" "I") ∈ WT := WT_of (sub_tables_1_2 _ (List.mem_of_getElem? (i := 201) (by decide +kernel))) (by decide +kernel)
set_option maxRecDepth 20000 in
theorem t_571 : (Jvm.Cond.fieldLink "MatchTrees" (331 : Nat) "MatchTrees$Trees" "scopesOpened" "I") ∈ WT := WT_of (sub_tables_1_2 _ (List.mem_of_getElem? (i := 202) (by decide +kernel))) (by decide +kernel)
set_option maxRecDepth 20000 in
theorem t_572 : (Jvm.Cond.fieldLink "MatchTrees$Trees" (186 : Nat) "MatchTrees$Trees" "scopesOpen" "I") ∈ WT := WT_of (sub_tables_1_2 _ (List.mem_of_getElem? (i := 203) (by decide +kernel))) (by decide +kernel)
set_option maxRecDepth 20000 in
theorem t_573 : (Jvm.Cond.fieldLink "MatchTrees$Trees" (189 : Nat) "MatchTrees$Trees" "scopesMost" "I") ∈ WT := WT_of (sub_tables_1_2 _ (List.mem_of_getElem? (i := 204) (by decide +kernel))) (by decide +kernel)
set_option maxRecDepth 20000 in
theorem t_574 : (Jvm.Cond.fieldLink "MatchTrees" (334 : Nat) "MatchTrees$Trees" "scopesMost" "I") ∈ WT := WT_of (sub_tables_1_2 _ (List.mem_of_getElem? (i := 205) (by decide +kernel))) (by decide +kernel)
set_option maxRecDepth 20000 in
theorem t_575 : (Jvm.Cond.fieldLink "MatchTrees$Trees" (192 : Nat) "MatchTrees$Trees" "shutCount" "I") ∈ WT := WT_of (sub_tables_1_2 _ (List.mem_of_getElem? (i := 206) (by decide +kernel))) (by decide +kernel)
set_option maxRecDepth 20000 in
theorem t_576 : (Jvm.Cond.fieldLink "MatchTrees$Trees" (195 : Nat) "MatchTrees$Trees" "stopped" "Z") ∈ WT := WT_of (sub_tables_1_2 _ (List.mem_of_getElem? (i := 207) (by decide +kernel))) (by decide +kernel)
set_option maxRecDepth 20000 in
theorem t_577 : (Jvm.Cond.fieldLink "MatchTrees" (337 : Nat) "MatchTrees$Trees" "stopped" "Z") ∈ WT := WT_of (sub_tables_1_2 _ (List.mem_of_getElem? (i := 208) (by decide +kernel))) (by decide +kernel)
set_option maxRecDepth 20000 in
theorem t_578 : (Jvm.Cond.fieldLink "MatchTrees$Trees" (80 : Nat) "MatchTrees$Trees" "rule" "I") ∈ WT := WT_of (sub_tables_1_2 _ (List.mem_of_getElem? (i := 209) (by decide +kernel))) (by decide +kernel)
set_option maxRecDepth 20000 in
theorem t_579 : (Jvm.Cond.fieldLink "MatchTrees$Trees" (29 : Nat) "MatchTrees$Trees" "table" "LMatchTrees$Table;") ∈ WT := WT_of (sub_tables_1_2 _ (List.mem_of_getElem? (i := 210) (by decide +kernel))) (by decide +kernel)
set_option maxRecDepth 20000 in
theorem t_580 : (Jvm.Cond.fieldLink "MatchTrees$Trees" (33 : Nat) "MatchTrees$Trees" "order" "LMatchTrees$Order;") ∈ WT := WT_of (sub_tables_1_2 _ (List.mem_of_getElem? (i := 211) (by decide +kernel))) (by decide +kernel)
set_option maxRecDepth 20000 in
theorem t_581 : (Jvm.Cond.laysFinal "MatchTrees$Trees" "MatchTrees$Trees" "column" "[LMatchTrees$Groups;") ∈ WT := WT_of (sub_tables_1_2 _ (List.mem_of_getElem? (i := 212) (by decide +kernel))) (by decide +kernel)
set_option maxRecDepth 20000 in
theorem t_583 : (Jvm.Cond.laysFinal "MatchTrees$Trees" "MatchTrees$Trees" "branch" "[LMatchTrees$Groups;") ∈ WT := WT_of (sub_tables_1_2 _ (List.mem_of_getElem? (i := 214) (by decide +kernel))) (by decide +kernel)
set_option maxRecDepth 20000 in
theorem t_585 : (Jvm.Cond.laysFinal "MatchTrees$Trees" "MatchTrees$Trees" "marks" "LMatchTrees$Marks;") ∈ WT := WT_of (sub_tables_1_2 _ (List.mem_of_getElem? (i := 216) (by decide +kernel))) (by decide +kernel)
set_option maxRecDepth 20000 in
theorem t_587 : (Jvm.Cond.laysFinal "MatchTrees$Trees" "MatchTrees$Trees" "counted" "[J") ∈ WT := WT_of (sub_tables_1_2 _ (List.mem_of_getElem? (i := 218) (by decide +kernel))) (by decide +kernel)
set_option maxRecDepth 20000 in
theorem t_589 : (Jvm.Cond.lays "MatchTrees$Trees" "MatchTrees$Trees" "now" "I") ∈ WT := WT_of (sub_tables_1_2 _ (List.mem_of_getElem? (i := 220) (by decide +kernel))) (by decide +kernel)
set_option maxRecDepth 20000 in
theorem t_591 : (Jvm.Cond.lays "MatchTrees$Trees" "MatchTrees$Trees" "unlike" "I") ∈ WT := WT_of (sub_tables_1_2 _ (List.mem_of_getElem? (i := 222) (by decide +kernel))) (by decide +kernel)
set_option maxRecDepth 20000 in
theorem t_593 : (Jvm.Cond.laysFinal "MatchTrees$Trees" "MatchTrees$Trees" "scopesShut" "[I") ∈ WT := WT_of (sub_tables_1_2 _ (List.mem_of_getElem? (i := 224) (by decide +kernel))) (by decide +kernel)
set_option maxRecDepth 20000 in
theorem t_595 : (Jvm.Cond.lays "MatchTrees$Trees" "MatchTrees$Trees" "scopesOpened" "I") ∈ WT := WT_of (sub_tables_1_2 _ (List.mem_of_getElem? (i := 226) (by decide +kernel))) (by decide +kernel)
set_option maxRecDepth 20000 in
theorem t_597 : (Jvm.Cond.lays "MatchTrees$Trees" "MatchTrees$Trees" "scopesOpen" "I") ∈ WT := WT_of (sub_tables_1_2 _ (List.mem_of_getElem? (i := 228) (by decide +kernel))) (by decide +kernel)
set_option maxRecDepth 20000 in
theorem t_599 : (Jvm.Cond.lays "MatchTrees$Trees" "MatchTrees$Trees" "scopesMost" "I") ∈ WT := WT_of (sub_tables_1_2 _ (List.mem_of_getElem? (i := 230) (by decide +kernel))) (by decide +kernel)
set_option maxRecDepth 20000 in
theorem t_601 : (Jvm.Cond.lays "MatchTrees$Trees" "MatchTrees$Trees" "shutCount" "I") ∈ WT := WT_of (sub_tables_1_2 _ (List.mem_of_getElem? (i := 232) (by decide +kernel))) (by decide +kernel)
set_option maxRecDepth 20000 in
theorem t_603 : (Jvm.Cond.lays "MatchTrees$Trees" "MatchTrees$Trees" "stopped" "Z") ∈ WT := WT_of (sub_tables_1_2 _ (List.mem_of_getElem? (i := 234) (by decide +kernel))) (by decide +kernel)
set_option maxRecDepth 20000 in
theorem t_605 : (Jvm.Cond.lays "MatchTrees$Trees" "MatchTrees$Trees" "rule" "I") ∈ WT := WT_of (sub_tables_1_2 _ (List.mem_of_getElem? (i := 236) (by decide +kernel))) (by decide +kernel)
set_option maxRecDepth 20000 in
theorem t_607 : (Jvm.Cond.lays "MatchTrees$Trees" "MatchTrees$Trees" "table" "LMatchTrees$Table;") ∈ WT := WT_of (sub_tables_1_2 _ (List.mem_of_getElem? (i := 238) (by decide +kernel))) (by decide +kernel)
set_option maxRecDepth 20000 in
theorem t_609 : (Jvm.Cond.lays "MatchTrees$Trees" "MatchTrees$Trees" "order" "LMatchTrees$Order;") ∈ WT := WT_of (sub_tables_1_3 _ (List.mem_of_getElem? (i := 0) (by decide +kernel))) (by decide +kernel)
set_option maxRecDepth 20000 in
theorem t_612 : (Jvm.Cond.arrayClass Jvm.ClassFile.FieldType.long) ∈ WT := WT_of (sub_tables_1_3 _ (List.mem_of_getElem? (i := 3) (by decide +kernel))) (by decide +kernel)
set_option maxRecDepth 20000 in
theorem t_613 : (Jvm.Cond.fieldLink "MatchTrees" (14 : Nat) "MatchTrees" "tape" "LMatchTrees$Bytes;") ∈ WT := WT_of (sub_tables_1_3 _ (List.mem_of_getElem? (i := 4) (by decide +kernel))) (by decide +kernel)
set_option maxRecDepth 20000 in
theorem t_614 : (Jvm.Cond.fieldLink "MatchTrees" (18 : Nat) "MatchTrees" "written" "LMatchTrees$Bytes;") ∈ WT := WT_of (sub_tables_1_3 _ (List.mem_of_getElem? (i := 5) (by decide +kernel))) (by decide +kernel)
set_option maxRecDepth 20000 in
theorem t_615 : (Jvm.Cond.fieldLink "MatchTrees" (24 : Nat) "MatchTrees" "marks" "LMatchTrees$Marks;") ∈ WT := WT_of (sub_tables_1_3 _ (List.mem_of_getElem? (i := 6) (by decide +kernel))) (by decide +kernel)
set_option maxRecDepth 20000 in
theorem t_616 : (Jvm.Cond.fieldLink "MatchTrees" (33 : Nat) "MatchTrees" "rowGroups" "LMatchTrees$Groups;") ∈ WT := WT_of (sub_tables_1_3 _ (List.mem_of_getElem? (i := 7) (by decide +kernel))) (by decide +kernel)
set_option maxRecDepth 20000 in
theorem t_617 : (Jvm.Cond.fieldLink "MatchTrees" (37 : Nat) "MatchTrees" "rowGroupsAhead" "LMatchTrees$Groups;") ∈ WT := WT_of (sub_tables_1_3 _ (List.mem_of_getElem? (i := 8) (by decide +kernel))) (by decide +kernel)
set_option maxRecDepth 20000 in
theorem t_618 : (Jvm.Cond.fieldLink "MatchTrees" (43 : Nat) "MatchTrees" "order" "LMatchTrees$Order;") ∈ WT := WT_of (sub_tables_1_3 _ (List.mem_of_getElem? (i := 9) (by decide +kernel))) (by decide +kernel)
set_option maxRecDepth 20000 in
theorem t_619 : (Jvm.Cond.fieldLink "MatchTrees" (47 : Nat) "MatchTrees" "trial" "LMatchTrees$Order;") ∈ WT := WT_of (sub_tables_1_3 _ (List.mem_of_getElem? (i := 10) (by decide +kernel))) (by decide +kernel)
set_option maxRecDepth 20000 in
theorem t_620 : (Jvm.Cond.fieldLink "MatchTrees" (53 : Nat) "MatchTrees" "acts" "LMatchTrees$Acts;") ∈ WT := WT_of (sub_tables_1_3 _ (List.mem_of_getElem? (i := 11) (by decide +kernel))) (by decide +kernel)
set_option maxRecDepth 20000 in
theorem t_621 : (Jvm.Cond.fieldLink "MatchTrees" (60 : Nat) "MatchTrees" "seen" "LMatchTrees$Seen;") ∈ WT := WT_of (sub_tables_1_3 _ (List.mem_of_getElem? (i := 12) (by decide +kernel))) (by decide +kernel)
set_option maxRecDepth 20000 in
theorem t_622 : (Jvm.Cond.fieldLink "MatchTrees" (64 : Nat) "MatchTrees" "refused" "[I") ∈ WT := WT_of (sub_tables_1_3 _ (List.mem_of_getElem? (i := 13) (by decide +kernel))) (by decide +kernel)
set_option maxRecDepth 20000 in
theorem t_623 : (Jvm.Cond.fieldLink "MatchTrees" (71 : Nat) "MatchTrees" "table" "LMatchTrees$Table;") ∈ WT := WT_of (sub_tables_1_3 _ (List.mem_of_getElem? (i := 14) (by decide +kernel))) (by decide +kernel)
set_option maxRecDepth 20000 in
theorem t_624 : (Jvm.Cond.fieldLink "MatchTrees" (75 : Nat) "MatchTrees" "spare" "LMatchTrees$Table;") ∈ WT := WT_of (sub_tables_1_3 _ (List.mem_of_getElem? (i := 15) (by decide +kernel))) (by decide +kernel)
set_option maxRecDepth 20000 in
theorem t_625 : (Jvm.Cond.fieldLink "MatchTrees" (83 : Nat) "MatchTrees" "reader" "LMatchTrees$Reader;") ∈ WT := WT_of (sub_tables_1_3 _ (List.mem_of_getElem? (i := 16) (by decide +kernel))) (by decide +kernel)
set_option maxRecDepth 20000 in
theorem t_626 : (Jvm.Cond.fieldLink "MatchTrees" (92 : Nat) "MatchTrees" "trees" "LMatchTrees$Trees;") ∈ WT := WT_of (sub_tables_1_3 _ (List.mem_of_getElem? (i := 17) (by decide +kernel))) (by decide +kernel)
set_option maxRecDepth 20000 in
theorem t_627 : (Jvm.Cond.fieldLink "MatchTrees" (96 : Nat) "MatchTrees" "seedNow" "I") ∈ WT := WT_of (sub_tables_1_3 _ (List.mem_of_getElem? (i := 18) (by decide +kernel))) (by decide +kernel)
set_option maxRecDepth 20000 in
theorem t_628 : (Jvm.Cond.laysFinal "MatchTrees" "MatchTrees" "tape" "LMatchTrees$Bytes;") ∈ WT := WT_of (sub_tables_1_3 _ (List.mem_of_getElem? (i := 19) (by decide +kernel))) (by decide +kernel)
set_option maxRecDepth 20000 in
theorem t_630 : (Jvm.Cond.laysFinal "MatchTrees" "MatchTrees" "written" "LMatchTrees$Bytes;") ∈ WT := WT_of (sub_tables_1_3 _ (List.mem_of_getElem? (i := 21) (by decide +kernel))) (by decide +kernel)
set_option maxRecDepth 20000 in
theorem t_632 : (Jvm.Cond.laysFinal "MatchTrees" "MatchTrees" "marks" "LMatchTrees$Marks;") ∈ WT := WT_of (sub_tables_1_3 _ (List.mem_of_getElem? (i := 23) (by decide +kernel))) (by decide +kernel)
set_option maxRecDepth 20000 in
theorem t_634 : (Jvm.Cond.laysFinal "MatchTrees" "MatchTrees" "rowGroups" "LMatchTrees$Groups;") ∈ WT := WT_of (sub_tables_1_3 _ (List.mem_of_getElem? (i := 25) (by decide +kernel))) (by decide +kernel)
set_option maxRecDepth 20000 in
theorem t_636 : (Jvm.Cond.laysFinal "MatchTrees" "MatchTrees" "rowGroupsAhead" "LMatchTrees$Groups;") ∈ WT := WT_of (sub_tables_1_3 _ (List.mem_of_getElem? (i := 27) (by decide +kernel))) (by decide +kernel)
set_option maxRecDepth 20000 in
theorem t_638 : (Jvm.Cond.laysFinal "MatchTrees" "MatchTrees" "order" "LMatchTrees$Order;") ∈ WT := WT_of (sub_tables_1_3 _ (List.mem_of_getElem? (i := 29) (by decide +kernel))) (by decide +kernel)
set_option maxRecDepth 20000 in
theorem t_640 : (Jvm.Cond.laysFinal "MatchTrees" "MatchTrees" "trial" "LMatchTrees$Order;") ∈ WT := WT_of (sub_tables_1_3 _ (List.mem_of_getElem? (i := 31) (by decide +kernel))) (by decide +kernel)
set_option maxRecDepth 20000 in
theorem t_642 : (Jvm.Cond.laysFinal "MatchTrees" "MatchTrees" "acts" "LMatchTrees$Acts;") ∈ WT := WT_of (sub_tables_1_3 _ (List.mem_of_getElem? (i := 33) (by decide +kernel))) (by decide +kernel)
set_option maxRecDepth 20000 in
theorem t_644 : (Jvm.Cond.laysFinal "MatchTrees" "MatchTrees" "seen" "LMatchTrees$Seen;") ∈ WT := WT_of (sub_tables_1_3 _ (List.mem_of_getElem? (i := 35) (by decide +kernel))) (by decide +kernel)
set_option maxRecDepth 20000 in
theorem t_646 : (Jvm.Cond.laysFinal "MatchTrees" "MatchTrees" "refused" "[I") ∈ WT := WT_of (sub_tables_1_3 _ (List.mem_of_getElem? (i := 37) (by decide +kernel))) (by decide +kernel)
set_option maxRecDepth 20000 in
theorem t_648 : (Jvm.Cond.lays "MatchTrees" "MatchTrees" "table" "LMatchTrees$Table;") ∈ WT := WT_of (sub_tables_1_3 _ (List.mem_of_getElem? (i := 39) (by decide +kernel))) (by decide +kernel)
set_option maxRecDepth 20000 in
theorem t_650 : (Jvm.Cond.lays "MatchTrees" "MatchTrees" "spare" "LMatchTrees$Table;") ∈ WT := WT_of (sub_tables_1_3 _ (List.mem_of_getElem? (i := 41) (by decide +kernel))) (by decide +kernel)
set_option maxRecDepth 20000 in
theorem t_652 : (Jvm.Cond.laysFinal "MatchTrees" "MatchTrees" "reader" "LMatchTrees$Reader;") ∈ WT := WT_of (sub_tables_1_3 _ (List.mem_of_getElem? (i := 43) (by decide +kernel))) (by decide +kernel)
set_option maxRecDepth 20000 in
theorem t_654 : (Jvm.Cond.laysFinal "MatchTrees" "MatchTrees" "trees" "LMatchTrees$Trees;") ∈ WT := WT_of (sub_tables_1_3 _ (List.mem_of_getElem? (i := 45) (by decide +kernel))) (by decide +kernel)
set_option maxRecDepth 20000 in
theorem t_656 : (Jvm.Cond.lays "MatchTrees" "MatchTrees" "seedNow" "I") ∈ WT := WT_of (sub_tables_1_3 _ (List.mem_of_getElem? (i := 47) (by decide +kernel))) (by decide +kernel)
set_option maxRecDepth 20000 in
theorem t_659 : (Jvm.Cond.methodLink "MatchTreesLaw" (13 : Nat) ({ cls := "MatchTrees", name := "feed", desc := "(IIIII)I" } : Jvm.MethodName)) ∈ WT := WT_of (sub_tables_1_3 _ (List.mem_of_getElem? (i := 50) (by decide +kernel))) (by decide +kernel)
set_option maxRecDepth 20000 in
theorem t_660 : (Jvm.Cond.instanceMethod ({ cls := "MatchTrees", name := "feed", desc := "(IIIII)I" } : Jvm.MethodName)) ∈ WT := WT_of (sub_tables_1_3 _ (List.mem_of_getElem? (i := 51) (by decide +kernel))) (by decide +kernel)
set_option maxRecDepth 20000 in
theorem t_661 : (Jvm.Cond.selects "MatchTrees" ({ cls := "MatchTrees", name := "feed", desc := "(IIIII)I" } : Jvm.MethodName) ({ cls := "MatchTrees", name := "feed", desc := "(IIIII)I" } : Jvm.MethodName)) ∈ WT := WT_of (sub_tables_1_3 _ (List.mem_of_getElem? (i := 52) (by decide +kernel))) (by decide +kernel)
set_option maxRecDepth 20000 in
theorem t_662 : (Jvm.Cond.code ({ cls := "MatchTrees", name := "feed", desc := "(IIIII)I" } : Jvm.MethodName) prog_1_method_2_code (6 : Nat) (Option.some Jvm.ClassFile.FieldType.int)) ∈ WT := WT_of (sub_tables_1_3 _ (List.mem_of_getElem? (i := 53) rfl)) (by decide +kernel)
set_option maxRecDepth 20000 in
theorem t_663 : (Jvm.Cond.methodLink "MatchTrees" (103 : Nat) ({ cls := "MatchTrees", name := "refuse", desc := "(I)Z" } : Jvm.MethodName)) ∈ WT := WT_of (sub_tables_1_3 _ (List.mem_of_getElem? (i := 54) (by decide +kernel))) (by decide +kernel)
set_option maxRecDepth 20000 in
theorem t_665 : (Jvm.Cond.instanceMethod ({ cls := "MatchTrees", name := "refuse", desc := "(I)Z" } : Jvm.MethodName)) ∈ WT := WT_of (sub_tables_1_3 _ (List.mem_of_getElem? (i := 56) (by decide +kernel))) (by decide +kernel)
set_option maxRecDepth 20000 in
theorem t_666 : (Jvm.Cond.code ({ cls := "MatchTrees", name := "refuse", desc := "(I)Z" } : Jvm.MethodName) prog_1_method_51_code (2 : Nat) (Option.some Jvm.ClassFile.FieldType.boolean)) ∈ WT := WT_of (sub_tables_1_3 _ (List.mem_of_getElem? (i := 57) rfl)) (by decide +kernel)
set_option maxRecDepth 20000 in
theorem t_667 : (Jvm.Cond.methodLink "MatchTrees" (107 : Nat) ({ cls := "MatchTrees$Bytes", name := "addFour", desc := "(I)V" } : Jvm.MethodName)) ∈ WT := WT_of (sub_tables_1_3 _ (List.mem_of_getElem? (i := 58) (by decide +kernel))) (by decide +kernel)
set_option maxRecDepth 20000 in
theorem t_668 : (Jvm.Cond.instanceMethod ({ cls := "MatchTrees$Bytes", name := "addFour", desc := "(I)V" } : Jvm.MethodName)) ∈ WT := WT_of (sub_tables_1_3 _ (List.mem_of_getElem? (i := 59) (by decide +kernel))) (by decide +kernel)
set_option maxRecDepth 20000 in
theorem t_669 : (Jvm.Cond.selects "MatchTrees$Bytes" ({ cls := "MatchTrees$Bytes", name := "addFour", desc := "(I)V" } : Jvm.MethodName) ({ cls := "MatchTrees$Bytes", name := "addFour", desc := "(I)V" } : Jvm.MethodName)) ∈ WT := WT_of (sub_tables_1_3 _ (List.mem_of_getElem? (i := 60) (by decide +kernel))) (by decide +kernel)
set_option maxRecDepth 20000 in
theorem t_670 : (Jvm.Cond.code ({ cls := "MatchTrees$Bytes", name := "addFour", desc := "(I)V" } : Jvm.MethodName) prog_3_method_3_code (2 : Nat) (Option.none : Option Jvm.ClassFile.FieldType)) ∈ WT := WT_of (sub_tables_1_3 _ (List.mem_of_getElem? (i := 61) rfl)) (by decide +kernel)
set_option maxRecDepth 20000 in
theorem t_671 : (Jvm.Cond.methodLink "MatchTrees$Bytes" (25 : Nat) ({ cls := "MatchTrees$Bytes", name := "add", desc := "(I)V" } : Jvm.MethodName)) ∈ WT := WT_of (sub_tables_1_3 _ (List.mem_of_getElem? (i := 62) (by decide +kernel))) (by decide +kernel)
set_option maxRecDepth 20000 in
theorem t_672 : (Jvm.Cond.instanceMethod ({ cls := "MatchTrees$Bytes", name := "add", desc := "(I)V" } : Jvm.MethodName)) ∈ WT := WT_of (sub_tables_1_3 _ (List.mem_of_getElem? (i := 63) (by decide +kernel))) (by decide +kernel)
set_option maxRecDepth 20000 in
theorem t_673 : (Jvm.Cond.selects "MatchTrees$Bytes" ({ cls := "MatchTrees$Bytes", name := "add", desc := "(I)V" } : Jvm.MethodName) ({ cls := "MatchTrees$Bytes", name := "add", desc := "(I)V" } : Jvm.MethodName)) ∈ WT := WT_of (sub_tables_1_3 _ (List.mem_of_getElem? (i := 64) (by decide +kernel))) (by decide +kernel)
set_option maxRecDepth 20000 in
theorem t_674 : (Jvm.Cond.code ({ cls := "MatchTrees$Bytes", name := "add", desc := "(I)V" } : Jvm.MethodName) prog_3_method_2_code (2 : Nat) (Option.none : Option Jvm.ClassFile.FieldType)) ∈ WT := WT_of (sub_tables_1_3 _ (List.mem_of_getElem? (i := 65) rfl)) (by decide +kernel)
set_option maxRecDepth 20000 in
theorem t_675 : (Jvm.Cond.methodLink "MatchTreesLaw" (18 : Nat) ({ cls := "MatchTrees", name := "end", desc := "(I)Z" } : Jvm.MethodName)) ∈ WT := WT_of (sub_tables_1_3 _ (List.mem_of_getElem? (i := 66) (by decide +kernel))) (by decide +kernel)
set_option maxRecDepth 20000 in
theorem t_676 : (Jvm.Cond.instanceMethod ({ cls := "MatchTrees", name := "end", desc := "(I)Z" } : Jvm.MethodName)) ∈ WT := WT_of (sub_tables_1_3 _ (List.mem_of_getElem? (i := 67) (by decide +kernel))) (by decide +kernel)
set_option maxRecDepth 20000 in
theorem t_677 : (Jvm.Cond.selects "MatchTrees" ({ cls := "MatchTrees", name := "end", desc := "(I)Z" } : Jvm.MethodName) ({ cls := "MatchTrees", name := "end", desc := "(I)Z" } : Jvm.MethodName)) ∈ WT := WT_of (sub_tables_1_3 _ (List.mem_of_getElem? (i := 68) (by decide +kernel))) (by decide +kernel)
set_option maxRecDepth 20000 in
theorem t_678 : (Jvm.Cond.code ({ cls := "MatchTrees", name := "end", desc := "(I)Z" } : Jvm.MethodName) prog_1_method_3_code (2 : Nat) (Option.some Jvm.ClassFile.FieldType.boolean)) ∈ WT := WT_of (sub_tables_1_3 _ (List.mem_of_getElem? (i := 69) rfl)) (by decide +kernel)
set_option maxRecDepth 20000 in
theorem t_679 : (Jvm.Cond.methodLink "MatchTreesLaw" (23 : Nat) ({ cls := "MatchTrees", name := "match", desc := "()I" } : Jvm.MethodName)) ∈ WT := WT_of (sub_tables_1_3 _ (List.mem_of_getElem? (i := 70) (by decide +kernel))) (by decide +kernel)
set_option maxRecDepth 20000 in
theorem t_680 : (Jvm.Cond.instanceMethod ({ cls := "MatchTrees", name := "match", desc := "()I" } : Jvm.MethodName)) ∈ WT := WT_of (sub_tables_1_3 _ (List.mem_of_getElem? (i := 71) (by decide +kernel))) (by decide +kernel)
set_option maxRecDepth 20000 in
theorem t_681 : (Jvm.Cond.selects "MatchTrees" ({ cls := "MatchTrees", name := "match", desc := "()I" } : Jvm.MethodName) ({ cls := "MatchTrees", name := "match", desc := "()I" } : Jvm.MethodName)) ∈ WT := WT_of (sub_tables_1_3 _ (List.mem_of_getElem? (i := 72) (by decide +kernel))) (by decide +kernel)
set_option maxRecDepth 20000 in
theorem t_682 : (Jvm.Cond.code ({ cls := "MatchTrees", name := "match", desc := "()I" } : Jvm.MethodName) prog_1_method_4_code (3 : Nat) (Option.some Jvm.ClassFile.FieldType.int)) ∈ WT := WT_of (sub_tables_1_3 _ (List.mem_of_getElem? (i := 73) rfl)) (by decide +kernel)
set_option maxRecDepth 20000 in
theorem t_683 : (Jvm.Cond.methodLink "MatchTrees" (110 : Nat) ({ cls := "MatchTrees$Reader", name := "readMatch", desc := "(LMatchTrees$Bytes;LMatchTrees$Table;)I" } : Jvm.MethodName)) ∈ WT := WT_of (sub_tables_1_3 _ (List.mem_of_getElem? (i := 74) (by decide +kernel))) (by decide +kernel)
set_option maxRecDepth 20000 in
theorem t_684 : (Jvm.Cond.instanceMethod ({ cls := "MatchTrees$Reader", name := "readMatch", desc := "(LMatchTrees$Bytes;LMatchTrees$Table;)I" } : Jvm.MethodName)) ∈ WT := WT_of (sub_tables_1_3 _ (List.mem_of_getElem? (i := 75) (by decide +kernel))) (by decide +kernel)
set_option maxRecDepth 20000 in
theorem t_685 : (Jvm.Cond.selects "MatchTrees$Reader" ({ cls := "MatchTrees$Reader", name := "readMatch", desc := "(LMatchTrees$Bytes;LMatchTrees$Table;)I" } : Jvm.MethodName) ({ cls := "MatchTrees$Reader", name := "readMatch", desc := "(LMatchTrees$Bytes;LMatchTrees$Table;)I" } : Jvm.MethodName)) ∈ WT := WT_of (sub_tables_1_3 _ (List.mem_of_getElem? (i := 76) (by decide +kernel))) (by decide +kernel)
set_option maxRecDepth 20000 in
theorem t_686 : (Jvm.Cond.code ({ cls := "MatchTrees$Reader", name := "readMatch", desc := "(LMatchTrees$Bytes;LMatchTrees$Table;)I" } : Jvm.MethodName) prog_8_method_2_code (5 : Nat) (Option.some Jvm.ClassFile.FieldType.int)) ∈ WT := WT_of (sub_tables_1_3 _ (List.mem_of_getElem? (i := 77) rfl)) (by decide +kernel)
set_option maxRecDepth 20000 in
theorem t_687 : (Jvm.Cond.methodLink "MatchTrees$Reader" (31 : Nat) ({ cls := "MatchTrees$Table", name := "clear", desc := "()V" } : Jvm.MethodName)) ∈ WT := WT_of (sub_tables_1_3 _ (List.mem_of_getElem? (i := 78) (by decide +kernel))) (by decide +kernel)
set_option maxRecDepth 20000 in
theorem t_688 : (Jvm.Cond.instanceMethod ({ cls := "MatchTrees$Table", name := "clear", desc := "()V" } : Jvm.MethodName)) ∈ WT := WT_of (sub_tables_1_3 _ (List.mem_of_getElem? (i := 79) (by decide +kernel))) (by decide +kernel)
set_option maxRecDepth 20000 in
theorem t_689 : (Jvm.Cond.selects "MatchTrees$Table" ({ cls := "MatchTrees$Table", name := "clear", desc := "()V" } : Jvm.MethodName) ({ cls := "MatchTrees$Table", name := "clear", desc := "()V" } : Jvm.MethodName)) ∈ WT := WT_of (sub_tables_1_3 _ (List.mem_of_getElem? (i := 80) (by decide +kernel))) (by decide +kernel)
set_option maxRecDepth 20000 in
theorem t_690 : (Jvm.Cond.code ({ cls := "MatchTrees$Table", name := "clear", desc := "()V" } : Jvm.MethodName) prog_11_method_2_code (1 : Nat) (Option.none : Option Jvm.ClassFile.FieldType)) ∈ WT := WT_of (sub_tables_1_3 _ (List.mem_of_getElem? (i := 81) rfl)) (by decide +kernel)
set_option maxRecDepth 20000 in
theorem t_691 : (Jvm.Cond.methodLink "MatchTrees$Table" (36 : Nat) ({ cls := "MatchTrees$Kinds", name := "clear", desc := "()V" } : Jvm.MethodName)) ∈ WT := WT_of (sub_tables_1_3 _ (List.mem_of_getElem? (i := 82) (by decide +kernel))) (by decide +kernel)
set_option maxRecDepth 20000 in
theorem t_692 : (Jvm.Cond.instanceMethod ({ cls := "MatchTrees$Kinds", name := "clear", desc := "()V" } : Jvm.MethodName)) ∈ WT := WT_of (sub_tables_1_3 _ (List.mem_of_getElem? (i := 83) (by decide +kernel))) (by decide +kernel)
set_option maxRecDepth 20000 in
theorem t_693 : (Jvm.Cond.selects "MatchTrees$Kinds" ({ cls := "MatchTrees$Kinds", name := "clear", desc := "()V" } : Jvm.MethodName) ({ cls := "MatchTrees$Kinds", name := "clear", desc := "()V" } : Jvm.MethodName)) ∈ WT := WT_of (sub_tables_1_3 _ (List.mem_of_getElem? (i := 84) (by decide +kernel))) (by decide +kernel)
set_option maxRecDepth 20000 in
theorem t_694 : (Jvm.Cond.code ({ cls := "MatchTrees$Kinds", name := "clear", desc := "()V" } : Jvm.MethodName) prog_5_method_2_code (1 : Nat) (Option.none : Option Jvm.ClassFile.FieldType)) ∈ WT := WT_of (sub_tables_1_3 _ (List.mem_of_getElem? (i := 85) rfl)) (by decide +kernel)
set_option maxRecDepth 20000 in
theorem t_695 : (Jvm.Cond.methodLink "MatchTrees$Reader" (36 : Nat) ({ cls := "MatchTrees$Reader", name := "begin", desc := "(LMatchTrees$Bytes;)V" } : Jvm.MethodName)) ∈ WT := WT_of (sub_tables_1_3 _ (List.mem_of_getElem? (i := 86) (by decide +kernel))) (by decide +kernel)
set_option maxRecDepth 20000 in
theorem t_697 : (Jvm.Cond.instanceMethod ({ cls := "MatchTrees$Reader", name := "begin", desc := "(LMatchTrees$Bytes;)V" } : Jvm.MethodName)) ∈ WT := WT_of (sub_tables_1_3 _ (List.mem_of_getElem? (i := 88) (by decide +kernel))) (by decide +kernel)
set_option maxRecDepth 20000 in
theorem t_698 : (Jvm.Cond.code ({ cls := "MatchTrees$Reader", name := "begin", desc := "(LMatchTrees$Bytes;)V" } : Jvm.MethodName) prog_8_method_3_code (2 : Nat) (Option.none : Option Jvm.ClassFile.FieldType)) ∈ WT := WT_of (sub_tables_1_3 _ (List.mem_of_getElem? (i := 89) rfl)) (by decide +kernel)
set_option maxRecDepth 20000 in
theorem t_699 : (Jvm.Cond.methodLink "MatchTrees$Reader" (85 : Nat) ({ cls := "MatchTrees$Scanner", name := "begin", desc := "(LMatchTrees$Bytes;)V" } : Jvm.MethodName)) ∈ WT := WT_of (sub_tables_1_3 _ (List.mem_of_getElem? (i := 90) (by decide +kernel))) (by decide +kernel)
set_option maxRecDepth 20000 in
theorem t_700 : (Jvm.Cond.instanceMethod ({ cls := "MatchTrees$Scanner", name := "begin", desc := "(LMatchTrees$Bytes;)V" } : Jvm.MethodName)) ∈ WT := WT_of (sub_tables_1_3 _ (List.mem_of_getElem? (i := 91) (by decide +kernel))) (by decide +kernel)
set_option maxRecDepth 20000 in
theorem t_701 : (Jvm.Cond.selects "MatchTrees$Scanner" ({ cls := "MatchTrees$Scanner", name := "begin", desc := "(LMatchTrees$Bytes;)V" } : Jvm.MethodName) ({ cls := "MatchTrees$Scanner", name := "begin", desc := "(LMatchTrees$Bytes;)V" } : Jvm.MethodName)) ∈ WT := WT_of (sub_tables_1_3 _ (List.mem_of_getElem? (i := 92) (by decide +kernel))) (by decide +kernel)
set_option maxRecDepth 20000 in
theorem t_702 : (Jvm.Cond.code ({ cls := "MatchTrees$Scanner", name := "begin", desc := "(LMatchTrees$Bytes;)V" } : Jvm.MethodName) prog_9_method_3_code (2 : Nat) (Option.none : Option Jvm.ClassFile.FieldType)) ∈ WT := WT_of (sub_tables_1_3 _ (List.mem_of_getElem? (i := 93) rfl)) (by decide +kernel)
set_option maxRecDepth 20000 in
theorem t_703 : (Jvm.Cond.methodLink "MatchTrees$Scanner" (62 : Nat) ({ cls := "java/lang/Math", name := "min", desc := "(II)I" } : Jvm.MethodName)) ∈ WT := WT_of (sub_tables_1_3 _ (List.mem_of_getElem? (i := 94) (by decide +kernel))) (by decide +kernel)
set_option maxRecDepth 20000 in
theorem t_704 : (Jvm.Cond.static ({ cls := "java/lang/Math", name := "min", desc := "(II)I" } : Jvm.MethodName)) ∈ WT := WT_of (sub_tables_1_3 _ (List.mem_of_getElem? (i := 95) (by decide +kernel))) (by decide +kernel)
set_option maxRecDepth 20000 in
theorem t_705 : (Jvm.Cond.code ({ cls := "java/lang/Math", name := "min", desc := "(II)I" } : Jvm.MethodName) prog_16_method_69_code (2 : Nat) (Option.some Jvm.ClassFile.FieldType.int)) ∈ WT := WT_of (sub_tables_1_3 _ (List.mem_of_getElem? (i := 96) rfl)) (by decide +kernel)
set_option maxRecDepth 20000 in
theorem t_706 : (Jvm.Cond.methodLink "MatchTrees$Scanner" (68 : Nat) ({ cls := "java/lang/Math", name := "max", desc := "(II)I" } : Jvm.MethodName)) ∈ WT := WT_of (sub_tables_1_3 _ (List.mem_of_getElem? (i := 97) (by decide +kernel))) (by decide +kernel)
set_option maxRecDepth 20000 in
theorem t_707 : (Jvm.Cond.methodLink "MatchTrees$Scanner" (78 : Nat) ({ cls := "MatchTrees$Scanner", name := "step", desc := "()V" } : Jvm.MethodName)) ∈ WT := WT_of (sub_tables_1_3 _ (List.mem_of_getElem? (i := 98) (by decide +kernel))) (by decide +kernel)
set_option maxRecDepth 20000 in
theorem t_708 : (Jvm.Cond.instanceMethod ({ cls := "MatchTrees$Scanner", name := "step", desc := "()V" } : Jvm.MethodName)) ∈ WT := WT_of (sub_tables_1_3 _ (List.mem_of_getElem? (i := 99) (by decide +kernel))) (by decide +kernel)
set_option maxRecDepth 20000 in
theorem t_709 : (Jvm.Cond.selects "MatchTrees$Scanner" ({ cls := "MatchTrees$Scanner", name := "step", desc := "()V" } : Jvm.MethodName) ({ cls := "MatchTrees$Scanner", name := "step", desc := "()V" } : Jvm.MethodName)) ∈ WT := WT_of (sub_tables_1_3 _ (List.mem_of_getElem? (i := 100) (by decide +kernel))) (by decide +kernel)
set_option maxRecDepth 20000 in
theorem t_710 : (Jvm.Cond.code ({ cls := "MatchTrees$Scanner", name := "step", desc := "()V" } : Jvm.MethodName) prog_9_method_4_code (6 : Nat) (Option.none : Option Jvm.ClassFile.FieldType)) ∈ WT := WT_of (sub_tables_1_3 _ (List.mem_of_getElem? (i := 101) rfl)) (by decide +kernel)
set_option maxRecDepth 20000 in
theorem t_711 : (Jvm.Cond.methodLink "MatchTrees$Scanner" (93 : Nat) ({ cls := "MatchTrees$Scanner", name := "stepWord", desc := "()V" } : Jvm.MethodName)) ∈ WT := WT_of (sub_tables_1_3 _ (List.mem_of_getElem? (i := 102) (by decide +kernel))) (by decide +kernel)
set_option maxRecDepth 20000 in
theorem t_713 : (Jvm.Cond.instanceMethod ({ cls := "MatchTrees$Scanner", name := "stepWord", desc := "()V" } : Jvm.MethodName)) ∈ WT := WT_of (sub_tables_1_3 _ (List.mem_of_getElem? (i := 104) (by decide +kernel))) (by decide +kernel)
set_option maxRecDepth 20000 in
theorem t_714 : (Jvm.Cond.code ({ cls := "MatchTrees$Scanner", name := "stepWord", desc := "()V" } : Jvm.MethodName) prog_9_method_5_code (3 : Nat) (Option.none : Option Jvm.ClassFile.FieldType)) ∈ WT := WT_of (sub_tables_1_3 _ (List.mem_of_getElem? (i := 105) rfl)) (by decide +kernel)
set_option maxRecDepth 20000 in
theorem t_715 : (Jvm.Cond.methodLink "MatchTrees$Scanner" (96 : Nat) ({ cls := "MatchTrees$Scanner", name := "stepNumber", desc := "()V" } : Jvm.MethodName)) ∈ WT := WT_of (sub_tables_1_3 _ (List.mem_of_getElem? (i := 106) (by decide +kernel))) (by decide +kernel)
set_option maxRecDepth 20000 in
theorem t_717 : (Jvm.Cond.instanceMethod ({ cls := "MatchTrees$Scanner", name := "stepNumber", desc := "()V" } : Jvm.MethodName)) ∈ WT := WT_of (sub_tables_1_3 _ (List.mem_of_getElem? (i := 108) (by decide +kernel))) (by decide +kernel)
set_option maxRecDepth 20000 in
theorem t_718 : (Jvm.Cond.code ({ cls := "MatchTrees$Scanner", name := "stepNumber", desc := "()V" } : Jvm.MethodName) prog_9_method_6_code (2 : Nat) (Option.none : Option Jvm.ClassFile.FieldType)) ∈ WT := WT_of (sub_tables_1_3 _ (List.mem_of_getElem? (i := 109) rfl)) (by decide +kernel)
set_option maxRecDepth 20000 in
theorem t_719 : (Jvm.Cond.methodLink "MatchTrees$Reader" (46 : Nat) ({ cls := "MatchTrees$Reader", name := "readKind", desc := "()Z" } : Jvm.MethodName)) ∈ WT := WT_of (sub_tables_1_3 _ (List.mem_of_getElem? (i := 110) (by decide +kernel))) (by decide +kernel)
set_option maxRecDepth 20000 in
theorem t_721 : (Jvm.Cond.instanceMethod ({ cls := "MatchTrees$Reader", name := "readKind", desc := "()Z" } : Jvm.MethodName)) ∈ WT := WT_of (sub_tables_1_3 _ (List.mem_of_getElem? (i := 112) (by decide +kernel))) (by decide +kernel)
set_option maxRecDepth 20000 in
theorem t_722 : (Jvm.Cond.code ({ cls := "MatchTrees$Reader", name := "readKind", desc := "()Z" } : Jvm.MethodName) prog_8_method_10_code (1 : Nat) (Option.some Jvm.ClassFile.FieldType.boolean)) ∈ WT := WT_of (sub_tables_1_3 _ (List.mem_of_getElem? (i := 113) rfl)) (by decide +kernel)
set_option maxRecDepth 20000 in
theorem t_723 : (Jvm.Cond.methodLink "MatchTrees$Reader" (65 : Nat) ({ cls := "MatchTrees$Reader", name := "failHere", desc := "()Z" } : Jvm.MethodName)) ∈ WT := WT_of (sub_tables_1_3 _ (List.mem_of_getElem? (i := 114) (by decide +kernel))) (by decide +kernel)
set_option maxRecDepth 20000 in
theorem t_725 : (Jvm.Cond.instanceMethod ({ cls := "MatchTrees$Reader", name := "failHere", desc := "()Z" } : Jvm.MethodName)) ∈ WT := WT_of (sub_tables_1_3 _ (List.mem_of_getElem? (i := 116) (by decide +kernel))) (by decide +kernel)
set_option maxRecDepth 20000 in
theorem t_726 : (Jvm.Cond.code ({ cls := "MatchTrees$Reader", name := "failHere", desc := "()Z" } : Jvm.MethodName) prog_8_method_5_code (1 : Nat) (Option.some Jvm.ClassFile.FieldType.boolean)) ∈ WT := WT_of (sub_tables_1_3 _ (List.mem_of_getElem? (i := 117) rfl)) (by decide +kernel)
set_option maxRecDepth 20000 in
theorem t_727 : (Jvm.Cond.methodLink "MatchTrees$Reader" (75 : Nat) ({ cls := "MatchTrees$Reader", name := "fail", desc := "(II)Z" } : Jvm.MethodName)) ∈ WT := WT_of (sub_tables_1_3 _ (List.mem_of_getElem? (i := 118) (by decide +kernel))) (by decide +kernel)
set_option maxRecDepth 20000 in
theorem t_729 : (Jvm.Cond.instanceMethod ({ cls := "MatchTrees$Reader", name := "fail", desc := "(II)Z" } : Jvm.MethodName)) ∈ WT := WT_of (sub_tables_1_3 _ (List.mem_of_getElem? (i := 120) (by decide +kernel))) (by decide +kernel)
set_option maxRecDepth 20000 in
theorem t_730 : (Jvm.Cond.code ({ cls := "MatchTrees$Reader", name := "fail", desc := "(II)Z" } : Jvm.MethodName) prog_8_method_4_code (3 : Nat) (Option.some Jvm.ClassFile.FieldType.boolean)) ∈ WT := WT_of (sub_tables_1_3 _ (List.mem_of_getElem? (i := 121) rfl)) (by decide +kernel)
set_option maxRecDepth 20000 in
theorem t_731 : (Jvm.Cond.methodLink "MatchTrees$Reader" (92 : Nat) ({ cls := "MatchTrees$Scanner", name := "step", desc := "()V" } : Jvm.MethodName)) ∈ WT := WT_of (sub_tables_1_3 _ (List.mem_of_getElem? (i := 122) (by decide +kernel))) (by decide +kernel)
set_option maxRecDepth 20000 in
theorem t_732 : (Jvm.Cond.methodLink "MatchTrees$Reader" (116 : Nat) ({ cls := "MatchTrees$Reader", name := "isNewName", desc := "()Z" } : Jvm.MethodName)) ∈ WT := WT_of (sub_tables_1_3 _ (List.mem_of_getElem? (i := 123) (by decide +kernel))) (by decide +kernel)
set_option maxRecDepth 20000 in
theorem t_734 : (Jvm.Cond.instanceMethod ({ cls := "MatchTrees$Reader", name := "isNewName", desc := "()Z" } : Jvm.MethodName)) ∈ WT := WT_of (sub_tables_1_3 _ (List.mem_of_getElem? (i := 125) (by decide +kernel))) (by decide +kernel)
set_option maxRecDepth 20000 in
theorem t_735 : (Jvm.Cond.code ({ cls := "MatchTrees$Reader", name := "isNewName", desc := "()Z" } : Jvm.MethodName) prog_8_method_11_code (2 : Nat) (Option.some Jvm.ClassFile.FieldType.boolean)) ∈ WT := WT_of (sub_tables_1_3 _ (List.mem_of_getElem? (i := 126) rfl)) (by decide +kernel)
set_option maxRecDepth 20000 in
theorem t_736 : (Jvm.Cond.methodLink "MatchTrees$Reader" (123 : Nat) ({ cls := "MatchTrees$Scanner", name := "isName", desc := "()Z" } : Jvm.MethodName)) ∈ WT := WT_of (sub_tables_1_3 _ (List.mem_of_getElem? (i := 127) (by decide +kernel))) (by decide +kernel)
set_option maxRecDepth 20000 in
theorem t_737 : (Jvm.Cond.instanceMethod ({ cls := "MatchTrees$Scanner", name := "isName", desc := "()Z" } : Jvm.MethodName)) ∈ WT := WT_of (sub_tables_1_3 _ (List.mem_of_getElem? (i := 128) (by decide +kernel))) (by decide +kernel)
set_option maxRecDepth 20000 in
theorem t_738 : (Jvm.Cond.selects "MatchTrees$Scanner" ({ cls := "MatchTrees$Scanner", name := "isName", desc := "()Z" } : Jvm.MethodName) ({ cls := "MatchTrees$Scanner", name := "isName", desc := "()Z" } : Jvm.MethodName)) ∈ WT := WT_of (sub_tables_1_3 _ (List.mem_of_getElem? (i := 129) (by decide +kernel))) (by decide +kernel)
set_option maxRecDepth 20000 in
theorem t_739 : (Jvm.Cond.code ({ cls := "MatchTrees$Scanner", name := "isName", desc := "()Z" } : Jvm.MethodName) prog_9_method_7_code (1 : Nat) (Option.some Jvm.ClassFile.FieldType.boolean)) ∈ WT := WT_of (sub_tables_1_3 _ (List.mem_of_getElem? (i := 130) rfl)) (by decide +kernel)
set_option maxRecDepth 20000 in
theorem t_740 : (Jvm.Cond.methodLink "MatchTrees$Reader" (126 : Nat) ({ cls := "MatchTrees$Kinds", name := "kindNamed", desc := "(I)I" } : Jvm.MethodName)) ∈ WT := WT_of (sub_tables_1_3 _ (List.mem_of_getElem? (i := 131) (by decide +kernel))) (by decide +kernel)
set_option maxRecDepth 20000 in
theorem t_741 : (Jvm.Cond.instanceMethod ({ cls := "MatchTrees$Kinds", name := "kindNamed", desc := "(I)I" } : Jvm.MethodName)) ∈ WT := WT_of (sub_tables_1_3 _ (List.mem_of_getElem? (i := 132) (by decide +kernel))) (by decide +kernel)
set_option maxRecDepth 20000 in
theorem t_742 : (Jvm.Cond.selects "MatchTrees$Kinds" ({ cls := "MatchTrees$Kinds", name := "kindNamed", desc := "(I)I" } : Jvm.MethodName) ({ cls := "MatchTrees$Kinds", name := "kindNamed", desc := "(I)I" } : Jvm.MethodName)) ∈ WT := WT_of (sub_tables_1_3 _ (List.mem_of_getElem? (i := 133) (by decide +kernel))) (by decide +kernel)
set_option maxRecDepth 20000 in
theorem t_743 : (Jvm.Cond.code ({ cls := "MatchTrees$Kinds", name := "kindNamed", desc := "(I)I" } : Jvm.MethodName) prog_5_method_7_code (3 : Nat) (Option.some Jvm.ClassFile.FieldType.int)) ∈ WT := WT_of (sub_tables_1_3 _ (List.mem_of_getElem? (i := 134) rfl)) (by decide +kernel)
set_option maxRecDepth 20000 in
theorem t_744 : (Jvm.Cond.methodLink "MatchTrees$Reader" (130 : Nat) ({ cls := "MatchTrees$Kinds", name := "conNamed", desc := "(I)I" } : Jvm.MethodName)) ∈ WT := WT_of (sub_tables_1_3 _ (List.mem_of_getElem? (i := 135) (by decide +kernel))) (by decide +kernel)
set_option maxRecDepth 20000 in
theorem t_745 : (Jvm.Cond.instanceMethod ({ cls := "MatchTrees$Kinds", name := "conNamed", desc := "(I)I" } : Jvm.MethodName)) ∈ WT := WT_of (sub_tables_1_3 _ (List.mem_of_getElem? (i := 136) (by decide +kernel))) (by decide +kernel)
set_option maxRecDepth 20000 in
theorem t_746 : (Jvm.Cond.selects "MatchTrees$Kinds" ({ cls := "MatchTrees$Kinds", name := "conNamed", desc := "(I)I" } : Jvm.MethodName) ({ cls := "MatchTrees$Kinds", name := "conNamed", desc := "(I)I" } : Jvm.MethodName)) ∈ WT := WT_of (sub_tables_1_3 _ (List.mem_of_getElem? (i := 137) (by decide +kernel))) (by decide +kernel)
set_option maxRecDepth 20000 in
theorem t_747 : (Jvm.Cond.code ({ cls := "MatchTrees$Kinds", name := "conNamed", desc := "(I)I" } : Jvm.MethodName) prog_5_method_8_code (3 : Nat) (Option.some Jvm.ClassFile.FieldType.int)) ∈ WT := WT_of (sub_tables_1_3 _ (List.mem_of_getElem? (i := 138) rfl)) (by decide +kernel)
set_option maxRecDepth 20000 in
theorem t_748 : (Jvm.Cond.methodLink "MatchTrees$Reader" (119 : Nat) ({ cls := "MatchTrees$Kinds", name := "addKind", desc := "(I)V" } : Jvm.MethodName)) ∈ WT := WT_of (sub_tables_1_3 _ (List.mem_of_getElem? (i := 139) (by decide +kernel))) (by decide +kernel)
set_option maxRecDepth 20000 in
theorem t_749 : (Jvm.Cond.instanceMethod ({ cls := "MatchTrees$Kinds", name := "addKind", desc := "(I)V" } : Jvm.MethodName)) ∈ WT := WT_of (sub_tables_1_3 _ (List.mem_of_getElem? (i := 140) (by decide +kernel))) (by decide +kernel)
set_option maxRecDepth 20000 in
theorem t_750 : (Jvm.Cond.selects "MatchTrees$Kinds" ({ cls := "MatchTrees$Kinds", name := "addKind", desc := "(I)V" } : Jvm.MethodName) ({ cls := "MatchTrees$Kinds", name := "addKind", desc := "(I)V" } : Jvm.MethodName)) ∈ WT := WT_of (sub_tables_1_3 _ (List.mem_of_getElem? (i := 141) (by decide +kernel))) (by decide +kernel)
set_option maxRecDepth 20000 in
theorem t_751 : (Jvm.Cond.code ({ cls := "MatchTrees$Kinds", name := "addKind", desc := "(I)V" } : Jvm.MethodName) prog_5_method_12_code (2 : Nat) (Option.none : Option Jvm.ClassFile.FieldType)) ∈ WT := WT_of (sub_tables_1_3 _ (List.mem_of_getElem? (i := 142) rfl)) (by decide +kernel)
set_option maxRecDepth 20000 in
theorem t_752 : (Jvm.Cond.methodLink "MatchTrees$Reader" (50 : Nat) ({ cls := "MatchTrees$Reader", name := "readCon", desc := "()Z" } : Jvm.MethodName)) ∈ WT := WT_of (sub_tables_1_3 _ (List.mem_of_getElem? (i := 143) (by decide +kernel))) (by decide +kernel)
set_option maxRecDepth 20000 in
theorem t_754 : (Jvm.Cond.instanceMethod ({ cls := "MatchTrees$Reader", name := "readCon", desc := "()Z" } : Jvm.MethodName)) ∈ WT := WT_of (sub_tables_1_3 _ (List.mem_of_getElem? (i := 145) (by decide +kernel))) (by decide +kernel)
set_option maxRecDepth 20000 in
theorem t_755 : (Jvm.Cond.code ({ cls := "MatchTrees$Reader", name := "readCon", desc := "()Z" } : Jvm.MethodName) prog_8_method_12_code (9 : Nat) (Option.some Jvm.ClassFile.FieldType.boolean)) ∈ WT := WT_of (sub_tables_1_3 _ (List.mem_of_getElem? (i := 146) rfl)) (by decide +kernel)
set_option maxRecDepth 20000 in
theorem t_756 : (Jvm.Cond.methodLink "MatchTrees$Reader" (133 : Nat) ({ cls := "MatchTrees$Kinds", name := "consOf", desc := "(I)I" } : Jvm.MethodName)) ∈ WT := WT_of (sub_tables_1_3 _ (List.mem_of_getElem? (i := 147) (by decide +kernel))) (by decide +kernel)
set_option maxRecDepth 20000 in
theorem t_757 : (Jvm.Cond.instanceMethod ({ cls := "MatchTrees$Kinds", name := "consOf", desc := "(I)I" } : Jvm.MethodName)) ∈ WT := WT_of (sub_tables_1_3 _ (List.mem_of_getElem? (i := 148) (by decide +kernel))) (by decide +kernel)
set_option maxRecDepth 20000 in
theorem t_758 : (Jvm.Cond.selects "MatchTrees$Kinds" ({ cls := "MatchTrees$Kinds", name := "consOf", desc := "(I)I" } : Jvm.MethodName) ({ cls := "MatchTrees$Kinds", name := "consOf", desc := "(I)I" } : Jvm.MethodName)) ∈ WT := WT_of (sub_tables_1_3 _ (List.mem_of_getElem? (i := 149) (by decide +kernel))) (by decide +kernel)
set_option maxRecDepth 20000 in
theorem t_759 : (Jvm.Cond.code ({ cls := "MatchTrees$Kinds", name := "consOf", desc := "(I)I" } : Jvm.MethodName) prog_5_method_6_code (2 : Nat) (Option.some Jvm.ClassFile.FieldType.int)) ∈ WT := WT_of (sub_tables_1_3 _ (List.mem_of_getElem? (i := 150) rfl)) (by decide +kernel)
set_option maxRecDepth 20000 in
theorem t_760 : (Jvm.Cond.methodLink "MatchTrees$Kinds" (46 : Nat) ({ cls := "MatchTrees$Kinds", name := "isKind", desc := "(I)Z" } : Jvm.MethodName)) ∈ WT := WT_of (sub_tables_1_3 _ (List.mem_of_getElem? (i := 151) (by decide +kernel))) (by decide +kernel)
set_option maxRecDepth 20000 in
theorem t_761 : (Jvm.Cond.instanceMethod ({ cls := "MatchTrees$Kinds", name := "isKind", desc := "(I)Z" } : Jvm.MethodName)) ∈ WT := WT_of (sub_tables_1_3 _ (List.mem_of_getElem? (i := 152) (by decide +kernel))) (by decide +kernel)
set_option maxRecDepth 20000 in
theorem t_762 : (Jvm.Cond.selects "MatchTrees$Kinds" ({ cls := "MatchTrees$Kinds", name := "isKind", desc := "(I)Z" } : Jvm.MethodName) ({ cls := "MatchTrees$Kinds", name := "isKind", desc := "(I)Z" } : Jvm.MethodName)) ∈ WT := WT_of (sub_tables_1_3 _ (List.mem_of_getElem? (i := 153) (by decide +kernel))) (by decide +kernel)
set_option maxRecDepth 20000 in
theorem t_763 : (Jvm.Cond.code ({ cls := "MatchTrees$Kinds", name := "isKind", desc := "(I)Z" } : Jvm.MethodName) prog_5_method_3_code (2 : Nat) (Option.some Jvm.ClassFile.FieldType.boolean)) ∈ WT := WT_of (sub_tables_1_3 _ (List.mem_of_getElem? (i := 154) rfl)) (by decide +kernel)
set_option maxRecDepth 20000 in
theorem t_764 : (Jvm.Cond.methodLink "MatchTrees$Reader" (136 : Nat) ({ cls := "MatchTrees$Reader", name := "isKindWord", desc := "()Z" } : Jvm.MethodName)) ∈ WT := WT_of (sub_tables_1_3 _ (List.mem_of_getElem? (i := 155) (by decide +kernel))) (by decide +kernel)
set_option maxRecDepth 20000 in
theorem t_766 : (Jvm.Cond.instanceMethod ({ cls := "MatchTrees$Reader", name := "isKindWord", desc := "()Z" } : Jvm.MethodName)) ∈ WT := WT_of (sub_tables_1_3 _ (List.mem_of_getElem? (i := 157) (by decide +kernel))) (by decide +kernel)
set_option maxRecDepth 20000 in
theorem t_767 : (Jvm.Cond.code ({ cls := "MatchTrees$Reader", name := "isKindWord", desc := "()Z" } : Jvm.MethodName) prog_8_method_13_code (1 : Nat) (Option.some Jvm.ClassFile.FieldType.boolean)) ∈ WT := WT_of (sub_tables_1_3 _ (List.mem_of_getElem? (i := 158) rfl)) (by decide +kernel)
set_option maxRecDepth 20000 in
theorem t_768 : (Jvm.Cond.methodLink "MatchTrees$Reader" (139 : Nat) ({ cls := "MatchTrees$Reader", name := "isKindHere", desc := "(I)Z" } : Jvm.MethodName)) ∈ WT := WT_of (sub_tables_1_3 _ (List.mem_of_getElem? (i := 159) (by decide +kernel))) (by decide +kernel)
set_option maxRecDepth 20000 in
theorem t_770 : (Jvm.Cond.instanceMethod ({ cls := "MatchTrees$Reader", name := "isKindHere", desc := "(I)Z" } : Jvm.MethodName)) ∈ WT := WT_of (sub_tables_1_3 _ (List.mem_of_getElem? (i := 161) (by decide +kernel))) (by decide +kernel)
end
