section
section
/-! One list of words for every method: the tables' words that stay true while tables warm. -/
def WT : List Cond := lw_tbl.filter goodWord
theorem WT_tbl {w : Cond} (h : w ∈ WT) : w ∈ lw_tbl := (List.mem_filter.mp h).1
theorem WT_good {w : Cond} (h : w ∈ WT) : goodWord w = true := (List.mem_filter.mp h).2
theorem WT_of {w : Cond} (h : w ∈ lw_tbl) (g : goodWord w = true) : w ∈ WT := List.mem_filter.mpr ⟨h, g⟩
/-- a callee's words among WT -/
theorem gI {w : Cond} (h : w ∈ WT) : GoodIn WT (w :: WT) := fun x hx => (List.mem_cons.mp hx).elim (fun e => e ▸ ⟨h, good_of_word (WT_good h)⟩) (fun q => ⟨q, good_of_word (WT_good q)⟩)
theorem gV {own C : String} {idx : Nat} {y : MethodName} {w : Cond} (h1 : Cond.methodLink own idx y ∈ WT) (h2 : Cond.instanceMethod y ∈ WT) (h3 : Cond.selects C y y ∈ WT) (h4 : Cond.initialized C ∈ WT) (h5 : w ∈ WT) : GoodIn WT (wsV own idx C y (w :: WT)) := by
  intro x hx
  have hm : x ∈ WT := by
    rcases List.mem_append.mp hx with q | q
    · simp only [List.mem_cons, List.not_mem_nil, or_false] at q
      rcases q with rfl | rfl | rfl | rfl <;> assumption
    · rcases List.mem_cons.mp q with rfl | q
      · exact h5
      · exact q
  exact ⟨hm, good_of_word (WT_good hm)⟩
theorem gS {own : String} {idx : Nat} {y : MethodName} {w : Cond} (h1 : Cond.methodLink own idx y ∈ WT) (h2 : Cond.static y ∈ WT) (h3 : Cond.initialized own ∈ WT) (h5 : w ∈ WT) : GoodIn WT (wsS own idx y (w :: WT)) := by
  intro x hx
  have hm : x ∈ WT := by
    rcases List.mem_append.mp hx with q | q
    · simp only [List.mem_cons, List.not_mem_nil, or_false] at q
      rcases q with rfl | rfl | rfl <;> assumption
    · rcases List.mem_cons.mp q with rfl | q
      · exact h5
      · exact q
  exact ⟨hm, good_of_word (WT_good hm)⟩
theorem gT {own : String} {idx : Nat} {y : MethodName} {w : Cond} (h1 : Cond.methodLink own idx y ∈ WT) (h2 : Cond.static y ∈ WT) (h3 : Cond.initialized y.cls ∈ WT) (h5 : w ∈ WT) : GoodIn WT (va_wsS own idx y (w :: WT)) := by
  intro x hx
  have hm : x ∈ WT := by
    rcases List.mem_append.mp hx with q | q
    · simp only [List.mem_cons, List.not_mem_nil, or_false] at q
      rcases q with rfl | rfl | rfl <;> assumption
    · rcases List.mem_cons.mp q with rfl | q
      · exact h5
      · exact q
  exact ⟨hm, good_of_word (WT_good hm)⟩
theorem tb_in : ∀ w ∈ tables_1, w ∈ lw_tbl := fun w h => List.mem_append_right _ h
theorem sub_tables_1_1 : ∀ w ∈ tables_1_1, w ∈ lw_tbl := fun w h => tb_in w (List.mem_append_left _ h)
theorem sub_tables_1_2 : ∀ w ∈ tables_1_2, w ∈ lw_tbl := fun w h => tb_in w (List.mem_append_right _ (List.mem_append_left _ h))
theorem sub_tables_1_3 : ∀ w ∈ tables_1_3, w ∈ lw_tbl := fun w h => tb_in w (List.mem_append_right _ (List.mem_append_right _ (List.mem_append_left _ h)))
theorem sub_tables_1_4 : ∀ w ∈ tables_1_4, w ∈ lw_tbl := fun w h => tb_in w (List.mem_append_right _ (List.mem_append_right _ (List.mem_append_right _ (List.mem_append_left _ h))))
theorem sub_tables_1_5 : ∀ w ∈ tables_1_5, w ∈ lw_tbl := fun w h => tb_in w (List.mem_append_right _ (List.mem_append_right _ (List.mem_append_right _ (List.mem_append_right _ (List.mem_append_left _ h)))))
theorem sub_tables_1_6 : ∀ w ∈ tables_1_6, w ∈ lw_tbl := fun w h => tb_in w (List.mem_append_right _ (List.mem_append_right _ (List.mem_append_right _ (List.mem_append_right _ (List.mem_append_right _ (List.mem_append_left _ h))))))
theorem sub_tables_1_7 : ∀ w ∈ tables_1_7, w ∈ lw_tbl := fun w h => tb_in w (List.mem_append_right _ (List.mem_append_right _ (List.mem_append_right _ (List.mem_append_right _ (List.mem_append_right _ (List.mem_append_right _ (List.mem_append_left _ h)))))))
theorem sub_tables_1_8 : ∀ w ∈ tables_1_8, w ∈ lw_tbl := fun w h => tb_in w (List.mem_append_right _ (List.mem_append_right _ (List.mem_append_right _ (List.mem_append_right _ (List.mem_append_right _ (List.mem_append_right _ (List.mem_append_right _ (List.mem_append_left _ h))))))))
theorem sub_tables_1_9 : ∀ w ∈ tables_1_9, w ∈ lw_tbl := fun w h => tb_in w (List.mem_append_right _ (List.mem_append_right _ (List.mem_append_right _ (List.mem_append_right _ (List.mem_append_right _ (List.mem_append_right _ (List.mem_append_right _ (List.mem_append_right _ h))))))))
end
section
set_option maxRecDepth 20000 in
theorem t_130 : (Jvm.Cond.initialized "MatchTrees") ∈ WT := WT_of (sub_tables_1_1 _ (List.mem_of_getElem? (i := 1) (by decide +kernel))) (by decide +kernel)
set_option maxRecDepth 20000 in
theorem t_131 : (Jvm.Cond.initialized "MatchTrees$Bytes") ∈ WT := WT_of (sub_tables_1_1 _ (List.mem_of_getElem? (i := 2) (by decide +kernel))) (by decide +kernel)
set_option maxRecDepth 20000 in
theorem t_132 : (Jvm.Cond.initialized "java/lang/Math") ∈ WT := WT_of (sub_tables_1_1 _ (List.mem_of_getElem? (i := 3) (by decide +kernel))) (by decide +kernel)
set_option maxRecDepth 20000 in
theorem t_133 : (Jvm.Cond.initialized "MatchTrees$Marks") ∈ WT := WT_of (sub_tables_1_1 _ (List.mem_of_getElem? (i := 4) (by decide +kernel))) (by decide +kernel)
set_option maxRecDepth 20000 in
theorem t_134 : (Jvm.Cond.initialized "MatchTrees$Groups") ∈ WT := WT_of (sub_tables_1_1 _ (List.mem_of_getElem? (i := 5) (by decide +kernel))) (by decide +kernel)
set_option maxRecDepth 20000 in
theorem t_135 : (Jvm.Cond.initialized "MatchTrees$Order") ∈ WT := WT_of (sub_tables_1_1 _ (List.mem_of_getElem? (i := 6) (by decide +kernel))) (by decide +kernel)
set_option maxRecDepth 20000 in
theorem t_136 : (Jvm.Cond.initialized "MatchTrees$Acts") ∈ WT := WT_of (sub_tables_1_1 _ (List.mem_of_getElem? (i := 7) (by decide +kernel))) (by decide +kernel)
set_option maxRecDepth 20000 in
theorem t_137 : (Jvm.Cond.initialized "MatchTrees$Seen") ∈ WT := WT_of (sub_tables_1_1 _ (List.mem_of_getElem? (i := 8) (by decide +kernel))) (by decide +kernel)
set_option maxRecDepth 20000 in
theorem t_138 : (Jvm.Cond.initialized "MatchTrees$Table") ∈ WT := WT_of (sub_tables_1_1 _ (List.mem_of_getElem? (i := 9) (by decide +kernel))) (by decide +kernel)
set_option maxRecDepth 20000 in
theorem t_139 : (Jvm.Cond.initialized "MatchTrees$Kinds") ∈ WT := WT_of (sub_tables_1_1 _ (List.mem_of_getElem? (i := 10) (by decide +kernel))) (by decide +kernel)
set_option maxRecDepth 20000 in
theorem t_140 : (Jvm.Cond.initialized "MatchTrees$Reader") ∈ WT := WT_of (sub_tables_1_1 _ (List.mem_of_getElem? (i := 11) (by decide +kernel))) (by decide +kernel)
set_option maxRecDepth 20000 in
theorem t_141 : (Jvm.Cond.initialized "MatchTrees$Scanner") ∈ WT := WT_of (sub_tables_1_1 _ (List.mem_of_getElem? (i := 12) (by decide +kernel))) (by decide +kernel)
set_option maxRecDepth 20000 in
theorem t_142 : (Jvm.Cond.initialized "java/lang/String") ∈ WT := WT_of (sub_tables_1_1 _ (List.mem_of_getElem? (i := 13) (by decide +kernel))) (by decide +kernel)
set_option maxRecDepth 20000 in
theorem t_143 : (Jvm.Cond.initialized "java/lang/StringLatin1") ∈ WT := WT_of (sub_tables_1_1 _ (List.mem_of_getElem? (i := 14) (by decide +kernel))) (by decide +kernel)
set_option maxRecDepth 20000 in
theorem t_144 : (Jvm.Cond.initialized "jdk/internal/util/Preconditions") ∈ WT := WT_of (sub_tables_1_1 _ (List.mem_of_getElem? (i := 15) (by decide +kernel))) (by decide +kernel)
set_option maxRecDepth 20000 in
theorem t_146 : (Jvm.Cond.initialized "MatchTrees$Trees") ∈ WT := WT_of (sub_tables_1_1 _ (List.mem_of_getElem? (i := 17) (by decide +kernel))) (by decide +kernel)
set_option maxRecDepth 20000 in
theorem t_147 : (Jvm.Cond.initialized "MatchTreesModel") ∈ WT := WT_of (sub_tables_1_1 _ (List.mem_of_getElem? (i := 18) (by decide +kernel))) (by decide +kernel)
set_option maxRecDepth 20000 in
theorem t_148 : (Jvm.Cond.initialized "java/lang/Integer") ∈ WT := WT_of (sub_tables_1_1 _ (List.mem_of_getElem? (i := 19) (by decide +kernel))) (by decide +kernel)
set_option maxRecDepth 20000 in
theorem t_149 : (Jvm.Cond.classLink "MatchTreesLaw" (7 : Nat) "MatchTrees") ∈ WT := WT_of (sub_tables_1_1 _ (List.mem_of_getElem? (i := 20) (by decide +kernel))) (by decide +kernel)
set_option maxRecDepth 20000 in
theorem t_150 : (Jvm.Cond.instantiable "MatchTrees" (15 : Nat)) ∈ WT := WT_of (sub_tables_1_1 _ (List.mem_of_getElem? (i := 21) (by decide +kernel))) (by decide +kernel)
set_option maxRecDepth 20000 in
theorem t_151 : (Jvm.Cond.methodLink "MatchTreesLaw" (9 : Nat) ({ cls := "MatchTrees", name := "<init>", desc := "()V" } : Jvm.MethodName)) ∈ WT := WT_of (sub_tables_1_1 _ (List.mem_of_getElem? (i := 22) (by decide +kernel))) (by decide +kernel)
set_option maxRecDepth 20000 in
theorem t_152 : (Jvm.Cond.instanceMethod ({ cls := "MatchTrees", name := "<init>", desc := "()V" } : Jvm.MethodName)) ∈ WT := WT_of (sub_tables_1_1 _ (List.mem_of_getElem? (i := 23) (by decide +kernel))) (by decide +kernel)
set_option maxRecDepth 20000 in
theorem t_153 : (Jvm.Cond.code ({ cls := "MatchTrees", name := "<init>", desc := "()V" } : Jvm.MethodName) prog_1_method_1_code (1 : Nat) (Option.none : Option Jvm.ClassFile.FieldType)) ∈ WT := WT_of (sub_tables_1_1 _ (List.mem_of_getElem? (i := 24) rfl)) (by decide +kernel)
set_option maxRecDepth 20000 in
theorem t_154 : (Jvm.Cond.methodLink "MatchTrees" (3 : Nat) ({ cls := "java/lang/Object", name := "<init>", desc := "()V" } : Jvm.MethodName)) ∈ WT := WT_of (sub_tables_1_1 _ (List.mem_of_getElem? (i := 25) (by decide +kernel))) (by decide +kernel)
set_option maxRecDepth 20000 in
theorem t_155 : (Jvm.Cond.instanceMethod ({ cls := "java/lang/Object", name := "<init>", desc := "()V" } : Jvm.MethodName)) ∈ WT := WT_of (sub_tables_1_1 _ (List.mem_of_getElem? (i := 26) (by decide +kernel))) (by decide +kernel)
set_option maxRecDepth 20000 in
theorem t_156 : (Jvm.Cond.code ({ cls := "java/lang/Object", name := "<init>", desc := "()V" } : Jvm.MethodName) object_method_1_code (1 : Nat) (Option.none : Option Jvm.ClassFile.FieldType)) ∈ WT := WT_of (sub_tables_1_1 _ (List.mem_of_getElem? (i := 27) rfl)) (by decide +kernel)
set_option maxRecDepth 20000 in
theorem t_157 : (Jvm.Cond.classLink "MatchTrees" (9 : Nat) "MatchTrees$Bytes") ∈ WT := WT_of (sub_tables_1_1 _ (List.mem_of_getElem? (i := 28) (by decide +kernel))) (by decide +kernel)
set_option maxRecDepth 20000 in
theorem t_158 : (Jvm.Cond.instantiable "MatchTrees$Bytes" (2 : Nat)) ∈ WT := WT_of (sub_tables_1_1 _ (List.mem_of_getElem? (i := 29) (by decide +kernel))) (by decide +kernel)
set_option maxRecDepth 20000 in
theorem t_159 : (Jvm.Cond.methodLink "MatchTrees" (11 : Nat) ({ cls := "MatchTrees$Bytes", name := "<init>", desc := "(I)V" } : Jvm.MethodName)) ∈ WT := WT_of (sub_tables_1_1 _ (List.mem_of_getElem? (i := 30) (by decide +kernel))) (by decide +kernel)
set_option maxRecDepth 20000 in
theorem t_160 : (Jvm.Cond.instanceMethod ({ cls := "MatchTrees$Bytes", name := "<init>", desc := "(I)V" } : Jvm.MethodName)) ∈ WT := WT_of (sub_tables_1_1 _ (List.mem_of_getElem? (i := 31) (by decide +kernel))) (by decide +kernel)
set_option maxRecDepth 20000 in
theorem t_161 : (Jvm.Cond.code ({ cls := "MatchTrees$Bytes", name := "<init>", desc := "(I)V" } : Jvm.MethodName) prog_3_method_1_code (2 : Nat) (Option.none : Option Jvm.ClassFile.FieldType)) ∈ WT := WT_of (sub_tables_1_1 _ (List.mem_of_getElem? (i := 32) rfl)) (by decide +kernel)
set_option maxRecDepth 20000 in
theorem t_162 : (Jvm.Cond.methodLink "MatchTrees$Bytes" (3 : Nat) ({ cls := "java/lang/Object", name := "<init>", desc := "()V" } : Jvm.MethodName)) ∈ WT := WT_of (sub_tables_1_1 _ (List.mem_of_getElem? (i := 33) (by decide +kernel))) (by decide +kernel)
set_option maxRecDepth 20000 in
theorem t_163 : (Jvm.Cond.methodLink "MatchTrees$Bytes" (9 : Nat) ({ cls := "java/lang/Math", name := "max", desc := "(II)I" } : Jvm.MethodName)) ∈ WT := WT_of (sub_tables_1_1 _ (List.mem_of_getElem? (i := 34) (by decide +kernel))) (by decide +kernel)
set_option maxRecDepth 20000 in
theorem t_164 : (Jvm.Cond.static ({ cls := "java/lang/Math", name := "max", desc := "(II)I" } : Jvm.MethodName)) ∈ WT := WT_of (sub_tables_1_1 _ (List.mem_of_getElem? (i := 35) (by decide +kernel))) (by decide +kernel)
set_option maxRecDepth 20000 in
theorem t_165 : (Jvm.Cond.code ({ cls := "java/lang/Math", name := "max", desc := "(II)I" } : Jvm.MethodName) prog_16_method_65_code (2 : Nat) (Option.some Jvm.ClassFile.FieldType.int)) ∈ WT := WT_of (sub_tables_1_1 _ (List.mem_of_getElem? (i := 36) rfl)) (by decide +kernel)
set_option maxRecDepth 20000 in
theorem t_166 : (Jvm.Cond.fieldLink "MatchTrees$Bytes" (15 : Nat) "MatchTrees$Bytes" "bytes" "[I") ∈ WT := WT_of (sub_tables_1_1 _ (List.mem_of_getElem? (i := 37) (by decide +kernel))) (by decide +kernel)
set_option maxRecDepth 20000 in
theorem t_167 : (Jvm.Cond.fieldLink "MatchTrees$Scanner" (54 : Nat) "MatchTrees$Bytes" "bytes" "[I") ∈ WT := WT_of (sub_tables_1_1 _ (List.mem_of_getElem? (i := 38) (by decide +kernel))) (by decide +kernel)
set_option maxRecDepth 20000 in
theorem t_168 : (Jvm.Cond.fieldLink "MatchTrees$Bytes" (21 : Nat) "MatchTrees$Bytes" "length" "I") ∈ WT := WT_of (sub_tables_1_1 _ (List.mem_of_getElem? (i := 39) (by decide +kernel))) (by decide +kernel)
set_option maxRecDepth 20000 in
theorem t_169 : (Jvm.Cond.fieldLink "MatchTrees$Seen" (24 : Nat) "MatchTrees$Bytes" "length" "I") ∈ WT := WT_of (sub_tables_1_1 _ (List.mem_of_getElem? (i := 40) (by decide +kernel))) (by decide +kernel)
set_option maxRecDepth 20000 in
theorem t_170 : (Jvm.Cond.fieldLink "MatchTrees" (100 : Nat) "MatchTrees$Bytes" "length" "I") ∈ WT := WT_of (sub_tables_1_1 _ (List.mem_of_getElem? (i := 41) (by decide +kernel))) (by decide +kernel)
set_option maxRecDepth 20000 in
theorem t_171 : (Jvm.Cond.fieldLink "MatchTrees$Scanner" (59 : Nat) "MatchTrees$Bytes" "length" "I") ∈ WT := WT_of (sub_tables_1_1 _ (List.mem_of_getElem? (i := 42) (by decide +kernel))) (by decide +kernel)
set_option maxRecDepth 20000 in
theorem t_172 : (Jvm.Cond.laysFinal "MatchTrees$Bytes" "MatchTrees$Bytes" "bytes" "[I") ∈ WT := WT_of (sub_tables_1_1 _ (List.mem_of_getElem? (i := 43) (by decide +kernel))) (by decide +kernel)
set_option maxRecDepth 20000 in
theorem t_174 : (Jvm.Cond.lays "MatchTrees$Bytes" "MatchTrees$Bytes" "length" "I") ∈ WT := WT_of (sub_tables_1_1 _ (List.mem_of_getElem? (i := 45) (by decide +kernel))) (by decide +kernel)
set_option maxRecDepth 20000 in
theorem t_177 : (Jvm.Cond.arrayClass Jvm.ClassFile.FieldType.int) ∈ WT := WT_of (sub_tables_1_1 _ (List.mem_of_getElem? (i := 48) (by decide +kernel))) (by decide +kernel)
set_option maxRecDepth 20000 in
theorem t_178 : (Jvm.Cond.classLink "MatchTrees" (21 : Nat) "MatchTrees$Marks") ∈ WT := WT_of (sub_tables_1_1 _ (List.mem_of_getElem? (i := 49) (by decide +kernel))) (by decide +kernel)
set_option maxRecDepth 20000 in
theorem t_179 : (Jvm.Cond.instantiable "MatchTrees$Marks" (3 : Nat)) ∈ WT := WT_of (sub_tables_1_1 _ (List.mem_of_getElem? (i := 50) (by decide +kernel))) (by decide +kernel)
set_option maxRecDepth 20000 in
theorem t_182 : (Jvm.Cond.code ({ cls := "MatchTrees$Marks", name := "<init>", desc := "()V" } : Jvm.MethodName) prog_6_method_1_code (1 : Nat) (Option.none : Option Jvm.ClassFile.FieldType)) ∈ WT := WT_of (sub_tables_1_1 _ (List.mem_of_getElem? (i := 53) rfl)) (by decide +kernel)
set_option maxRecDepth 20000 in
theorem t_183 : (Jvm.Cond.methodLink "MatchTrees$Marks" (3 : Nat) ({ cls := "java/lang/Object", name := "<init>", desc := "()V" } : Jvm.MethodName)) ∈ WT := WT_of (sub_tables_1_1 _ (List.mem_of_getElem? (i := 54) (by decide +kernel))) (by decide +kernel)
set_option maxRecDepth 20000 in
theorem t_184 : (Jvm.Cond.fieldLink "MatchTrees$Marks" (9 : Nat) "MatchTrees$Marks" "time" "[I") ∈ WT := WT_of (sub_tables_1_1 _ (List.mem_of_getElem? (i := 55) (by decide +kernel))) (by decide +kernel)
set_option maxRecDepth 20000 in
theorem t_185 : (Jvm.Cond.fieldLink "MatchTrees$Marks" (15 : Nat) "MatchTrees$Marks" "spot" "[I") ∈ WT := WT_of (sub_tables_1_1 _ (List.mem_of_getElem? (i := 56) (by decide +kernel))) (by decide +kernel)
set_option maxRecDepth 20000 in
theorem t_186 : (Jvm.Cond.fieldLink "MatchTrees$Groups" (41 : Nat) "MatchTrees$Marks" "spot" "[I") ∈ WT := WT_of (sub_tables_1_1 _ (List.mem_of_getElem? (i := 57) (by decide +kernel))) (by decide +kernel)
set_option maxRecDepth 20000 in
theorem t_187 : (Jvm.Cond.fieldLink "MatchTrees$Marks" (18 : Nat) "MatchTrees$Marks" "now" "I") ∈ WT := WT_of (sub_tables_1_1 _ (List.mem_of_getElem? (i := 58) (by decide +kernel))) (by decide +kernel)
set_option maxRecDepth 20000 in
theorem t_188 : (Jvm.Cond.laysFinal "MatchTrees$Marks" "MatchTrees$Marks" "time" "[I") ∈ WT := WT_of (sub_tables_1_1 _ (List.mem_of_getElem? (i := 59) (by decide +kernel))) (by decide +kernel)
set_option maxRecDepth 20000 in
theorem t_190 : (Jvm.Cond.laysFinal "MatchTrees$Marks" "MatchTrees$Marks" "spot" "[I") ∈ WT := WT_of (sub_tables_1_1 _ (List.mem_of_getElem? (i := 61) (by decide +kernel))) (by decide +kernel)
set_option maxRecDepth 20000 in
theorem t_192 : (Jvm.Cond.lays "MatchTrees$Marks" "MatchTrees$Marks" "now" "I") ∈ WT := WT_of (sub_tables_1_1 _ (List.mem_of_getElem? (i := 63) (by decide +kernel))) (by decide +kernel)
set_option maxRecDepth 20000 in
theorem t_195 : (Jvm.Cond.classLink "MatchTrees" (28 : Nat) "MatchTrees$Groups") ∈ WT := WT_of (sub_tables_1_1 _ (List.mem_of_getElem? (i := 66) (by decide +kernel))) (by decide +kernel)
set_option maxRecDepth 20000 in
theorem t_196 : (Jvm.Cond.instantiable "MatchTrees$Groups" (4 : Nat)) ∈ WT := WT_of (sub_tables_1_1 _ (List.mem_of_getElem? (i := 67) (by decide +kernel))) (by decide +kernel)
set_option maxRecDepth 20000 in
theorem t_197 : (Jvm.Cond.methodLink "MatchTrees" (30 : Nat) ({ cls := "MatchTrees$Groups", name := "<init>", desc := "(ILMatchTrees$Marks;)V" } : Jvm.MethodName)) ∈ WT := WT_of (sub_tables_1_1 _ (List.mem_of_getElem? (i := 68) (by decide +kernel))) (by decide +kernel)
set_option maxRecDepth 20000 in
theorem t_198 : (Jvm.Cond.instanceMethod ({ cls := "MatchTrees$Groups", name := "<init>", desc := "(ILMatchTrees$Marks;)V" } : Jvm.MethodName)) ∈ WT := WT_of (sub_tables_1_1 _ (List.mem_of_getElem? (i := 69) (by decide +kernel))) (by decide +kernel)
set_option maxRecDepth 20000 in
theorem t_199 : (Jvm.Cond.code ({ cls := "MatchTrees$Groups", name := "<init>", desc := "(ILMatchTrees$Marks;)V" } : Jvm.MethodName) prog_4_method_1_code (3 : Nat) (Option.none : Option Jvm.ClassFile.FieldType)) ∈ WT := WT_of (sub_tables_1_1 _ (List.mem_of_getElem? (i := 70) rfl)) (by decide +kernel)
set_option maxRecDepth 20000 in
theorem t_200 : (Jvm.Cond.methodLink "MatchTrees$Groups" (3 : Nat) ({ cls := "java/lang/Object", name := "<init>", desc := "()V" } : Jvm.MethodName)) ∈ WT := WT_of (sub_tables_1_1 _ (List.mem_of_getElem? (i := 71) (by decide +kernel))) (by decide +kernel)
set_option maxRecDepth 20000 in
theorem t_201 : (Jvm.Cond.methodLink "MatchTrees$Groups" (9 : Nat) ({ cls := "java/lang/Math", name := "max", desc := "(II)I" } : Jvm.MethodName)) ∈ WT := WT_of (sub_tables_1_1 _ (List.mem_of_getElem? (i := 72) (by decide +kernel))) (by decide +kernel)
set_option maxRecDepth 20000 in
theorem t_202 : (Jvm.Cond.fieldLink "MatchTrees$Groups" (15 : Nat) "MatchTrees$Groups" "arms" "[I") ∈ WT := WT_of (sub_tables_1_1 _ (List.mem_of_getElem? (i := 73) (by decide +kernel))) (by decide +kernel)
set_option maxRecDepth 20000 in
theorem t_203 : (Jvm.Cond.fieldLink "MatchTrees$Trees" (104 : Nat) "MatchTrees$Groups" "arms" "[I") ∈ WT := WT_of (sub_tables_1_1 _ (List.mem_of_getElem? (i := 74) (by decide +kernel))) (by decide +kernel)
set_option maxRecDepth 20000 in
theorem t_204 : (Jvm.Cond.fieldLink "MatchTrees" (232 : Nat) "MatchTrees$Groups" "arms" "[I") ∈ WT := WT_of (sub_tables_1_1 _ (List.mem_of_getElem? (i := 75) (by decide +kernel))) (by decide +kernel)
set_option maxRecDepth 20000 in
theorem t_205 : (Jvm.Cond.fieldLink "MatchTrees$Groups" (21 : Nat) "MatchTrees$Groups" "size" "[I") ∈ WT := WT_of (sub_tables_1_1 _ (List.mem_of_getElem? (i := 76) (by decide +kernel))) (by decide +kernel)
set_option maxRecDepth 20000 in
theorem t_206 : (Jvm.Cond.fieldLink "MatchTrees" (238 : Nat) "MatchTrees$Groups" "size" "[I") ∈ WT := WT_of (sub_tables_1_1 _ (List.mem_of_getElem? (i := 77) (by decide +kernel))) (by decide +kernel)
set_option maxRecDepth 20000 in
theorem t_207 : (Jvm.Cond.fieldLink "MatchTrees$Trees" (163 : Nat) "MatchTrees$Groups" "size" "[I") ∈ WT := WT_of (sub_tables_1_1 _ (List.mem_of_getElem? (i := 78) (by decide +kernel))) (by decide +kernel)
set_option maxRecDepth 20000 in
theorem t_208 : (Jvm.Cond.fieldLink "MatchTrees$Groups" (24 : Nat) "MatchTrees$Groups" "marks" "LMatchTrees$Marks;") ∈ WT := WT_of (sub_tables_1_1 _ (List.mem_of_getElem? (i := 79) (by decide +kernel))) (by decide +kernel)
set_option maxRecDepth 20000 in
theorem t_209 : (Jvm.Cond.fieldLink "MatchTrees$Groups" (28 : Nat) "MatchTrees$Groups" "count" "I") ∈ WT := WT_of (sub_tables_1_1 _ (List.mem_of_getElem? (i := 80) (by decide +kernel))) (by decide +kernel)
set_option maxRecDepth 20000 in
theorem t_210 : (Jvm.Cond.fieldLink "MatchTrees$Trees" (103 : Nat) "MatchTrees$Groups" "count" "I") ∈ WT := WT_of (sub_tables_1_1 _ (List.mem_of_getElem? (i := 81) (by decide +kernel))) (by decide +kernel)
set_option maxRecDepth 20000 in
theorem t_211 : (Jvm.Cond.fieldLink "MatchTrees" (231 : Nat) "MatchTrees$Groups" "count" "I") ∈ WT := WT_of (sub_tables_1_1 _ (List.mem_of_getElem? (i := 82) (by decide +kernel))) (by decide +kernel)
set_option maxRecDepth 20000 in
theorem t_212 : (Jvm.Cond.laysFinal "MatchTrees$Groups" "MatchTrees$Groups" "arms" "[I") ∈ WT := WT_of (sub_tables_1_1 _ (List.mem_of_getElem? (i := 83) (by decide +kernel))) (by decide +kernel)
set_option maxRecDepth 20000 in
theorem t_214 : (Jvm.Cond.laysFinal "MatchTrees$Groups" "MatchTrees$Groups" "size" "[I") ∈ WT := WT_of (sub_tables_1_1 _ (List.mem_of_getElem? (i := 85) (by decide +kernel))) (by decide +kernel)
set_option maxRecDepth 20000 in
theorem t_216 : (Jvm.Cond.laysFinal "MatchTrees$Groups" "MatchTrees$Groups" "marks" "LMatchTrees$Marks;") ∈ WT := WT_of (sub_tables_1_1 _ (List.mem_of_getElem? (i := 87) (by decide +kernel))) (by decide +kernel)
set_option maxRecDepth 20000 in
theorem t_218 : (Jvm.Cond.lays "MatchTrees$Groups" "MatchTrees$Groups" "count" "I") ∈ WT := WT_of (sub_tables_1_1 _ (List.mem_of_getElem? (i := 89) (by decide +kernel))) (by decide +kernel)
set_option maxRecDepth 20000 in
theorem t_221 : (Jvm.Cond.classLink "MatchTrees" (40 : Nat) "MatchTrees$Order") ∈ WT := WT_of (sub_tables_1_1 _ (List.mem_of_getElem? (i := 92) (by decide +kernel))) (by decide +kernel)
set_option maxRecDepth 20000 in
theorem t_222 : (Jvm.Cond.instantiable "MatchTrees$Order" (4 : Nat)) ∈ WT := WT_of (sub_tables_1_1 _ (List.mem_of_getElem? (i := 93) (by decide +kernel))) (by decide +kernel)
set_option maxRecDepth 20000 in
theorem t_225 : (Jvm.Cond.code ({ cls := "MatchTrees$Order", name := "<init>", desc := "()V" } : Jvm.MethodName) prog_7_method_1_code (1 : Nat) (Option.none : Option Jvm.ClassFile.FieldType)) ∈ WT := WT_of (sub_tables_1_1 _ (List.mem_of_getElem? (i := 96) rfl)) (by decide +kernel)
set_option maxRecDepth 20000 in
theorem t_226 : (Jvm.Cond.methodLink "MatchTrees$Order" (3 : Nat) ({ cls := "java/lang/Object", name := "<init>", desc := "()V" } : Jvm.MethodName)) ∈ WT := WT_of (sub_tables_1_1 _ (List.mem_of_getElem? (i := 97) (by decide +kernel))) (by decide +kernel)
set_option maxRecDepth 20000 in
theorem t_227 : (Jvm.Cond.fieldLink "MatchTrees$Order" (9 : Nat) "MatchTrees$Order" "arm" "[I") ∈ WT := WT_of (sub_tables_1_1 _ (List.mem_of_getElem? (i := 98) (by decide +kernel))) (by decide +kernel)
set_option maxRecDepth 20000 in
theorem t_228 : (Jvm.Cond.fieldLink "MatchTrees$Trees" (95 : Nat) "MatchTrees$Order" "arm" "[I") ∈ WT := WT_of (sub_tables_1_1 _ (List.mem_of_getElem? (i := 99) (by decide +kernel))) (by decide +kernel)
set_option maxRecDepth 20000 in
theorem t_229 : (Jvm.Cond.fieldLink "MatchTrees" (417 : Nat) "MatchTrees$Order" "arm" "[I") ∈ WT := WT_of (sub_tables_1_1 _ (List.mem_of_getElem? (i := 100) (by decide +kernel))) (by decide +kernel)
set_option maxRecDepth 20000 in
theorem t_230 : (Jvm.Cond.fieldLink "MatchTrees$Order" (24 : Nat) "MatchTrees$Order" "count" "I") ∈ WT := WT_of (sub_tables_1_1 _ (List.mem_of_getElem? (i := 101) (by decide +kernel))) (by decide +kernel)
set_option maxRecDepth 20000 in
theorem t_231 : (Jvm.Cond.fieldLink "MatchTrees$Trees" (92 : Nat) "MatchTrees$Order" "count" "I") ∈ WT := WT_of (sub_tables_1_1 _ (List.mem_of_getElem? (i := 102) (by decide +kernel))) (by decide +kernel)
set_option maxRecDepth 20000 in
theorem t_232 : (Jvm.Cond.fieldLink "MatchTrees" (176 : Nat) "MatchTrees$Order" "count" "I") ∈ WT := WT_of (sub_tables_1_1 _ (List.mem_of_getElem? (i := 103) (by decide +kernel))) (by decide +kernel)
set_option maxRecDepth 20000 in
theorem t_233 : (Jvm.Cond.fieldLink "MatchTrees$Order" (28 : Nat) "MatchTrees$Order" "on" "I") ∈ WT := WT_of (sub_tables_1_1 _ (List.mem_of_getElem? (i := 104) (by decide +kernel))) (by decide +kernel)
set_option maxRecDepth 20000 in
theorem t_234 : (Jvm.Cond.fieldLink "MatchTrees" (177 : Nat) "MatchTrees$Order" "on" "I") ∈ WT := WT_of (sub_tables_1_1 _ (List.mem_of_getElem? (i := 105) (by decide +kernel))) (by decide +kernel)
set_option maxRecDepth 20000 in
theorem t_235 : (Jvm.Cond.fieldLink "MatchTrees$Trees" (170 : Nat) "MatchTrees$Order" "on" "I") ∈ WT := WT_of (sub_tables_1_1 _ (List.mem_of_getElem? (i := 106) (by decide +kernel))) (by decide +kernel)
set_option maxRecDepth 20000 in
theorem t_236 : (Jvm.Cond.fieldLink "MatchTrees$Order" (31 : Nat) "MatchTrees$Order" "rule" "I") ∈ WT := WT_of (sub_tables_1_1 _ (List.mem_of_getElem? (i := 107) (by decide +kernel))) (by decide +kernel)
set_option maxRecDepth 20000 in
theorem t_237 : (Jvm.Cond.fieldLink "MatchTrees" (180 : Nat) "MatchTrees$Order" "rule" "I") ∈ WT := WT_of (sub_tables_1_1 _ (List.mem_of_getElem? (i := 108) (by decide +kernel))) (by decide +kernel)
set_option maxRecDepth 20000 in
theorem t_238 : (Jvm.Cond.fieldLink "MatchTrees$Trees" (179 : Nat) "MatchTrees$Order" "rule" "I") ∈ WT := WT_of (sub_tables_1_1 _ (List.mem_of_getElem? (i := 109) (by decide +kernel))) (by decide +kernel)
set_option maxRecDepth 20000 in
theorem t_239 : (Jvm.Cond.laysFinal "MatchTrees$Order" "MatchTrees$Order" "arm" "[I") ∈ WT := WT_of (sub_tables_1_1 _ (List.mem_of_getElem? (i := 110) (by decide +kernel))) (by decide +kernel)
set_option maxRecDepth 20000 in
theorem t_241 : (Jvm.Cond.lays "MatchTrees$Order" "MatchTrees$Order" "count" "I") ∈ WT := WT_of (sub_tables_1_1 _ (List.mem_of_getElem? (i := 112) (by decide +kernel))) (by decide +kernel)
set_option maxRecDepth 20000 in
theorem t_243 : (Jvm.Cond.lays "MatchTrees$Order" "MatchTrees$Order" "on" "I") ∈ WT := WT_of (sub_tables_1_1 _ (List.mem_of_getElem? (i := 114) (by decide +kernel))) (by decide +kernel)
set_option maxRecDepth 20000 in
theorem t_245 : (Jvm.Cond.lays "MatchTrees$Order" "MatchTrees$Order" "rule" "I") ∈ WT := WT_of (sub_tables_1_1 _ (List.mem_of_getElem? (i := 116) (by decide +kernel))) (by decide +kernel)
set_option maxRecDepth 20000 in
theorem t_248 : (Jvm.Cond.classLink "MatchTrees" (50 : Nat) "MatchTrees$Acts") ∈ WT := WT_of (sub_tables_1_1 _ (List.mem_of_getElem? (i := 119) (by decide +kernel))) (by decide +kernel)
set_option maxRecDepth 20000 in
theorem t_249 : (Jvm.Cond.instantiable "MatchTrees$Acts" (8 : Nat)) ∈ WT := WT_of (sub_tables_1_1 _ (List.mem_of_getElem? (i := 120) (by decide +kernel))) (by decide +kernel)
set_option maxRecDepth 20000 in
theorem t_250 : (Jvm.Cond.methodLink "MatchTrees" (52 : Nat) ({ cls := "MatchTrees$Acts", name := "<init>", desc := "()V" } : Jvm.MethodName)) ∈ WT := WT_of (sub_tables_1_1 _ (List.mem_of_getElem? (i := 121) (by decide +kernel))) (by decide +kernel)
set_option maxRecDepth 20000 in
theorem t_251 : (Jvm.Cond.instanceMethod ({ cls := "MatchTrees$Acts", name := "<init>", desc := "()V" } : Jvm.MethodName)) ∈ WT := WT_of (sub_tables_1_1 _ (List.mem_of_getElem? (i := 122) (by decide +kernel))) (by decide +kernel)
set_option maxRecDepth 20000 in
theorem t_252 : (Jvm.Cond.code ({ cls := "MatchTrees$Acts", name := "<init>", desc := "()V" } : Jvm.MethodName) prog_2_method_1_code (2 : Nat) (Option.none : Option Jvm.ClassFile.FieldType)) ∈ WT := WT_of (sub_tables_1_1 _ (List.mem_of_getElem? (i := 123) rfl)) (by decide +kernel)
set_option maxRecDepth 20000 in
theorem t_253 : (Jvm.Cond.methodLink "MatchTrees$Acts" (3 : Nat) ({ cls := "java/lang/Object", name := "<init>", desc := "()V" } : Jvm.MethodName)) ∈ WT := WT_of (sub_tables_1_1 _ (List.mem_of_getElem? (i := 124) (by decide +kernel))) (by decide +kernel)
set_option maxRecDepth 20000 in
theorem t_254 : (Jvm.Cond.classLink "MatchTrees$Acts" (21 : Nat) "MatchTrees$Order") ∈ WT := WT_of (sub_tables_1_1 _ (List.mem_of_getElem? (i := 125) (by decide +kernel))) (by decide +kernel)
set_option maxRecDepth 20000 in
theorem t_257 : (Jvm.Cond.fieldLink "MatchTrees$Acts" (9 : Nat) "MatchTrees$Acts" "row" "[I") ∈ WT := WT_of (sub_tables_1_1 _ (List.mem_of_getElem? (i := 128) (by decide +kernel))) (by decide +kernel)
set_option maxRecDepth 20000 in
theorem t_258 : (Jvm.Cond.fieldLink "MatchTrees$Acts" (15 : Nat) "MatchTrees$Acts" "arm" "[I") ∈ WT := WT_of (sub_tables_1_1 _ (List.mem_of_getElem? (i := 129) (by decide +kernel))) (by decide +kernel)
set_option maxRecDepth 20000 in
theorem t_259 : (Jvm.Cond.fieldLink "MatchTrees$Acts" (18 : Nat) "MatchTrees$Acts" "asked" "[I") ∈ WT := WT_of (sub_tables_1_1 _ (List.mem_of_getElem? (i := 130) (by decide +kernel))) (by decide +kernel)
set_option maxRecDepth 20000 in
theorem t_260 : (Jvm.Cond.fieldLink "MatchTrees$Acts" (23 : Nat) "MatchTrees$Acts" "orderAhead" "[LMatchTrees$Order;") ∈ WT := WT_of (sub_tables_1_1 _ (List.mem_of_getElem? (i := 131) (by decide +kernel))) (by decide +kernel)
set_option maxRecDepth 20000 in
theorem t_261 : (Jvm.Cond.fieldLink "MatchTrees$Acts" (27 : Nat) "MatchTrees$Acts" "keptAhead" "[I") ∈ WT := WT_of (sub_tables_1_1 _ (List.mem_of_getElem? (i := 132) (by decide +kernel))) (by decide +kernel)
set_option maxRecDepth 20000 in
theorem t_262 : (Jvm.Cond.fieldLink "MatchTrees$Acts" (31 : Nat) "MatchTrees$Acts" "keptRows" "I") ∈ WT := WT_of (sub_tables_1_1 _ (List.mem_of_getElem? (i := 133) (by decide +kernel))) (by decide +kernel)
set_option maxRecDepth 20000 in
theorem t_263 : (Jvm.Cond.fieldLink "MatchTrees$Acts" (51 : Nat) "MatchTrees$Acts" "next" "I") ∈ WT := WT_of (sub_tables_1_1 _ (List.mem_of_getElem? (i := 134) (by decide +kernel))) (by decide +kernel)
set_option maxRecDepth 20000 in
theorem t_264 : (Jvm.Cond.fieldLink "MatchTrees$Acts" (35 : Nat) "MatchTrees$Acts" "undoable" "I") ∈ WT := WT_of (sub_tables_1_1 _ (List.mem_of_getElem? (i := 135) (by decide +kernel))) (by decide +kernel)
set_option maxRecDepth 20000 in
theorem t_265 : (Jvm.Cond.fieldLink "MatchTrees" (185 : Nat) "MatchTrees$Acts" "undoable" "I") ∈ WT := WT_of (sub_tables_1_1 _ (List.mem_of_getElem? (i := 136) (by decide +kernel))) (by decide +kernel)
set_option maxRecDepth 20000 in
theorem t_266 : (Jvm.Cond.laysFinal "MatchTrees$Acts" "MatchTrees$Acts" "row" "[I") ∈ WT := WT_of (sub_tables_1_1 _ (List.mem_of_getElem? (i := 137) (by decide +kernel))) (by decide +kernel)
set_option maxRecDepth 20000 in
theorem t_268 : (Jvm.Cond.laysFinal "MatchTrees$Acts" "MatchTrees$Acts" "arm" "[I") ∈ WT := WT_of (sub_tables_1_1 _ (List.mem_of_getElem? (i := 139) (by decide +kernel))) (by decide +kernel)
set_option maxRecDepth 20000 in
theorem t_270 : (Jvm.Cond.laysFinal "MatchTrees$Acts" "MatchTrees$Acts" "asked" "[I") ∈ WT := WT_of (sub_tables_1_1 _ (List.mem_of_getElem? (i := 141) (by decide +kernel))) (by decide +kernel)
set_option maxRecDepth 20000 in
theorem t_272 : (Jvm.Cond.laysFinal "MatchTrees$Acts" "MatchTrees$Acts" "orderAhead" "[LMatchTrees$Order;") ∈ WT := WT_of (sub_tables_1_1 _ (List.mem_of_getElem? (i := 143) (by decide +kernel))) (by decide +kernel)
set_option maxRecDepth 20000 in
theorem t_274 : (Jvm.Cond.laysFinal "MatchTrees$Acts" "MatchTrees$Acts" "keptAhead" "[I") ∈ WT := WT_of (sub_tables_1_1 _ (List.mem_of_getElem? (i := 145) (by decide +kernel))) (by decide +kernel)
set_option maxRecDepth 20000 in
theorem t_276 : (Jvm.Cond.lays "MatchTrees$Acts" "MatchTrees$Acts" "keptRows" "I") ∈ WT := WT_of (sub_tables_1_1 _ (List.mem_of_getElem? (i := 147) (by decide +kernel))) (by decide +kernel)
set_option maxRecDepth 20000 in
theorem t_278 : (Jvm.Cond.lays "MatchTrees$Acts" "MatchTrees$Acts" "next" "I") ∈ WT := WT_of (sub_tables_1_1 _ (List.mem_of_getElem? (i := 149) (by decide +kernel))) (by decide +kernel)
set_option maxRecDepth 20000 in
theorem t_280 : (Jvm.Cond.lays "MatchTrees$Acts" "MatchTrees$Acts" "undoable" "I") ∈ WT := WT_of (sub_tables_1_1 _ (List.mem_of_getElem? (i := 151) (by decide +kernel))) (by decide +kernel)
set_option maxRecDepth 20000 in
theorem t_283 : (Jvm.Cond.classLink "MatchTrees" (57 : Nat) "MatchTrees$Seen") ∈ WT := WT_of (sub_tables_1_1 _ (List.mem_of_getElem? (i := 154) (by decide +kernel))) (by decide +kernel)
set_option maxRecDepth 20000 in
theorem t_284 : (Jvm.Cond.instantiable "MatchTrees$Seen" (6 : Nat)) ∈ WT := WT_of (sub_tables_1_1 _ (List.mem_of_getElem? (i := 155) (by decide +kernel))) (by decide +kernel)
set_option maxRecDepth 20000 in
theorem t_287 : (Jvm.Cond.code ({ cls := "MatchTrees$Seen", name := "<init>", desc := "()V" } : Jvm.MethodName) prog_10_method_1_code (1 : Nat) (Option.none : Option Jvm.ClassFile.FieldType)) ∈ WT := WT_of (sub_tables_1_1 _ (List.mem_of_getElem? (i := 158) rfl)) (by decide +kernel)
set_option maxRecDepth 20000 in
theorem t_288 : (Jvm.Cond.methodLink "MatchTrees$Seen" (3 : Nat) ({ cls := "java/lang/Object", name := "<init>", desc := "()V" } : Jvm.MethodName)) ∈ WT := WT_of (sub_tables_1_1 _ (List.mem_of_getElem? (i := 159) (by decide +kernel))) (by decide +kernel)
set_option maxRecDepth 20000 in
theorem t_289 : (Jvm.Cond.fieldLink "MatchTrees$Seen" (9 : Nat) "MatchTrees$Seen" "row" "[I") ∈ WT := WT_of (sub_tables_1_1 _ (List.mem_of_getElem? (i := 160) (by decide +kernel))) (by decide +kernel)
set_option maxRecDepth 20000 in
theorem t_290 : (Jvm.Cond.fieldLink "MatchTrees$Seen" (15 : Nat) "MatchTrees$Seen" "arm" "[I") ∈ WT := WT_of (sub_tables_1_1 _ (List.mem_of_getElem? (i := 161) (by decide +kernel))) (by decide +kernel)
set_option maxRecDepth 20000 in
theorem t_291 : (Jvm.Cond.fieldLink "MatchTrees$Seen" (49 : Nat) "MatchTrees$Seen" "count" "I") ∈ WT := WT_of (sub_tables_1_1 _ (List.mem_of_getElem? (i := 162) (by decide +kernel))) (by decide +kernel)
set_option maxRecDepth 20000 in
theorem t_292 : (Jvm.Cond.fieldLink "MatchTrees" (153 : Nat) "MatchTrees$Seen" "count" "I") ∈ WT := WT_of (sub_tables_1_1 _ (List.mem_of_getElem? (i := 163) (by decide +kernel))) (by decide +kernel)
set_option maxRecDepth 20000 in
theorem t_293 : (Jvm.Cond.fieldLink "MatchTrees$Seen" (18 : Nat) "MatchTrees$Seen" "set" "[I") ∈ WT := WT_of (sub_tables_1_1 _ (List.mem_of_getElem? (i := 164) (by decide +kernel))) (by decide +kernel)
set_option maxRecDepth 20000 in
theorem t_294 : (Jvm.Cond.fieldLink "MatchTrees" (375 : Nat) "MatchTrees$Seen" "set" "[I") ∈ WT := WT_of (sub_tables_1_1 _ (List.mem_of_getElem? (i := 165) (by decide +kernel))) (by decide +kernel)
set_option maxRecDepth 20000 in
theorem t_295 : (Jvm.Cond.fieldLink "MatchTrees$Seen" (55 : Nat) "MatchTrees$Seen" "sets" "I") ∈ WT := WT_of (sub_tables_1_1 _ (List.mem_of_getElem? (i := 166) (by decide +kernel))) (by decide +kernel)
set_option maxRecDepth 20000 in
theorem t_296 : (Jvm.Cond.fieldLink "MatchTrees" (372 : Nat) "MatchTrees$Seen" "sets" "I") ∈ WT := WT_of (sub_tables_1_1 _ (List.mem_of_getElem? (i := 167) (by decide +kernel))) (by decide +kernel)
set_option maxRecDepth 20000 in
theorem t_297 : (Jvm.Cond.fieldLink "MatchTrees$Seen" (21 : Nat) "MatchTrees$Seen" "tally" "[I") ∈ WT := WT_of (sub_tables_1_1 _ (List.mem_of_getElem? (i := 168) (by decide +kernel))) (by decide +kernel)
set_option maxRecDepth 20000 in
theorem t_298 : (Jvm.Cond.laysFinal "MatchTrees$Seen" "MatchTrees$Seen" "row" "[I") ∈ WT := WT_of (sub_tables_1_1 _ (List.mem_of_getElem? (i := 169) (by decide +kernel))) (by decide +kernel)
set_option maxRecDepth 20000 in
theorem t_300 : (Jvm.Cond.laysFinal "MatchTrees$Seen" "MatchTrees$Seen" "arm" "[I") ∈ WT := WT_of (sub_tables_1_1 _ (List.mem_of_getElem? (i := 171) (by decide +kernel))) (by decide +kernel)
set_option maxRecDepth 20000 in
theorem t_302 : (Jvm.Cond.lays "MatchTrees$Seen" "MatchTrees$Seen" "count" "I") ∈ WT := WT_of (sub_tables_1_1 _ (List.mem_of_getElem? (i := 173) (by decide +kernel))) (by decide +kernel)
set_option maxRecDepth 20000 in
theorem t_304 : (Jvm.Cond.laysFinal "MatchTrees$Seen" "MatchTrees$Seen" "set" "[I") ∈ WT := WT_of (sub_tables_1_1 _ (List.mem_of_getElem? (i := 175) (by decide +kernel))) (by decide +kernel)
set_option maxRecDepth 20000 in
theorem t_306 : (Jvm.Cond.lays "MatchTrees$Seen" "MatchTrees$Seen" "sets" "I") ∈ WT := WT_of (sub_tables_1_1 _ (List.mem_of_getElem? (i := 177) (by decide +kernel))) (by decide +kernel)
set_option maxRecDepth 20000 in
theorem t_308 : (Jvm.Cond.laysFinal "MatchTrees$Seen" "MatchTrees$Seen" "tally" "[I") ∈ WT := WT_of (sub_tables_1_1 _ (List.mem_of_getElem? (i := 179) (by decide +kernel))) (by decide +kernel)
set_option maxRecDepth 20000 in
theorem t_311 : (Jvm.Cond.classLink "MatchTrees" (68 : Nat) "MatchTrees$Table") ∈ WT := WT_of (sub_tables_1_1 _ (List.mem_of_getElem? (i := 182) (by decide +kernel))) (by decide +kernel)
set_option maxRecDepth 20000 in
theorem t_312 : (Jvm.Cond.instantiable "MatchTrees$Table" (11 : Nat)) ∈ WT := WT_of (sub_tables_1_1 _ (List.mem_of_getElem? (i := 183) (by decide +kernel))) (by decide +kernel)
set_option maxRecDepth 20000 in
theorem t_315 : (Jvm.Cond.code ({ cls := "MatchTrees$Table", name := "<init>", desc := "()V" } : Jvm.MethodName) prog_11_method_1_code (1 : Nat) (Option.none : Option Jvm.ClassFile.FieldType)) ∈ WT := WT_of (sub_tables_1_1 _ (List.mem_of_getElem? (i := 186) rfl)) (by decide +kernel)
set_option maxRecDepth 20000 in
theorem t_316 : (Jvm.Cond.methodLink "MatchTrees$Table" (3 : Nat) ({ cls := "java/lang/Object", name := "<init>", desc := "()V" } : Jvm.MethodName)) ∈ WT := WT_of (sub_tables_1_1 _ (List.mem_of_getElem? (i := 187) (by decide +kernel))) (by decide +kernel)
set_option maxRecDepth 20000 in
theorem t_317 : (Jvm.Cond.classLink "MatchTrees$Table" (9 : Nat) "MatchTrees$Kinds") ∈ WT := WT_of (sub_tables_1_1 _ (List.mem_of_getElem? (i := 188) (by decide +kernel))) (by decide +kernel)
set_option maxRecDepth 20000 in
theorem t_318 : (Jvm.Cond.instantiable "MatchTrees$Kinds" (11 : Nat)) ∈ WT := WT_of (sub_tables_1_1 _ (List.mem_of_getElem? (i := 189) (by decide +kernel))) (by decide +kernel)
set_option maxRecDepth 20000 in
theorem t_321 : (Jvm.Cond.code ({ cls := "MatchTrees$Kinds", name := "<init>", desc := "()V" } : Jvm.MethodName) prog_5_method_1_code (1 : Nat) (Option.none : Option Jvm.ClassFile.FieldType)) ∈ WT := WT_of (sub_tables_1_1 _ (List.mem_of_getElem? (i := 192) rfl)) (by decide +kernel)
set_option maxRecDepth 20000 in
theorem t_322 : (Jvm.Cond.methodLink "MatchTrees$Kinds" (3 : Nat) ({ cls := "java/lang/Object", name := "<init>", desc := "()V" } : Jvm.MethodName)) ∈ WT := WT_of (sub_tables_1_1 _ (List.mem_of_getElem? (i := 193) (by decide +kernel))) (by decide +kernel)
set_option maxRecDepth 20000 in
theorem t_323 : (Jvm.Cond.fieldLink "MatchTrees$Kinds" (9 : Nat) "MatchTrees$Kinds" "kindName" "[I") ∈ WT := WT_of (sub_tables_1_1 _ (List.mem_of_getElem? (i := 194) (by decide +kernel))) (by decide +kernel)
set_option maxRecDepth 20000 in
theorem t_324 : (Jvm.Cond.fieldLink "MatchTrees" (191 : Nat) "MatchTrees$Kinds" "kindName" "[I") ∈ WT := WT_of (sub_tables_1_1 _ (List.mem_of_getElem? (i := 195) (by decide +kernel))) (by decide +kernel)
set_option maxRecDepth 20000 in
theorem t_325 : (Jvm.Cond.fieldLink "MatchTrees$Kinds" (15 : Nat) "MatchTrees$Kinds" "firstCon" "[I") ∈ WT := WT_of (sub_tables_1_1 _ (List.mem_of_getElem? (i := 196) (by decide +kernel))) (by decide +kernel)
set_option maxRecDepth 20000 in
theorem t_326 : (Jvm.Cond.fieldLink "MatchTrees$Kinds" (18 : Nat) "MatchTrees$Kinds" "conCount" "[I") ∈ WT := WT_of (sub_tables_1_1 _ (List.mem_of_getElem? (i := 197) (by decide +kernel))) (by decide +kernel)
set_option maxRecDepth 20000 in
theorem t_327 : (Jvm.Cond.fieldLink "MatchTrees$Kinds" (21 : Nat) "MatchTrees$Kinds" "size" "[I") ∈ WT := WT_of (sub_tables_1_1 _ (List.mem_of_getElem? (i := 198) (by decide +kernel))) (by decide +kernel)
set_option maxRecDepth 20000 in
theorem t_328 : (Jvm.Cond.fieldLink "MatchTrees$Kinds" (24 : Nat) "MatchTrees$Kinds" "conName" "[I") ∈ WT := WT_of (sub_tables_1_1 _ (List.mem_of_getElem? (i := 199) (by decide +kernel))) (by decide +kernel)
set_option maxRecDepth 20000 in
theorem t_329 : (Jvm.Cond.fieldLink "MatchTrees" (201 : Nat) "MatchTrees$Kinds" "conName" "[I") ∈ WT := WT_of (sub_tables_1_1 _ (List.mem_of_getElem? (i := 200) (by decide +kernel))) (by decide +kernel)
set_option maxRecDepth 20000 in
theorem t_330 : (Jvm.Cond.fieldLink "MatchTrees$Kinds" (27 : Nat) "MatchTrees$Kinds" "base" "[I") ∈ WT := WT_of (sub_tables_1_1 _ (List.mem_of_getElem? (i := 201) (by decide +kernel))) (by decide +kernel)
set_option maxRecDepth 20000 in
theorem t_331 : (Jvm.Cond.fieldLink "MatchTrees$Reader" (190 : Nat) "MatchTrees$Kinds" "base" "[I") ∈ WT := WT_of (sub_tables_1_1 _ (List.mem_of_getElem? (i := 202) (by decide +kernel))) (by decide +kernel)
set_option maxRecDepth 20000 in
theorem t_332 : (Jvm.Cond.fieldLink "MatchTrees" (291 : Nat) "MatchTrees$Kinds" "base" "[I") ∈ WT := WT_of (sub_tables_1_1 _ (List.mem_of_getElem? (i := 203) (by decide +kernel))) (by decide +kernel)
set_option maxRecDepth 20000 in
theorem t_333 : (Jvm.Cond.fieldLink "MatchTrees$Kinds" (30 : Nat) "MatchTrees$Kinds" "fields" "[I") ∈ WT := WT_of (sub_tables_1_1 _ (List.mem_of_getElem? (i := 204) (by decide +kernel))) (by decide +kernel)
set_option maxRecDepth 20000 in
theorem t_334 : (Jvm.Cond.fieldLink "MatchTrees$Reader" (187 : Nat) "MatchTrees$Kinds" "fields" "[I") ∈ WT := WT_of (sub_tables_1_1 _ (List.mem_of_getElem? (i := 205) (by decide +kernel))) (by decide +kernel)
set_option maxRecDepth 20000 in
theorem t_335 : (Jvm.Cond.fieldLink "MatchTrees" (288 : Nat) "MatchTrees$Kinds" "fields" "[I") ∈ WT := WT_of (sub_tables_1_1 _ (List.mem_of_getElem? (i := 206) (by decide +kernel))) (by decide +kernel)
set_option maxRecDepth 20000 in
theorem t_336 : (Jvm.Cond.fieldLink "MatchTrees$Kinds" (33 : Nat) "MatchTrees$Kinds" "fieldA" "[I") ∈ WT := WT_of (sub_tables_1_1 _ (List.mem_of_getElem? (i := 207) (by decide +kernel))) (by decide +kernel)
set_option maxRecDepth 20000 in
theorem t_337 : (Jvm.Cond.fieldLink "MatchTrees$Reader" (193 : Nat) "MatchTrees$Kinds" "fieldA" "[I") ∈ WT := WT_of (sub_tables_1_1 _ (List.mem_of_getElem? (i := 208) (by decide +kernel))) (by decide +kernel)
set_option maxRecDepth 20000 in
theorem t_338 : (Jvm.Cond.fieldLink "MatchTrees" (294 : Nat) "MatchTrees$Kinds" "fieldA" "[I") ∈ WT := WT_of (sub_tables_1_1 _ (List.mem_of_getElem? (i := 209) (by decide +kernel))) (by decide +kernel)
set_option maxRecDepth 20000 in
theorem t_339 : (Jvm.Cond.fieldLink "MatchTrees$Kinds" (36 : Nat) "MatchTrees$Kinds" "fieldB" "[I") ∈ WT := WT_of (sub_tables_1_1 _ (List.mem_of_getElem? (i := 210) (by decide +kernel))) (by decide +kernel)
set_option maxRecDepth 20000 in
theorem t_340 : (Jvm.Cond.fieldLink "MatchTrees$Reader" (196 : Nat) "MatchTrees$Kinds" "fieldB" "[I") ∈ WT := WT_of (sub_tables_1_1 _ (List.mem_of_getElem? (i := 211) (by decide +kernel))) (by decide +kernel)
set_option maxRecDepth 20000 in
theorem t_341 : (Jvm.Cond.fieldLink "MatchTrees" (297 : Nat) "MatchTrees$Kinds" "fieldB" "[I") ∈ WT := WT_of (sub_tables_1_1 _ (List.mem_of_getElem? (i := 212) (by decide +kernel))) (by decide +kernel)
set_option maxRecDepth 20000 in
theorem t_342 : (Jvm.Cond.fieldLink "MatchTrees$Kinds" (39 : Nat) "MatchTrees$Kinds" "kinds" "I") ∈ WT := WT_of (sub_tables_1_1 _ (List.mem_of_getElem? (i := 213) (by decide +kernel))) (by decide +kernel)
set_option maxRecDepth 20000 in
theorem t_343 : (Jvm.Cond.fieldLink "MatchTrees" (166 : Nat) "MatchTrees$Kinds" "kinds" "I") ∈ WT := WT_of (sub_tables_1_1 _ (List.mem_of_getElem? (i := 214) (by decide +kernel))) (by decide +kernel)
set_option maxRecDepth 20000 in
theorem t_344 : (Jvm.Cond.fieldLink "MatchTrees$Reader" (112 : Nat) "MatchTrees$Kinds" "kinds" "I") ∈ WT := WT_of (sub_tables_1_1 _ (List.mem_of_getElem? (i := 215) (by decide +kernel))) (by decide +kernel)
set_option maxRecDepth 20000 in
theorem t_345 : (Jvm.Cond.fieldLink "MatchTrees$Kinds" (43 : Nat) "MatchTrees$Kinds" "cons" "I") ∈ WT := WT_of (sub_tables_1_1 _ (List.mem_of_getElem? (i := 216) (by decide +kernel))) (by decide +kernel)
set_option maxRecDepth 20000 in
theorem t_346 : (Jvm.Cond.fieldLink "MatchTrees" (170 : Nat) "MatchTrees$Kinds" "cons" "I") ∈ WT := WT_of (sub_tables_1_1 _ (List.mem_of_getElem? (i := 217) (by decide +kernel))) (by decide +kernel)
set_option maxRecDepth 20000 in
theorem t_347 : (Jvm.Cond.laysFinal "MatchTrees$Kinds" "MatchTrees$Kinds" "kindName" "[I") ∈ WT := WT_of (sub_tables_1_1 _ (List.mem_of_getElem? (i := 218) (by decide +kernel))) (by decide +kernel)
set_option maxRecDepth 20000 in
theorem t_349 : (Jvm.Cond.laysFinal "MatchTrees$Kinds" "MatchTrees$Kinds" "firstCon" "[I") ∈ WT := WT_of (sub_tables_1_1 _ (List.mem_of_getElem? (i := 220) (by decide +kernel))) (by decide +kernel)
set_option maxRecDepth 20000 in
theorem t_351 : (Jvm.Cond.laysFinal "MatchTrees$Kinds" "MatchTrees$Kinds" "conCount" "[I") ∈ WT := WT_of (sub_tables_1_1 _ (List.mem_of_getElem? (i := 222) (by decide +kernel))) (by decide +kernel)
set_option maxRecDepth 20000 in
theorem t_353 : (Jvm.Cond.laysFinal "MatchTrees$Kinds" "MatchTrees$Kinds" "size" "[I") ∈ WT := WT_of (sub_tables_1_1 _ (List.mem_of_getElem? (i := 224) (by decide +kernel))) (by decide +kernel)
set_option maxRecDepth 20000 in
theorem t_355 : (Jvm.Cond.laysFinal "MatchTrees$Kinds" "MatchTrees$Kinds" "conName" "[I") ∈ WT := WT_of (sub_tables_1_1 _ (List.mem_of_getElem? (i := 226) (by decide +kernel))) (by decide +kernel)
set_option maxRecDepth 20000 in
theorem t_357 : (Jvm.Cond.laysFinal "MatchTrees$Kinds" "MatchTrees$Kinds" "base" "[I") ∈ WT := WT_of (sub_tables_1_1 _ (List.mem_of_getElem? (i := 228) (by decide +kernel))) (by decide +kernel)
set_option maxRecDepth 20000 in
theorem t_359 : (Jvm.Cond.laysFinal "MatchTrees$Kinds" "MatchTrees$Kinds" "fields" "[I") ∈ WT := WT_of (sub_tables_1_1 _ (List.mem_of_getElem? (i := 230) (by decide +kernel))) (by decide +kernel)
set_option maxRecDepth 20000 in
theorem t_361 : (Jvm.Cond.laysFinal "MatchTrees$Kinds" "MatchTrees$Kinds" "fieldA" "[I") ∈ WT := WT_of (sub_tables_1_1 _ (List.mem_of_getElem? (i := 232) (by decide +kernel))) (by decide +kernel)
set_option maxRecDepth 20000 in
theorem t_363 : (Jvm.Cond.laysFinal "MatchTrees$Kinds" "MatchTrees$Kinds" "fieldB" "[I") ∈ WT := WT_of (sub_tables_1_1 _ (List.mem_of_getElem? (i := 234) (by decide +kernel))) (by decide +kernel)
set_option maxRecDepth 20000 in
theorem t_365 : (Jvm.Cond.lays "MatchTrees$Kinds" "MatchTrees$Kinds" "kinds" "I") ∈ WT := WT_of (sub_tables_1_1 _ (List.mem_of_getElem? (i := 236) (by decide +kernel))) (by decide +kernel)
set_option maxRecDepth 20000 in
theorem t_367 : (Jvm.Cond.lays "MatchTrees$Kinds" "MatchTrees$Kinds" "cons" "I") ∈ WT := WT_of (sub_tables_1_1 _ (List.mem_of_getElem? (i := 238) (by decide +kernel))) (by decide +kernel)
set_option maxRecDepth 20000 in
theorem t_370 : (Jvm.Cond.classLink "MatchTrees$Table" (31 : Nat) "[[I") ∈ WT := WT_of (sub_tables_1_2 _ (List.mem_of_getElem? (i := 1) (by decide +kernel))) (by decide +kernel)
set_option maxRecDepth 20000 in
theorem t_372 : (Jvm.Cond.fieldLink "MatchTrees$Table" (12 : Nat) "MatchTrees$Table" "kinds" "LMatchTrees$Kinds;") ∈ WT := WT_of (sub_tables_1_2 _ (List.mem_of_getElem? (i := 3) (by decide +kernel))) (by decide +kernel)
set_option maxRecDepth 20000 in
theorem t_373 : (Jvm.Cond.fieldLink "MatchTrees" (162 : Nat) "MatchTrees$Table" "kinds" "LMatchTrees$Kinds;") ∈ WT := WT_of (sub_tables_1_2 _ (List.mem_of_getElem? (i := 4) (by decide +kernel))) (by decide +kernel)
set_option maxRecDepth 20000 in
theorem t_374 : (Jvm.Cond.fieldLink "MatchTrees$Reader" (108 : Nat) "MatchTrees$Table" "kinds" "LMatchTrees$Kinds;") ∈ WT := WT_of (sub_tables_1_2 _ (List.mem_of_getElem? (i := 5) (by decide +kernel))) (by decide +kernel)
set_option maxRecDepth 20000 in
theorem t_375 : (Jvm.Cond.fieldLink "MatchTrees$Table" (18 : Nat) "MatchTrees$Table" "kindOf" "[I") ∈ WT := WT_of (sub_tables_1_2 _ (List.mem_of_getElem? (i := 6) (by decide +kernel))) (by decide +kernel)
set_option maxRecDepth 20000 in
theorem t_376 : (Jvm.Cond.fieldLink "MatchTrees$Reader" (159 : Nat) "MatchTrees$Table" "kindOf" "[I") ∈ WT := WT_of (sub_tables_1_2 _ (List.mem_of_getElem? (i := 7) (by decide +kernel))) (by decide +kernel)
set_option maxRecDepth 20000 in
theorem t_377 : (Jvm.Cond.fieldLink "MatchTrees" (266 : Nat) "MatchTrees$Table" "kindOf" "[I") ∈ WT := WT_of (sub_tables_1_2 _ (List.mem_of_getElem? (i := 8) (by decide +kernel))) (by decide +kernel)
set_option maxRecDepth 20000 in
theorem t_378 : (Jvm.Cond.fieldLink "MatchTrees$Table" (22 : Nat) "MatchTrees$Table" "size" "[I") ∈ WT := WT_of (sub_tables_1_2 _ (List.mem_of_getElem? (i := 9) (by decide +kernel))) (by decide +kernel)
set_option maxRecDepth 20000 in
theorem t_379 : (Jvm.Cond.fieldLink "MatchTrees$Trees" (53 : Nat) "MatchTrees$Table" "size" "[I") ∈ WT := WT_of (sub_tables_1_2 _ (List.mem_of_getElem? (i := 10) (by decide +kernel))) (by decide +kernel)
set_option maxRecDepth 20000 in
theorem t_380 : (Jvm.Cond.fieldLink "MatchTrees" (245 : Nat) "MatchTrees$Table" "size" "[I") ∈ WT := WT_of (sub_tables_1_2 _ (List.mem_of_getElem? (i := 11) (by decide +kernel))) (by decide +kernel)
set_option maxRecDepth 20000 in
theorem t_381 : (Jvm.Cond.fieldLink "MatchTrees$Reader" (218 : Nat) "MatchTrees$Table" "size" "[I") ∈ WT := WT_of (sub_tables_1_2 _ (List.mem_of_getElem? (i := 12) (by decide +kernel))) (by decide +kernel)
set_option maxRecDepth 20000 in
theorem t_382 : (Jvm.Cond.fieldLink "MatchTrees$Table" (25 : Nat) "MatchTrees$Table" "full" "[I") ∈ WT := WT_of (sub_tables_1_2 _ (List.mem_of_getElem? (i := 13) (by decide +kernel))) (by decide +kernel)
set_option maxRecDepth 20000 in
theorem t_383 : (Jvm.Cond.fieldLink "MatchTrees$Trees" (74 : Nat) "MatchTrees$Table" "full" "[I") ∈ WT := WT_of (sub_tables_1_2 _ (List.mem_of_getElem? (i := 14) (by decide +kernel))) (by decide +kernel)
set_option maxRecDepth 20000 in
theorem t_384 : (Jvm.Cond.fieldLink "MatchTrees$Table" (28 : Nat) "MatchTrees$Table" "guard" "[I") ∈ WT := WT_of (sub_tables_1_2 _ (List.mem_of_getElem? (i := 15) (by decide +kernel))) (by decide +kernel)
set_option maxRecDepth 20000 in
theorem t_385 : (Jvm.Cond.fieldLink "MatchTrees$Table" (33 : Nat) "MatchTrees$Table" "fitting" "[[I") ∈ WT := WT_of (sub_tables_1_2 _ (List.mem_of_getElem? (i := 16) (by decide +kernel))) (by decide +kernel)
set_option maxRecDepth 20000 in
theorem t_386 : (Jvm.Cond.fieldLink "MatchTrees$Table" (39 : Nat) "MatchTrees$Table" "columns" "I") ∈ WT := WT_of (sub_tables_1_2 _ (List.mem_of_getElem? (i := 17) (by decide +kernel))) (by decide +kernel)
set_option maxRecDepth 20000 in
theorem t_387 : (Jvm.Cond.fieldLink "MatchTrees$Trees" (44 : Nat) "MatchTrees$Table" "columns" "I") ∈ WT := WT_of (sub_tables_1_2 _ (List.mem_of_getElem? (i := 18) (by decide +kernel))) (by decide +kernel)
set_option maxRecDepth 20000 in
theorem t_388 : (Jvm.Cond.fieldLink "MatchTrees$Reader" (79 : Nat) "MatchTrees$Table" "columns" "I") ∈ WT := WT_of (sub_tables_1_2 _ (List.mem_of_getElem? (i := 19) (by decide +kernel))) (by decide +kernel)
set_option maxRecDepth 20000 in
theorem t_389 : (Jvm.Cond.fieldLink "MatchTrees" (130 : Nat) "MatchTrees$Table" "columns" "I") ∈ WT := WT_of (sub_tables_1_2 _ (List.mem_of_getElem? (i := 20) (by decide +kernel))) (by decide +kernel)
set_option maxRecDepth 20000 in
theorem t_390 : (Jvm.Cond.fieldLink "MatchTrees$Table" (43 : Nat) "MatchTrees$Table" "rows" "I") ∈ WT := WT_of (sub_tables_1_2 _ (List.mem_of_getElem? (i := 21) (by decide +kernel))) (by decide +kernel)
set_option maxRecDepth 20000 in
theorem t_391 : (Jvm.Cond.fieldLink "MatchTrees" (173 : Nat) "MatchTrees$Table" "rows" "I") ∈ WT := WT_of (sub_tables_1_2 _ (List.mem_of_getElem? (i := 22) (by decide +kernel))) (by decide +kernel)
set_option maxRecDepth 20000 in
theorem t_392 : (Jvm.Cond.fieldLink "MatchTrees$Table" (46 : Nat) "MatchTrees$Table" "arms" "I") ∈ WT := WT_of (sub_tables_1_2 _ (List.mem_of_getElem? (i := 23) (by decide +kernel))) (by decide +kernel)
set_option maxRecDepth 20000 in
theorem t_393 : (Jvm.Cond.fieldLink "MatchTrees" (123 : Nat) "MatchTrees$Table" "arms" "I") ∈ WT := WT_of (sub_tables_1_2 _ (List.mem_of_getElem? (i := 24) (by decide +kernel))) (by decide +kernel)
set_option maxRecDepth 20000 in
theorem t_394 : (Jvm.Cond.fieldLink "MatchTrees$Reader" (156 : Nat) "MatchTrees$Table" "arms" "I") ∈ WT := WT_of (sub_tables_1_2 _ (List.mem_of_getElem? (i := 25) (by decide +kernel))) (by decide +kernel)
set_option maxRecDepth 20000 in
theorem t_395 : (Jvm.Cond.fieldLink "MatchTrees$Table" (49 : Nat) "MatchTrees$Table" "rule" "I") ∈ WT := WT_of (sub_tables_1_2 _ (List.mem_of_getElem? (i := 26) (by decide +kernel))) (by decide +kernel)
set_option maxRecDepth 20000 in
theorem t_396 : (Jvm.Cond.fieldLink "MatchTrees" (145 : Nat) "MatchTrees$Table" "rule" "I") ∈ WT := WT_of (sub_tables_1_2 _ (List.mem_of_getElem? (i := 27) (by decide +kernel))) (by decide +kernel)
set_option maxRecDepth 20000 in
theorem t_397 : (Jvm.Cond.fieldLink "MatchTrees$Reader" (102 : Nat) "MatchTrees$Table" "rule" "I") ∈ WT := WT_of (sub_tables_1_2 _ (List.mem_of_getElem? (i := 28) (by decide +kernel))) (by decide +kernel)
set_option maxRecDepth 20000 in
theorem t_398 : (Jvm.Cond.fieldLink "MatchTrees$Table" (52 : Nat) "MatchTrees$Table" "budget" "I") ∈ WT := WT_of (sub_tables_1_2 _ (List.mem_of_getElem? (i := 29) (by decide +kernel))) (by decide +kernel)
set_option maxRecDepth 20000 in
theorem t_399 : (Jvm.Cond.fieldLink "MatchTrees$Reader" (105 : Nat) "MatchTrees$Table" "budget" "I") ∈ WT := WT_of (sub_tables_1_2 _ (List.mem_of_getElem? (i := 30) (by decide +kernel))) (by decide +kernel)
set_option maxRecDepth 20000 in
theorem t_400 : (Jvm.Cond.fieldLink "MatchTrees$Trees" (203 : Nat) "MatchTrees$Table" "budget" "I") ∈ WT := WT_of (sub_tables_1_2 _ (List.mem_of_getElem? (i := 31) (by decide +kernel))) (by decide +kernel)
set_option maxRecDepth 20000 in
theorem t_401 : (Jvm.Cond.laysFinal "MatchTrees$Table" "MatchTrees$Table" "kinds" "LMatchTrees$Kinds;") ∈ WT := WT_of (sub_tables_1_2 _ (List.mem_of_getElem? (i := 32) (by decide +kernel))) (by decide +kernel)
set_option maxRecDepth 20000 in
theorem t_403 : (Jvm.Cond.laysFinal "MatchTrees$Table" "MatchTrees$Table" "kindOf" "[I") ∈ WT := WT_of (sub_tables_1_2 _ (List.mem_of_getElem? (i := 34) (by decide +kernel))) (by decide +kernel)
set_option maxRecDepth 20000 in
theorem t_405 : (Jvm.Cond.laysFinal "MatchTrees$Table" "MatchTrees$Table" "size" "[I") ∈ WT := WT_of (sub_tables_1_2 _ (List.mem_of_getElem? (i := 36) (by decide +kernel))) (by decide +kernel)
set_option maxRecDepth 20000 in
theorem t_407 : (Jvm.Cond.laysFinal "MatchTrees$Table" "MatchTrees$Table" "full" "[I") ∈ WT := WT_of (sub_tables_1_2 _ (List.mem_of_getElem? (i := 38) (by decide +kernel))) (by decide +kernel)
set_option maxRecDepth 20000 in
theorem t_409 : (Jvm.Cond.laysFinal "MatchTrees$Table" "MatchTrees$Table" "guard" "[I") ∈ WT := WT_of (sub_tables_1_2 _ (List.mem_of_getElem? (i := 40) (by decide +kernel))) (by decide +kernel)
set_option maxRecDepth 20000 in
theorem t_411 : (Jvm.Cond.laysFinal "MatchTrees$Table" "MatchTrees$Table" "fitting" "[[I") ∈ WT := WT_of (sub_tables_1_2 _ (List.mem_of_getElem? (i := 42) (by decide +kernel))) (by decide +kernel)
set_option maxRecDepth 20000 in
theorem t_413 : (Jvm.Cond.lays "MatchTrees$Table" "MatchTrees$Table" "columns" "I") ∈ WT := WT_of (sub_tables_1_2 _ (List.mem_of_getElem? (i := 44) (by decide +kernel))) (by decide +kernel)
set_option maxRecDepth 20000 in
theorem t_415 : (Jvm.Cond.lays "MatchTrees$Table" "MatchTrees$Table" "rows" "I") ∈ WT := WT_of (sub_tables_1_2 _ (List.mem_of_getElem? (i := 46) (by decide +kernel))) (by decide +kernel)
set_option maxRecDepth 20000 in
theorem t_417 : (Jvm.Cond.lays "MatchTrees$Table" "MatchTrees$Table" "arms" "I") ∈ WT := WT_of (sub_tables_1_2 _ (List.mem_of_getElem? (i := 48) (by decide +kernel))) (by decide +kernel)
set_option maxRecDepth 20000 in
theorem t_419 : (Jvm.Cond.lays "MatchTrees$Table" "MatchTrees$Table" "rule" "I") ∈ WT := WT_of (sub_tables_1_2 _ (List.mem_of_getElem? (i := 50) (by decide +kernel))) (by decide +kernel)
set_option maxRecDepth 20000 in
theorem t_421 : (Jvm.Cond.lays "MatchTrees$Table" "MatchTrees$Table" "budget" "I") ∈ WT := WT_of (sub_tables_1_2 _ (List.mem_of_getElem? (i := 52) (by decide +kernel))) (by decide +kernel)
set_option maxRecDepth 20000 in
theorem t_424 : (Jvm.Cond.classLink "MatchTrees" (78 : Nat) "MatchTrees$Reader") ∈ WT := WT_of (sub_tables_1_2 _ (List.mem_of_getElem? (i := 55) (by decide +kernel))) (by decide +kernel)
set_option maxRecDepth 20000 in
theorem t_425 : (Jvm.Cond.instantiable "MatchTrees$Reader" (5 : Nat)) ∈ WT := WT_of (sub_tables_1_2 _ (List.mem_of_getElem? (i := 56) (by decide +kernel))) (by decide +kernel)
set_option maxRecDepth 20000 in
theorem t_426 : (Jvm.Cond.methodLink "MatchTrees" (80 : Nat) ({ cls := "MatchTrees$Reader", name := "<init>", desc := "(LMatchTrees$Table;)V" } : Jvm.MethodName)) ∈ WT := WT_of (sub_tables_1_2 _ (List.mem_of_getElem? (i := 57) (by decide +kernel))) (by decide +kernel)
set_option maxRecDepth 20000 in
theorem t_427 : (Jvm.Cond.instanceMethod ({ cls := "MatchTrees$Reader", name := "<init>", desc := "(LMatchTrees$Table;)V" } : Jvm.MethodName)) ∈ WT := WT_of (sub_tables_1_2 _ (List.mem_of_getElem? (i := 58) (by decide +kernel))) (by decide +kernel)
set_option maxRecDepth 20000 in
theorem t_428 : (Jvm.Cond.code ({ cls := "MatchTrees$Reader", name := "<init>", desc := "(LMatchTrees$Table;)V" } : Jvm.MethodName) prog_8_method_1_code (2 : Nat) (Option.none : Option Jvm.ClassFile.FieldType)) ∈ WT := WT_of (sub_tables_1_2 _ (List.mem_of_getElem? (i := 59) rfl)) (by decide +kernel)
set_option maxRecDepth 20000 in
theorem t_429 : (Jvm.Cond.methodLink "MatchTrees$Reader" (3 : Nat) ({ cls := "java/lang/Object", name := "<init>", desc := "()V" } : Jvm.MethodName)) ∈ WT := WT_of (sub_tables_1_2 _ (List.mem_of_getElem? (i := 60) (by decide +kernel))) (by decide +kernel)
set_option maxRecDepth 20000 in
theorem t_430 : (Jvm.Cond.classLink "MatchTrees$Reader" (9 : Nat) "MatchTrees$Scanner") ∈ WT := WT_of (sub_tables_1_2 _ (List.mem_of_getElem? (i := 61) (by decide +kernel))) (by decide +kernel)
set_option maxRecDepth 20000 in
theorem t_431 : (Jvm.Cond.instantiable "MatchTrees$Scanner" (9 : Nat)) ∈ WT := WT_of (sub_tables_1_2 _ (List.mem_of_getElem? (i := 62) (by decide +kernel))) (by decide +kernel)
set_option maxRecDepth 20000 in
theorem t_434 : (Jvm.Cond.code ({ cls := "MatchTrees$Scanner", name := "<init>", desc := "()V" } : Jvm.MethodName) prog_9_method_1_code (1 : Nat) (Option.none : Option Jvm.ClassFile.FieldType)) ∈ WT := WT_of (sub_tables_1_2 _ (List.mem_of_getElem? (i := 65) rfl)) (by decide +kernel)
set_option maxRecDepth 20000 in
theorem t_435 : (Jvm.Cond.methodLink "MatchTrees$Scanner" (3 : Nat) ({ cls := "java/lang/Object", name := "<init>", desc := "()V" } : Jvm.MethodName)) ∈ WT := WT_of (sub_tables_1_2 _ (List.mem_of_getElem? (i := 66) (by decide +kernel))) (by decide +kernel)
set_option maxRecDepth 20000 in
theorem t_437 : (Jvm.Cond.methodLink "MatchTrees$Scanner" (11 : Nat) ({ cls := "MatchTrees$Scanner", name := "spell", desc := "(Ljava/lang/String;)I" } : Jvm.MethodName)) ∈ WT := WT_of (sub_tables_1_2 _ (List.mem_of_getElem? (i := 68) (by decide +kernel))) (by decide +kernel)
set_option maxRecDepth 20000 in
theorem t_438 : (Jvm.Cond.static ({ cls := "MatchTrees$Scanner", name := "spell", desc := "(Ljava/lang/String;)I" } : Jvm.MethodName)) ∈ WT := WT_of (sub_tables_1_2 _ (List.mem_of_getElem? (i := 69) (by decide +kernel))) (by decide +kernel)
set_option maxRecDepth 20000 in
theorem t_439 : (Jvm.Cond.code ({ cls := "MatchTrees$Scanner", name := "spell", desc := "(Ljava/lang/String;)I" } : Jvm.MethodName) prog_9_method_2_code (3 : Nat) (Option.some Jvm.ClassFile.FieldType.int)) ∈ WT := WT_of (sub_tables_1_2 _ (List.mem_of_getElem? (i := 70) rfl)) (by decide +kernel)
set_option maxRecDepth 20000 in
theorem t_440 : (Jvm.Cond.methodLink "MatchTrees$Scanner" (44 : Nat) ({ cls := "java/lang/String", name := "length", desc := "()I" } : Jvm.MethodName)) ∈ WT := WT_of (sub_tables_1_2 _ (List.mem_of_getElem? (i := 71) (by decide +kernel))) (by decide +kernel)
set_option maxRecDepth 20000 in
theorem t_441 : (Jvm.Cond.instanceMethod ({ cls := "java/lang/String", name := "length", desc := "()I" } : Jvm.MethodName)) ∈ WT := WT_of (sub_tables_1_2 _ (List.mem_of_getElem? (i := 72) (by decide +kernel))) (by decide +kernel)
set_option maxRecDepth 20000 in
theorem t_442 : (Jvm.Cond.selects "java/lang/String" ({ cls := "java/lang/String", name := "length", desc := "()I" } : Jvm.MethodName) ({ cls := "java/lang/String", name := "length", desc := "()I" } : Jvm.MethodName)) ∈ WT := WT_of (sub_tables_1_2 _ (List.mem_of_getElem? (i := 73) (by decide +kernel))) (by decide +kernel)
set_option maxRecDepth 20000 in
theorem t_443 : (Jvm.Cond.code ({ cls := "java/lang/String", name := "length", desc := "()I" } : Jvm.MethodName) prog_17_method_54_code (1 : Nat) (Option.some Jvm.ClassFile.FieldType.int)) ∈ WT := WT_of (sub_tables_1_2 _ (List.mem_of_getElem? (i := 74) rfl)) (by decide +kernel)
set_option maxRecDepth 20000 in
theorem t_444 : (Jvm.Cond.methodLink "java/lang/String" (335 : Nat) ({ cls := "java/lang/String", name := "coder", desc := "()B" } : Jvm.MethodName)) ∈ WT := WT_of (sub_tables_1_2 _ (List.mem_of_getElem? (i := 75) (by decide +kernel))) (by decide +kernel)
set_option maxRecDepth 20000 in
theorem t_445 : (Jvm.Cond.instanceMethod ({ cls := "java/lang/String", name := "coder", desc := "()B" } : Jvm.MethodName)) ∈ WT := WT_of (sub_tables_1_2 _ (List.mem_of_getElem? (i := 76) (by decide +kernel))) (by decide +kernel)
set_option maxRecDepth 20000 in
theorem t_446 : (Jvm.Cond.selects "java/lang/String" ({ cls := "java/lang/String", name := "coder", desc := "()B" } : Jvm.MethodName) ({ cls := "java/lang/String", name := "coder", desc := "()B" } : Jvm.MethodName)) ∈ WT := WT_of (sub_tables_1_2 _ (List.mem_of_getElem? (i := 77) (by decide +kernel))) (by decide +kernel)
set_option maxRecDepth 20000 in
theorem t_447 : (Jvm.Cond.code ({ cls := "java/lang/String", name := "coder", desc := "()B" } : Jvm.MethodName) prog_17_method_152_code (1 : Nat) (Option.some Jvm.ClassFile.FieldType.byte)) ∈ WT := WT_of (sub_tables_1_2 _ (List.mem_of_getElem? (i := 78) rfl)) (by decide +kernel)
set_option maxRecDepth 20000 in
theorem t_448 : (Jvm.Cond.fieldLink "java/lang/String" (38 : Nat) "java/lang/String" "COMPACT_STRINGS" "Z") ∈ WT := WT_of (sub_tables_1_2 _ (List.mem_of_getElem? (i := 79) (by decide +kernel))) (by decide +kernel)
set_option maxRecDepth 20000 in
theorem t_450 : (Jvm.Cond.methodLink "MatchTrees$Scanner" (50 : Nat) ({ cls := "java/lang/String", name := "charAt", desc := "(I)C" } : Jvm.MethodName)) ∈ WT := WT_of (sub_tables_1_2 _ (List.mem_of_getElem? (i := 81) (by decide +kernel))) (by decide +kernel)
set_option maxRecDepth 20000 in
theorem t_451 : (Jvm.Cond.instanceMethod ({ cls := "java/lang/String", name := "charAt", desc := "(I)C" } : Jvm.MethodName)) ∈ WT := WT_of (sub_tables_1_2 _ (List.mem_of_getElem? (i := 82) (by decide +kernel))) (by decide +kernel)
set_option maxRecDepth 20000 in
theorem t_452 : (Jvm.Cond.selects "java/lang/String" ({ cls := "java/lang/String", name := "charAt", desc := "(I)C" } : Jvm.MethodName) ({ cls := "java/lang/String", name := "charAt", desc := "(I)C" } : Jvm.MethodName)) ∈ WT := WT_of (sub_tables_1_2 _ (List.mem_of_getElem? (i := 83) (by decide +kernel))) (by decide +kernel)
set_option maxRecDepth 20000 in
theorem t_453 : (Jvm.Cond.code ({ cls := "java/lang/String", name := "charAt", desc := "(I)C" } : Jvm.MethodName) prog_17_method_56_code (2 : Nat) (Option.some Jvm.ClassFile.FieldType.char)) ∈ WT := WT_of (sub_tables_1_2 _ (List.mem_of_getElem? (i := 84) rfl)) (by decide +kernel)
set_option maxRecDepth 20000 in
theorem t_454 : (Jvm.Cond.methodLink "java/lang/String" (492 : Nat) ({ cls := "java/lang/String", name := "isLatin1", desc := "()Z" } : Jvm.MethodName)) ∈ WT := WT_of (sub_tables_1_2 _ (List.mem_of_getElem? (i := 85) (by decide +kernel))) (by decide +kernel)
set_option maxRecDepth 20000 in
theorem t_455 : (Jvm.Cond.instanceMethod ({ cls := "java/lang/String", name := "isLatin1", desc := "()Z" } : Jvm.MethodName)) ∈ WT := WT_of (sub_tables_1_2 _ (List.mem_of_getElem? (i := 86) (by decide +kernel))) (by decide +kernel)
set_option maxRecDepth 20000 in
theorem t_456 : (Jvm.Cond.selects "java/lang/String" ({ cls := "java/lang/String", name := "isLatin1", desc := "()Z" } : Jvm.MethodName) ({ cls := "java/lang/String", name := "isLatin1", desc := "()Z" } : Jvm.MethodName)) ∈ WT := WT_of (sub_tables_1_2 _ (List.mem_of_getElem? (i := 87) (by decide +kernel))) (by decide +kernel)
set_option maxRecDepth 20000 in
theorem t_457 : (Jvm.Cond.code ({ cls := "java/lang/String", name := "isLatin1", desc := "()Z" } : Jvm.MethodName) prog_17_method_154_code (1 : Nat) (Option.some Jvm.ClassFile.FieldType.boolean)) ∈ WT := WT_of (sub_tables_1_2 _ (List.mem_of_getElem? (i := 88) rfl)) (by decide +kernel)
set_option maxRecDepth 20000 in
theorem t_458 : (Jvm.Cond.methodLink "java/lang/String" (495 : Nat) ({ cls := "java/lang/StringLatin1", name := "charAt", desc := "([BI)C" } : Jvm.MethodName)) ∈ WT := WT_of (sub_tables_1_2 _ (List.mem_of_getElem? (i := 89) (by decide +kernel))) (by decide +kernel)
set_option maxRecDepth 20000 in
theorem t_459 : (Jvm.Cond.static ({ cls := "java/lang/StringLatin1", name := "charAt", desc := "([BI)C" } : Jvm.MethodName)) ∈ WT := WT_of (sub_tables_1_2 _ (List.mem_of_getElem? (i := 90) (by decide +kernel))) (by decide +kernel)
set_option maxRecDepth 20000 in
theorem t_460 : (Jvm.Cond.code ({ cls := "java/lang/StringLatin1", name := "charAt", desc := "([BI)C" } : Jvm.MethodName) prog_18_method_2_code (2 : Nat) (Option.some Jvm.ClassFile.FieldType.char)) ∈ WT := WT_of (sub_tables_1_2 _ (List.mem_of_getElem? (i := 91) rfl)) (by decide +kernel)
set_option maxRecDepth 20000 in
theorem t_461 : (Jvm.Cond.methodLink "java/lang/StringLatin1" (9 : Nat) ({ cls := "java/lang/String", name := "checkIndex", desc := "(II)V" } : Jvm.MethodName)) ∈ WT := WT_of (sub_tables_1_2 _ (List.mem_of_getElem? (i := 92) (by decide +kernel))) (by decide +kernel)
set_option maxRecDepth 20000 in
theorem t_462 : (Jvm.Cond.static ({ cls := "java/lang/String", name := "checkIndex", desc := "(II)V" } : Jvm.MethodName)) ∈ WT := WT_of (sub_tables_1_2 _ (List.mem_of_getElem? (i := 93) (by decide +kernel))) (by decide +kernel)
set_option maxRecDepth 20000 in
theorem t_463 : (Jvm.Cond.code ({ cls := "java/lang/String", name := "checkIndex", desc := "(II)V" } : Jvm.MethodName) prog_17_method_155_code (2 : Nat) (Option.none : Option Jvm.ClassFile.FieldType)) ∈ WT := WT_of (sub_tables_1_2 _ (List.mem_of_getElem? (i := 94) rfl)) (by decide +kernel)
set_option maxRecDepth 20000 in
theorem t_464 : (Jvm.Cond.fieldLink "java/lang/String" (1053 : Nat) "jdk/internal/util/Preconditions" "SIOOBE_FORMATTER" "Ljava/util/function/BiFunction;") ∈ WT := WT_of (sub_tables_1_2 _ (List.mem_of_getElem? (i := 95) (by decide +kernel))) (by decide +kernel)
set_option maxRecDepth 20000 in
theorem t_466 : (Jvm.Cond.methodLink "java/lang/String" (1059 : Nat) ({ cls := "jdk/internal/util/Preconditions", name := "checkIndex", desc := "(IILjava/util/function/BiFunction;)I" } : Jvm.MethodName)) ∈ WT := WT_of (sub_tables_1_2 _ (List.mem_of_getElem? (i := 97) (by decide +kernel))) (by decide +kernel)
set_option maxRecDepth 20000 in
theorem t_467 : (Jvm.Cond.static ({ cls := "jdk/internal/util/Preconditions", name := "checkIndex", desc := "(IILjava/util/function/BiFunction;)I" } : Jvm.MethodName)) ∈ WT := WT_of (sub_tables_1_2 _ (List.mem_of_getElem? (i := 98) (by decide +kernel))) (by decide +kernel)
set_option maxRecDepth 20000 in
theorem t_468 : (Jvm.Cond.code ({ cls := "jdk/internal/util/Preconditions", name := "checkIndex", desc := "(IILjava/util/function/BiFunction;)I" } : Jvm.MethodName) prog_20_method_11_code (3 : Nat) (Option.some Jvm.ClassFile.FieldType.int)) ∈ WT := WT_of (sub_tables_1_2 _ (List.mem_of_getElem? (i := 99) rfl)) (by decide +kernel)
set_option maxRecDepth 20000 in
theorem t_498 : (Jvm.Cond.fieldLink "MatchTrees$Scanner" (37 : Nat) "MatchTrees$Scanner" "ownWords" "[I") ∈ WT := WT_of (sub_tables_1_2 _ (List.mem_of_getElem? (i := 129) (by decide +kernel))) (by decide +kernel)
set_option maxRecDepth 20000 in
theorem t_499 : (Jvm.Cond.fieldLink "MatchTrees$Scanner" (41 : Nat) "MatchTrees$Scanner" "text" "[I") ∈ WT := WT_of (sub_tables_1_2 _ (List.mem_of_getElem? (i := 130) (by decide +kernel))) (by decide +kernel)
set_option maxRecDepth 20000 in
theorem t_500 : (Jvm.Cond.fieldLink "MatchTrees$Scanner" (71 : Nat) "MatchTrees$Scanner" "length" "I") ∈ WT := WT_of (sub_tables_1_2 _ (List.mem_of_getElem? (i := 131) (by decide +kernel))) (by decide +kernel)
set_option maxRecDepth 20000 in
theorem t_501 : (Jvm.Cond.fieldLink "MatchTrees$Scanner" (72 : Nat) "MatchTrees$Scanner" "next" "I") ∈ WT := WT_of (sub_tables_1_2 _ (List.mem_of_getElem? (i := 132) (by decide +kernel))) (by decide +kernel)
set_option maxRecDepth 20000 in
theorem t_502 : (Jvm.Cond.fieldLink "MatchTrees$Reader" (40 : Nat) "MatchTrees$Scanner" "type" "I") ∈ WT := WT_of (sub_tables_1_2 _ (List.mem_of_getElem? (i := 133) (by decide +kernel))) (by decide +kernel)
set_option maxRecDepth 20000 in
theorem t_503 : (Jvm.Cond.fieldLink "MatchTrees$Scanner" (75 : Nat) "MatchTrees$Scanner" "type" "I") ∈ WT := WT_of (sub_tables_1_2 _ (List.mem_of_getElem? (i := 134) (by decide +kernel))) (by decide +kernel)
set_option maxRecDepth 20000 in
theorem t_504 : (Jvm.Cond.fieldLink "MatchTrees$Reader" (72 : Nat) "MatchTrees$Scanner" "at" "I") ∈ WT := WT_of (sub_tables_1_2 _ (List.mem_of_getElem? (i := 135) (by decide +kernel))) (by decide +kernel)
set_option maxRecDepth 20000 in
theorem t_505 : (Jvm.Cond.fieldLink "MatchTrees$Scanner" (81 : Nat) "MatchTrees$Scanner" "at" "I") ∈ WT := WT_of (sub_tables_1_2 _ (List.mem_of_getElem? (i := 136) (by decide +kernel))) (by decide +kernel)
set_option maxRecDepth 20000 in
theorem t_506 : (Jvm.Cond.fieldLink "MatchTrees$Scanner" (84 : Nat) "MatchTrees$Scanner" "stop" "I") ∈ WT := WT_of (sub_tables_1_2 _ (List.mem_of_getElem? (i := 137) (by decide +kernel))) (by decide +kernel)
set_option maxRecDepth 20000 in
theorem t_507 : (Jvm.Cond.fieldLink "MatchTrees$Reader" (86 : Nat) "MatchTrees$Scanner" "stop" "I") ∈ WT := WT_of (sub_tables_1_2 _ (List.mem_of_getElem? (i := 138) (by decide +kernel))) (by decide +kernel)
set_option maxRecDepth 20000 in
theorem t_508 : (Jvm.Cond.fieldLink "MatchTrees$Scanner" (90 : Nat) "MatchTrees$Scanner" "value" "I") ∈ WT := WT_of (sub_tables_1_2 _ (List.mem_of_getElem? (i := 139) (by decide +kernel))) (by decide +kernel)
set_option maxRecDepth 20000 in
theorem t_509 : (Jvm.Cond.fieldLink "MatchTrees$Reader" (95 : Nat) "MatchTrees$Scanner" "value" "I") ∈ WT := WT_of (sub_tables_1_2 _ (List.mem_of_getElem? (i := 140) (by decide +kernel))) (by decide +kernel)
set_option maxRecDepth 20000 in
theorem t_510 : (Jvm.Cond.fieldLink "MatchTrees$Reader" (43 : Nat) "MatchTrees$Scanner" "own" "I") ∈ WT := WT_of (sub_tables_1_2 _ (List.mem_of_getElem? (i := 141) (by decide +kernel))) (by decide +kernel)
set_option maxRecDepth 20000 in
theorem t_511 : (Jvm.Cond.fieldLink "MatchTrees$Scanner" (87 : Nat) "MatchTrees$Scanner" "own" "I") ∈ WT := WT_of (sub_tables_1_2 _ (List.mem_of_getElem? (i := 142) (by decide +kernel))) (by decide +kernel)
set_option maxRecDepth 20000 in
theorem t_512 : (Jvm.Cond.laysFinal "MatchTrees$Scanner" "MatchTrees$Scanner" "ownWords" "[I") ∈ WT := WT_of (sub_tables_1_2 _ (List.mem_of_getElem? (i := 143) (by decide +kernel))) (by decide +kernel)
set_option maxRecDepth 20000 in
theorem t_514 : (Jvm.Cond.lays "MatchTrees$Scanner" "MatchTrees$Scanner" "text" "[I") ∈ WT := WT_of (sub_tables_1_2 _ (List.mem_of_getElem? (i := 145) (by decide +kernel))) (by decide +kernel)
set_option maxRecDepth 20000 in
theorem t_516 : (Jvm.Cond.lays "MatchTrees$Scanner" "MatchTrees$Scanner" "length" "I") ∈ WT := WT_of (sub_tables_1_2 _ (List.mem_of_getElem? (i := 147) (by decide +kernel))) (by decide +kernel)
set_option maxRecDepth 20000 in
theorem t_518 : (Jvm.Cond.lays "MatchTrees$Scanner" "MatchTrees$Scanner" "next" "I") ∈ WT := WT_of (sub_tables_1_2 _ (List.mem_of_getElem? (i := 149) (by decide +kernel))) (by decide +kernel)
set_option maxRecDepth 20000 in
theorem t_520 : (Jvm.Cond.lays "MatchTrees$Scanner" "MatchTrees$Scanner" "type" "I") ∈ WT := WT_of (sub_tables_1_2 _ (List.mem_of_getElem? (i := 151) (by decide +kernel))) (by decide +kernel)
set_option maxRecDepth 20000 in
theorem t_522 : (Jvm.Cond.lays "MatchTrees$Scanner" "MatchTrees$Scanner" "at" "I") ∈ WT := WT_of (sub_tables_1_2 _ (List.mem_of_getElem? (i := 153) (by decide +kernel))) (by decide +kernel)
set_option maxRecDepth 20000 in
theorem t_524 : (Jvm.Cond.lays "MatchTrees$Scanner" "MatchTrees$Scanner" "stop" "I") ∈ WT := WT_of (sub_tables_1_2 _ (List.mem_of_getElem? (i := 155) (by decide +kernel))) (by decide +kernel)
set_option maxRecDepth 20000 in
theorem t_526 : (Jvm.Cond.lays "MatchTrees$Scanner" "MatchTrees$Scanner" "value" "I") ∈ WT := WT_of (sub_tables_1_2 _ (List.mem_of_getElem? (i := 157) (by decide +kernel))) (by decide +kernel)
set_option maxRecDepth 20000 in
theorem t_528 : (Jvm.Cond.lays "MatchTrees$Scanner" "MatchTrees$Scanner" "own" "I") ∈ WT := WT_of (sub_tables_1_2 _ (List.mem_of_getElem? (i := 159) (by decide +kernel))) (by decide +kernel)
set_option maxRecDepth 20000 in
theorem t_532 : (Jvm.Cond.classLink "MatchTrees$Reader" (18 : Nat) "[[I") ∈ WT := WT_of (sub_tables_1_2 _ (List.mem_of_getElem? (i := 163) (by decide +kernel))) (by decide +kernel)
set_option maxRecDepth 20000 in
theorem t_533 : (Jvm.Cond.fieldLink "MatchTrees$Reader" (12 : Nat) "MatchTrees$Reader" "scan" "LMatchTrees$Scanner;") ∈ WT := WT_of (sub_tables_1_2 _ (List.mem_of_getElem? (i := 164) (by decide +kernel))) (by decide +kernel)
set_option maxRecDepth 20000 in
theorem t_534 : (Jvm.Cond.fieldLink "MatchTrees$Reader" (20 : Nat) "MatchTrees$Reader" "fit" "[[I") ∈ WT := WT_of (sub_tables_1_2 _ (List.mem_of_getElem? (i := 165) (by decide +kernel))) (by decide +kernel)
set_option maxRecDepth 20000 in
theorem t_535 : (Jvm.Cond.fieldLink "MatchTrees$Reader" (27 : Nat) "MatchTrees$Reader" "table" "LMatchTrees$Table;") ∈ WT := WT_of (sub_tables_1_2 _ (List.mem_of_getElem? (i := 166) (by decide +kernel))) (by decide +kernel)
set_option maxRecDepth 20000 in
theorem t_536 : (Jvm.Cond.fieldLink "MatchTrees$Reader" (82 : Nat) "MatchTrees$Reader" "fault" "I") ∈ WT := WT_of (sub_tables_1_2 _ (List.mem_of_getElem? (i := 167) (by decide +kernel))) (by decide +kernel)
set_option maxRecDepth 20000 in
theorem t_537 : (Jvm.Cond.fieldLink "MatchTrees" (156 : Nat) "MatchTrees$Reader" "fault" "I") ∈ WT := WT_of (sub_tables_1_2 _ (List.mem_of_getElem? (i := 168) (by decide +kernel))) (by decide +kernel)
set_option maxRecDepth 20000 in
theorem t_538 : (Jvm.Cond.fieldLink "MatchTrees$Reader" (23 : Nat) "MatchTrees$Reader" "place" "I") ∈ WT := WT_of (sub_tables_1_2 _ (List.mem_of_getElem? (i := 169) (by decide +kernel))) (by decide +kernel)
set_option maxRecDepth 20000 in
theorem t_539 : (Jvm.Cond.fieldLink "MatchTrees" (159 : Nat) "MatchTrees$Reader" "place" "I") ∈ WT := WT_of (sub_tables_1_2 _ (List.mem_of_getElem? (i := 170) (by decide +kernel))) (by decide +kernel)
set_option maxRecDepth 20000 in
theorem t_540 : (Jvm.Cond.laysFinal "MatchTrees$Reader" "MatchTrees$Reader" "scan" "LMatchTrees$Scanner;") ∈ WT := WT_of (sub_tables_1_2 _ (List.mem_of_getElem? (i := 171) (by decide +kernel))) (by decide +kernel)
set_option maxRecDepth 20000 in
theorem t_542 : (Jvm.Cond.laysFinal "MatchTrees$Reader" "MatchTrees$Reader" "fit" "[[I") ∈ WT := WT_of (sub_tables_1_2 _ (List.mem_of_getElem? (i := 173) (by decide +kernel))) (by decide +kernel)
set_option maxRecDepth 20000 in
theorem t_544 : (Jvm.Cond.lays "MatchTrees$Reader" "MatchTrees$Reader" "table" "LMatchTrees$Table;") ∈ WT := WT_of (sub_tables_1_2 _ (List.mem_of_getElem? (i := 175) (by decide +kernel))) (by decide +kernel)
set_option maxRecDepth 20000 in
theorem t_546 : (Jvm.Cond.lays "MatchTrees$Reader" "MatchTrees$Reader" "fault" "I") ∈ WT := WT_of (sub_tables_1_2 _ (List.mem_of_getElem? (i := 177) (by decide +kernel))) (by decide +kernel)
set_option maxRecDepth 20000 in
theorem t_548 : (Jvm.Cond.lays "MatchTrees$Reader" "MatchTrees$Reader" "place" "I") ∈ WT := WT_of (sub_tables_1_2 _ (List.mem_of_getElem? (i := 179) (by decide +kernel))) (by decide +kernel)
set_option maxRecDepth 20000 in
theorem t_551 : (Jvm.Cond.classLink "MatchTrees" (87 : Nat) "MatchTrees$Trees") ∈ WT := WT_of (sub_tables_1_2 _ (List.mem_of_getElem? (i := 182) (by decide +kernel))) (by decide +kernel)
set_option maxRecDepth 20000 in
theorem t_552 : (Jvm.Cond.instantiable "MatchTrees$Trees" (15 : Nat)) ∈ WT := WT_of (sub_tables_1_2 _ (List.mem_of_getElem? (i := 183) (by decide +kernel))) (by decide +kernel)
set_option maxRecDepth 20000 in
theorem t_553 : (Jvm.Cond.methodLink "MatchTrees" (89 : Nat) ({ cls := "MatchTrees$Trees", name := "<init>", desc := "(LMatchTrees$Table;LMatchTrees$Order;LMatchTrees$Marks;)V" } : Jvm.MethodName)) ∈ WT := WT_of (sub_tables_1_2 _ (List.mem_of_getElem? (i := 184) (by decide +kernel))) (by decide +kernel)
set_option maxRecDepth 20000 in
theorem t_554 : (Jvm.Cond.instanceMethod ({ cls := "MatchTrees$Trees", name := "<init>", desc := "(LMatchTrees$Table;LMatchTrees$Order;LMatchTrees$Marks;)V" } : Jvm.MethodName)) ∈ WT := WT_of (sub_tables_1_2 _ (List.mem_of_getElem? (i := 185) (by decide +kernel))) (by decide +kernel)
set_option maxRecDepth 20000 in
theorem t_555 : (Jvm.Cond.code ({ cls := "MatchTrees$Trees", name := "<init>", desc := "(LMatchTrees$Table;LMatchTrees$Order;LMatchTrees$Marks;)V" } : Jvm.MethodName) prog_12_method_1_code (5 : Nat) (Option.none : Option Jvm.ClassFile.FieldType)) ∈ WT := WT_of (sub_tables_1_2 _ (List.mem_of_getElem? (i := 186) rfl)) (by decide +kernel)
set_option maxRecDepth 20000 in
theorem t_556 : (Jvm.Cond.methodLink "MatchTrees$Trees" (3 : Nat) ({ cls := "java/lang/Object", name := "<init>", desc := "()V" } : Jvm.MethodName)) ∈ WT := WT_of (sub_tables_1_2 _ (List.mem_of_getElem? (i := 187) (by decide +kernel))) (by decide +kernel)
set_option maxRecDepth 20000 in
theorem t_557 : (Jvm.Cond.classLink "MatchTrees$Trees" (9 : Nat) "MatchTrees$Groups") ∈ WT := WT_of (sub_tables_1_2 _ (List.mem_of_getElem? (i := 188) (by decide +kernel))) (by decide +kernel)
set_option maxRecDepth 20000 in
theorem t_559 : (Jvm.Cond.constant "MatchTrees$Trees" (20 : Nat) (65536 : Int32)) ∈ WT := WT_of (sub_tables_1_2 _ (List.mem_of_getElem? (i := 190) (by decide +kernel))) (by decide +kernel)
set_option maxRecDepth 20000 in
theorem t_560 : (Jvm.Cond.methodLink "MatchTrees$Trees" (41 : Nat) ({ cls := "MatchTrees$Groups", name := "<init>", desc := "(ILMatchTrees$Marks;)V" } : Jvm.MethodName)) ∈ WT := WT_of (sub_tables_1_2 _ (List.mem_of_getElem? (i := 191) (by decide +kernel))) (by decide +kernel)
set_option maxRecDepth 20000 in
theorem t_561 : (Jvm.Cond.fieldLink "MatchTrees$Trees" (11 : Nat) "MatchTrees$Trees" "column" "[LMatchTrees$Groups;") ∈ WT := WT_of (sub_tables_1_2 _ (List.mem_of_getElem? (i := 192) (by decide +kernel))) (by decide +kernel)
set_option maxRecDepth 20000 in
theorem t_562 : (Jvm.Cond.fieldLink "MatchTrees" (137 : Nat) "MatchTrees$Trees" "column" "[LMatchTrees$Groups;") ∈ WT := WT_of (sub_tables_1_2 _ (List.mem_of_getElem? (i := 193) (by decide +kernel))) (by decide +kernel)
set_option maxRecDepth 20000 in
theorem t_563 : (Jvm.Cond.fieldLink "MatchTrees$Trees" (17 : Nat) "MatchTrees$Trees" "branch" "[LMatchTrees$Groups;") ∈ WT := WT_of (sub_tables_1_2 _ (List.mem_of_getElem? (i := 194) (by decide +kernel))) (by decide +kernel)
set_option maxRecDepth 20000 in
theorem t_564 : (Jvm.Cond.fieldLink "MatchTrees$Trees" (37 : Nat) "MatchTrees$Trees" "marks" "LMatchTrees$Marks;") ∈ WT := WT_of (sub_tables_1_2 _ (List.mem_of_getElem? (i := 195) (by decide +kernel))) (by decide +kernel)
set_option maxRecDepth 20000 in
theorem t_565 : (Jvm.Cond.fieldLink "MatchTrees$Trees" (21 : Nat) "MatchTrees$Trees" "counted" "[J") ∈ WT := WT_of (sub_tables_1_2 _ (List.mem_of_getElem? (i := 196) (by decide +kernel))) (by decide +kernel)
set_option maxRecDepth 20000 in
theorem t_566 : (Jvm.Cond.fieldLink "MatchTrees$Trees" (128 : Nat) "MatchTrees$Trees" "now" "I") ∈ WT := WT_of (sub_tables_1_2 _ (List.mem_of_getElem? (i := 197) (by decide +kernel))) (by decide +kernel)
set_option maxRecDepth 20000 in
theorem t_567 : (Jvm.Cond.fieldLink "MatchTrees$Trees" (131 : Nat) "MatchTrees$Trees" "unlike" "I") ∈ WT := WT_of (sub_tables_1_2 _ (List.mem_of_getElem? (i := 198) (by decide +kernel))) (by decide +kernel)
set_option maxRecDepth 20000 in
theorem t_568 : (Jvm.Cond.fieldLink "MatchTrees" (314 : Nat) "MatchTrees$Trees" "unlike" "I") ∈ WT := WT_of (sub_tables_1_2 _ (List.mem_of_getElem? (i := 199) (by decide +kernel))) (by decide +kernel)
set_option maxRecDepth 20000 in
theorem t_569 : (Jvm.Cond.fieldLink "MatchTrees$Trees" (25 : Nat) "MatchTrees$Trees" "scopesShut" "[I") ∈ WT := WT_of (sub_tables_1_2 _ (List.mem_of_getElem? (i := 200) (by decide +kernel))) (by decide +kernel)
set_option maxRecDepth 20000 in
theorem t_570 : (Jvm.Cond.fieldLink "MatchTrees$Trees" (183 : Nat) "MatchTrees$Trees" "scopesOpened" "I") ∈ WT := WT_of (sub_tables_1_2 _ (List.mem_of_getElem? (i := 201) (by decide +kernel))) (by decide +kernel)
set_option maxRecDepth 20000 in
theorem t_571 : (Jvm.Cond.fieldLink "MatchTrees" (331 : Nat) "MatchTrees$Trees" "scopesOpened" "I") ∈ WT := WT_of (sub_tables_1_2 _ (List.mem_of_getElem? (i := 202) (by decide +kernel))) (by decide +kernel)
set_option maxRecDepth 20000 in
theorem t_572 : (Jvm.Cond.fieldLink "MatchTrees$Trees" (186 : Nat) "MatchTrees$Trees" "scopesOpen" "I") ∈ WT := WT_of (sub_tables_1_2 _ (List.mem_of_getElem? (i := 203) (by decide +kernel))) (by decide +kernel)
set_option maxRecDepth 20000 in
theorem t_573 : (Jvm.Cond.fieldLink "MatchTrees$Trees" (189 : Nat) "MatchTrees$Trees" "scopesMost" "I") ∈ WT := WT_of (sub_tables_1_2 _ (List.mem_of_getElem? (i := 204) (by decide +kernel))) (by decide +kernel)
set_option maxRecDepth 20000 in
theorem t_574 : (Jvm.Cond.fieldLink "MatchTrees" (334 : Nat) "MatchTrees$Trees" "scopesMost" "I") ∈ WT := WT_of (sub_tables_1_2 _ (List.mem_of_getElem? (i := 205) (by decide +kernel))) (by decide +kernel)
set_option maxRecDepth 20000 in
theorem t_575 : (Jvm.Cond.fieldLink "MatchTrees$Trees" (192 : Nat) "MatchTrees$Trees" "shutCount" "I") ∈ WT := WT_of (sub_tables_1_2 _ (List.mem_of_getElem? (i := 206) (by decide +kernel))) (by decide +kernel)
set_option maxRecDepth 20000 in
theorem t_576 : (Jvm.Cond.fieldLink "MatchTrees$Trees" (195 : Nat) "MatchTrees$Trees" "stopped" "Z") ∈ WT := WT_of (sub_tables_1_2 _ (List.mem_of_getElem? (i := 207) (by decide +kernel))) (by decide +kernel)
set_option maxRecDepth 20000 in
theorem t_577 : (Jvm.Cond.fieldLink "MatchTrees" (337 : Nat) "MatchTrees$Trees" "stopped" "Z") ∈ WT := WT_of (sub_tables_1_2 _ (List.mem_of_getElem? (i := 208) (by decide +kernel))) (by decide +kernel)
set_option maxRecDepth 20000 in
theorem t_578 : (Jvm.Cond.fieldLink "MatchTrees$Trees" (80 : Nat) "MatchTrees$Trees" "rule" "I") ∈ WT := WT_of (sub_tables_1_2 _ (List.mem_of_getElem? (i := 209) (by decide +kernel))) (by decide +kernel)
set_option maxRecDepth 20000 in
theorem t_579 : (Jvm.Cond.fieldLink "MatchTrees$Trees" (29 : Nat) "MatchTrees$Trees" "table" "LMatchTrees$Table;") ∈ WT := WT_of (sub_tables_1_2 _ (List.mem_of_getElem? (i := 210) (by decide +kernel))) (by decide +kernel)
set_option maxRecDepth 20000 in
theorem t_580 : (Jvm.Cond.fieldLink "MatchTrees$Trees" (33 : Nat) "MatchTrees$Trees" "order" "LMatchTrees$Order;") ∈ WT := WT_of (sub_tables_1_2 _ (List.mem_of_getElem? (i := 211) (by decide +kernel))) (by decide +kernel)
set_option maxRecDepth 20000 in
theorem t_581 : (Jvm.Cond.laysFinal "MatchTrees$Trees" "MatchTrees$Trees" "column" "[LMatchTrees$Groups;") ∈ WT := WT_of (sub_tables_1_2 _ (List.mem_of_getElem? (i := 212) (by decide +kernel))) (by decide +kernel)
set_option maxRecDepth 20000 in
theorem t_583 : (Jvm.Cond.laysFinal "MatchTrees$Trees" "MatchTrees$Trees" "branch" "[LMatchTrees$Groups;") ∈ WT := WT_of (sub_tables_1_2 _ (List.mem_of_getElem? (i := 214) (by decide +kernel))) (by decide +kernel)
set_option maxRecDepth 20000 in
theorem t_585 : (Jvm.Cond.laysFinal "MatchTrees$Trees" "MatchTrees$Trees" "marks" "LMatchTrees$Marks;") ∈ WT := WT_of (sub_tables_1_2 _ (List.mem_of_getElem? (i := 216) (by decide +kernel))) (by decide +kernel)
set_option maxRecDepth 20000 in
theorem t_587 : (Jvm.Cond.laysFinal "MatchTrees$Trees" "MatchTrees$Trees" "counted" "[J") ∈ WT := WT_of (sub_tables_1_2 _ (List.mem_of_getElem? (i := 218) (by decide +kernel))) (by decide +kernel)
set_option maxRecDepth 20000 in
theorem t_589 : (Jvm.Cond.lays "MatchTrees$Trees" "MatchTrees$Trees" "now" "I") ∈ WT := WT_of (sub_tables_1_2 _ (List.mem_of_getElem? (i := 220) (by decide +kernel))) (by decide +kernel)
set_option maxRecDepth 20000 in
theorem t_591 : (Jvm.Cond.lays "MatchTrees$Trees" "MatchTrees$Trees" "unlike" "I") ∈ WT := WT_of (sub_tables_1_2 _ (List.mem_of_getElem? (i := 222) (by decide +kernel))) (by decide +kernel)
set_option maxRecDepth 20000 in
theorem t_593 : (Jvm.Cond.laysFinal "MatchTrees$Trees" "MatchTrees$Trees" "scopesShut" "[I") ∈ WT := WT_of (sub_tables_1_2 _ (List.mem_of_getElem? (i := 224) (by decide +kernel))) (by decide +kernel)
set_option maxRecDepth 20000 in
theorem t_595 : (Jvm.Cond.lays "MatchTrees$Trees" "MatchTrees$Trees" "scopesOpened" "I") ∈ WT := WT_of (sub_tables_1_2 _ (List.mem_of_getElem? (i := 226) (by decide +kernel))) (by decide +kernel)
set_option maxRecDepth 20000 in
theorem t_597 : (Jvm.Cond.lays "MatchTrees$Trees" "MatchTrees$Trees" "scopesOpen" "I") ∈ WT := WT_of (sub_tables_1_2 _ (List.mem_of_getElem? (i := 228) (by decide +kernel))) (by decide +kernel)
set_option maxRecDepth 20000 in
theorem t_599 : (Jvm.Cond.lays "MatchTrees$Trees" "MatchTrees$Trees" "scopesMost" "I") ∈ WT := WT_of (sub_tables_1_2 _ (List.mem_of_getElem? (i := 230) (by decide +kernel))) (by decide +kernel)
set_option maxRecDepth 20000 in
theorem t_601 : (Jvm.Cond.lays "MatchTrees$Trees" "MatchTrees$Trees" "shutCount" "I") ∈ WT := WT_of (sub_tables_1_2 _ (List.mem_of_getElem? (i := 232) (by decide +kernel))) (by decide +kernel)
set_option maxRecDepth 20000 in
theorem t_603 : (Jvm.Cond.lays "MatchTrees$Trees" "MatchTrees$Trees" "stopped" "Z") ∈ WT := WT_of (sub_tables_1_2 _ (List.mem_of_getElem? (i := 234) (by decide +kernel))) (by decide +kernel)
set_option maxRecDepth 20000 in
theorem t_605 : (Jvm.Cond.lays "MatchTrees$Trees" "MatchTrees$Trees" "rule" "I") ∈ WT := WT_of (sub_tables_1_2 _ (List.mem_of_getElem? (i := 236) (by decide +kernel))) (by decide +kernel)
set_option maxRecDepth 20000 in
theorem t_607 : (Jvm.Cond.lays "MatchTrees$Trees" "MatchTrees$Trees" "table" "LMatchTrees$Table;") ∈ WT := WT_of (sub_tables_1_2 _ (List.mem_of_getElem? (i := 238) (by decide +kernel))) (by decide +kernel)
set_option maxRecDepth 20000 in
theorem t_609 : (Jvm.Cond.lays "MatchTrees$Trees" "MatchTrees$Trees" "order" "LMatchTrees$Order;") ∈ WT := WT_of (sub_tables_1_3 _ (List.mem_of_getElem? (i := 0) (by decide +kernel))) (by decide +kernel)
set_option maxRecDepth 20000 in
theorem t_612 : (Jvm.Cond.arrayClass Jvm.ClassFile.FieldType.long) ∈ WT := WT_of (sub_tables_1_3 _ (List.mem_of_getElem? (i := 3) (by decide +kernel))) (by decide +kernel)
set_option maxRecDepth 20000 in
theorem t_613 : (Jvm.Cond.fieldLink "MatchTrees" (14 : Nat) "MatchTrees" "tape" "LMatchTrees$Bytes;") ∈ WT := WT_of (sub_tables_1_3 _ (List.mem_of_getElem? (i := 4) (by decide +kernel))) (by decide +kernel)
set_option maxRecDepth 20000 in
theorem t_614 : (Jvm.Cond.fieldLink "MatchTrees" (18 : Nat) "MatchTrees" "written" "LMatchTrees$Bytes;") ∈ WT := WT_of (sub_tables_1_3 _ (List.mem_of_getElem? (i := 5) (by decide +kernel))) (by decide +kernel)
set_option maxRecDepth 20000 in
theorem t_615 : (Jvm.Cond.fieldLink "MatchTrees" (24 : Nat) "MatchTrees" "marks" "LMatchTrees$Marks;") ∈ WT := WT_of (sub_tables_1_3 _ (List.mem_of_getElem? (i := 6) (by decide +kernel))) (by decide +kernel)
set_option maxRecDepth 20000 in
theorem t_616 : (Jvm.Cond.fieldLink "MatchTrees" (33 : Nat) "MatchTrees" "rowGroups" "LMatchTrees$Groups;") ∈ WT := WT_of (sub_tables_1_3 _ (List.mem_of_getElem? (i := 7) (by decide +kernel))) (by decide +kernel)
set_option maxRecDepth 20000 in
theorem t_617 : (Jvm.Cond.fieldLink "MatchTrees" (37 : Nat) "MatchTrees" "rowGroupsAhead" "LMatchTrees$Groups;") ∈ WT := WT_of (sub_tables_1_3 _ (List.mem_of_getElem? (i := 8) (by decide +kernel))) (by decide +kernel)
set_option maxRecDepth 20000 in
theorem t_618 : (Jvm.Cond.fieldLink "MatchTrees" (43 : Nat) "MatchTrees" "order" "LMatchTrees$Order;") ∈ WT := WT_of (sub_tables_1_3 _ (List.mem_of_getElem? (i := 9) (by decide +kernel))) (by decide +kernel)
set_option maxRecDepth 20000 in
theorem t_619 : (Jvm.Cond.fieldLink "MatchTrees" (47 : Nat) "MatchTrees" "trial" "LMatchTrees$Order;") ∈ WT := WT_of (sub_tables_1_3 _ (List.mem_of_getElem? (i := 10) (by decide +kernel))) (by decide +kernel)
set_option maxRecDepth 20000 in
theorem t_620 : (Jvm.Cond.fieldLink "MatchTrees" (53 : Nat) "MatchTrees" "acts" "LMatchTrees$Acts;") ∈ WT := WT_of (sub_tables_1_3 _ (List.mem_of_getElem? (i := 11) (by decide +kernel))) (by decide +kernel)
set_option maxRecDepth 20000 in
theorem t_621 : (Jvm.Cond.fieldLink "MatchTrees" (60 : Nat) "MatchTrees" "seen" "LMatchTrees$Seen;") ∈ WT := WT_of (sub_tables_1_3 _ (List.mem_of_getElem? (i := 12) (by decide +kernel))) (by decide +kernel)
set_option maxRecDepth 20000 in
theorem t_622 : (Jvm.Cond.fieldLink "MatchTrees" (64 : Nat) "MatchTrees" "refused" "[I") ∈ WT := WT_of (sub_tables_1_3 _ (List.mem_of_getElem? (i := 13) (by decide +kernel))) (by decide +kernel)
set_option maxRecDepth 20000 in
theorem t_623 : (Jvm.Cond.fieldLink "MatchTrees" (71 : Nat) "MatchTrees" "table" "LMatchTrees$Table;") ∈ WT := WT_of (sub_tables_1_3 _ (List.mem_of_getElem? (i := 14) (by decide +kernel))) (by decide +kernel)
set_option maxRecDepth 20000 in
theorem t_624 : (Jvm.Cond.fieldLink "MatchTrees" (75 : Nat) "MatchTrees" "spare" "LMatchTrees$Table;") ∈ WT := WT_of (sub_tables_1_3 _ (List.mem_of_getElem? (i := 15) (by decide +kernel))) (by decide +kernel)
set_option maxRecDepth 20000 in
theorem t_625 : (Jvm.Cond.fieldLink "MatchTrees" (83 : Nat) "MatchTrees" "reader" "LMatchTrees$Reader;") ∈ WT := WT_of (sub_tables_1_3 _ (List.mem_of_getElem? (i := 16) (by decide +kernel))) (by decide +kernel)
set_option maxRecDepth 20000 in
theorem t_626 : (Jvm.Cond.fieldLink "MatchTrees" (92 : Nat) "MatchTrees" "trees" "LMatchTrees$Trees;") ∈ WT := WT_of (sub_tables_1_3 _ (List.mem_of_getElem? (i := 17) (by decide +kernel))) (by decide +kernel)
set_option maxRecDepth 20000 in
theorem t_627 : (Jvm.Cond.fieldLink "MatchTrees" (96 : Nat) "MatchTrees" "seedNow" "I") ∈ WT := WT_of (sub_tables_1_3 _ (List.mem_of_getElem? (i := 18) (by decide +kernel))) (by decide +kernel)
set_option maxRecDepth 20000 in
theorem t_628 : (Jvm.Cond.laysFinal "MatchTrees" "MatchTrees" "tape" "LMatchTrees$Bytes;") ∈ WT := WT_of (sub_tables_1_3 _ (List.mem_of_getElem? (i := 19) (by decide +kernel))) (by decide +kernel)
set_option maxRecDepth 20000 in
theorem t_630 : (Jvm.Cond.laysFinal "MatchTrees" "MatchTrees" "written" "LMatchTrees$Bytes;") ∈ WT := WT_of (sub_tables_1_3 _ (List.mem_of_getElem? (i := 21) (by decide +kernel))) (by decide +kernel)
set_option maxRecDepth 20000 in
theorem t_632 : (Jvm.Cond.laysFinal "MatchTrees" "MatchTrees" "marks" "LMatchTrees$Marks;") ∈ WT := WT_of (sub_tables_1_3 _ (List.mem_of_getElem? (i := 23) (by decide +kernel))) (by decide +kernel)
set_option maxRecDepth 20000 in
theorem t_634 : (Jvm.Cond.laysFinal "MatchTrees" "MatchTrees" "rowGroups" "LMatchTrees$Groups;") ∈ WT := WT_of (sub_tables_1_3 _ (List.mem_of_getElem? (i := 25) (by decide +kernel))) (by decide +kernel)
set_option maxRecDepth 20000 in
theorem t_636 : (Jvm.Cond.laysFinal "MatchTrees" "MatchTrees" "rowGroupsAhead" "LMatchTrees$Groups;") ∈ WT := WT_of (sub_tables_1_3 _ (List.mem_of_getElem? (i := 27) (by decide +kernel))) (by decide +kernel)
set_option maxRecDepth 20000 in
theorem t_638 : (Jvm.Cond.laysFinal "MatchTrees" "MatchTrees" "order" "LMatchTrees$Order;") ∈ WT := WT_of (sub_tables_1_3 _ (List.mem_of_getElem? (i := 29) (by decide +kernel))) (by decide +kernel)
set_option maxRecDepth 20000 in
theorem t_640 : (Jvm.Cond.laysFinal "MatchTrees" "MatchTrees" "trial" "LMatchTrees$Order;") ∈ WT := WT_of (sub_tables_1_3 _ (List.mem_of_getElem? (i := 31) (by decide +kernel))) (by decide +kernel)
set_option maxRecDepth 20000 in
theorem t_642 : (Jvm.Cond.laysFinal "MatchTrees" "MatchTrees" "acts" "LMatchTrees$Acts;") ∈ WT := WT_of (sub_tables_1_3 _ (List.mem_of_getElem? (i := 33) (by decide +kernel))) (by decide +kernel)
set_option maxRecDepth 20000 in
theorem t_644 : (Jvm.Cond.laysFinal "MatchTrees" "MatchTrees" "seen" "LMatchTrees$Seen;") ∈ WT := WT_of (sub_tables_1_3 _ (List.mem_of_getElem? (i := 35) (by decide +kernel))) (by decide +kernel)
set_option maxRecDepth 20000 in
theorem t_646 : (Jvm.Cond.laysFinal "MatchTrees" "MatchTrees" "refused" "[I") ∈ WT := WT_of (sub_tables_1_3 _ (List.mem_of_getElem? (i := 37) (by decide +kernel))) (by decide +kernel)
set_option maxRecDepth 20000 in
theorem t_648 : (Jvm.Cond.lays "MatchTrees" "MatchTrees" "table" "LMatchTrees$Table;") ∈ WT := WT_of (sub_tables_1_3 _ (List.mem_of_getElem? (i := 39) (by decide +kernel))) (by decide +kernel)
set_option maxRecDepth 20000 in
theorem t_650 : (Jvm.Cond.lays "MatchTrees" "MatchTrees" "spare" "LMatchTrees$Table;") ∈ WT := WT_of (sub_tables_1_3 _ (List.mem_of_getElem? (i := 41) (by decide +kernel))) (by decide +kernel)
set_option maxRecDepth 20000 in
theorem t_652 : (Jvm.Cond.laysFinal "MatchTrees" "MatchTrees" "reader" "LMatchTrees$Reader;") ∈ WT := WT_of (sub_tables_1_3 _ (List.mem_of_getElem? (i := 43) (by decide +kernel))) (by decide +kernel)
set_option maxRecDepth 20000 in
theorem t_654 : (Jvm.Cond.laysFinal "MatchTrees" "MatchTrees" "trees" "LMatchTrees$Trees;") ∈ WT := WT_of (sub_tables_1_3 _ (List.mem_of_getElem? (i := 45) (by decide +kernel))) (by decide +kernel)
set_option maxRecDepth 20000 in
theorem t_656 : (Jvm.Cond.lays "MatchTrees" "MatchTrees" "seedNow" "I") ∈ WT := WT_of (sub_tables_1_3 _ (List.mem_of_getElem? (i := 47) (by decide +kernel))) (by decide +kernel)
set_option maxRecDepth 20000 in
theorem t_659 : (Jvm.Cond.methodLink "MatchTreesLaw" (13 : Nat) ({ cls := "MatchTrees", name := "feed", desc := "(IIIII)I" } : Jvm.MethodName)) ∈ WT := WT_of (sub_tables_1_3 _ (List.mem_of_getElem? (i := 50) (by decide +kernel))) (by decide +kernel)
set_option maxRecDepth 20000 in
theorem t_660 : (Jvm.Cond.instanceMethod ({ cls := "MatchTrees", name := "feed", desc := "(IIIII)I" } : Jvm.MethodName)) ∈ WT := WT_of (sub_tables_1_3 _ (List.mem_of_getElem? (i := 51) (by decide +kernel))) (by decide +kernel)
set_option maxRecDepth 20000 in
theorem t_661 : (Jvm.Cond.selects "MatchTrees" ({ cls := "MatchTrees", name := "feed", desc := "(IIIII)I" } : Jvm.MethodName) ({ cls := "MatchTrees", name := "feed", desc := "(IIIII)I" } : Jvm.MethodName)) ∈ WT := WT_of (sub_tables_1_3 _ (List.mem_of_getElem? (i := 52) (by decide +kernel))) (by decide +kernel)
set_option maxRecDepth 20000 in
theorem t_662 : (Jvm.Cond.code ({ cls := "MatchTrees", name := "feed", desc := "(IIIII)I" } : Jvm.MethodName) prog_1_method_2_code (6 : Nat) (Option.some Jvm.ClassFile.FieldType.int)) ∈ WT := WT_of (sub_tables_1_3 _ (List.mem_of_getElem? (i := 53) rfl)) (by decide +kernel)
set_option maxRecDepth 20000 in
theorem t_663 : (Jvm.Cond.methodLink "MatchTrees" (103 : Nat) ({ cls := "MatchTrees", name := "refuse", desc := "(I)Z" } : Jvm.MethodName)) ∈ WT := WT_of (sub_tables_1_3 _ (List.mem_of_getElem? (i := 54) (by decide +kernel))) (by decide +kernel)
set_option maxRecDepth 20000 in
theorem t_665 : (Jvm.Cond.instanceMethod ({ cls := "MatchTrees", name := "refuse", desc := "(I)Z" } : Jvm.MethodName)) ∈ WT := WT_of (sub_tables_1_3 _ (List.mem_of_getElem? (i := 56) (by decide +kernel))) (by decide +kernel)
set_option maxRecDepth 20000 in
theorem t_666 : (Jvm.Cond.code ({ cls := "MatchTrees", name := "refuse", desc := "(I)Z" } : Jvm.MethodName) prog_1_method_51_code (2 : Nat) (Option.some Jvm.ClassFile.FieldType.boolean)) ∈ WT := WT_of (sub_tables_1_3 _ (List.mem_of_getElem? (i := 57) rfl)) (by decide +kernel)
set_option maxRecDepth 20000 in
theorem t_667 : (Jvm.Cond.methodLink "MatchTrees" (107 : Nat) ({ cls := "MatchTrees$Bytes", name := "addFour", desc := "(I)V" } : Jvm.MethodName)) ∈ WT := WT_of (sub_tables_1_3 _ (List.mem_of_getElem? (i := 58) (by decide +kernel))) (by decide +kernel)
set_option maxRecDepth 20000 in
theorem t_668 : (Jvm.Cond.instanceMethod ({ cls := "MatchTrees$Bytes", name := "addFour", desc := "(I)V" } : Jvm.MethodName)) ∈ WT := WT_of (sub_tables_1_3 _ (List.mem_of_getElem? (i := 59) (by decide +kernel))) (by decide +kernel)
set_option maxRecDepth 20000 in
theorem t_669 : (Jvm.Cond.selects "MatchTrees$Bytes" ({ cls := "MatchTrees$Bytes", name := "addFour", desc := "(I)V" } : Jvm.MethodName) ({ cls := "MatchTrees$Bytes", name := "addFour", desc := "(I)V" } : Jvm.MethodName)) ∈ WT := WT_of (sub_tables_1_3 _ (List.mem_of_getElem? (i := 60) (by decide +kernel))) (by decide +kernel)
set_option maxRecDepth 20000 in
theorem t_670 : (Jvm.Cond.code ({ cls := "MatchTrees$Bytes", name := "addFour", desc := "(I)V" } : Jvm.MethodName) prog_3_method_3_code (2 : Nat) (Option.none : Option Jvm.ClassFile.FieldType)) ∈ WT := WT_of (sub_tables_1_3 _ (List.mem_of_getElem? (i := 61) rfl)) (by decide +kernel)
set_option maxRecDepth 20000 in
theorem t_671 : (Jvm.Cond.methodLink "MatchTrees$Bytes" (25 : Nat) ({ cls := "MatchTrees$Bytes", name := "add", desc := "(I)V" } : Jvm.MethodName)) ∈ WT := WT_of (sub_tables_1_3 _ (List.mem_of_getElem? (i := 62) (by decide +kernel))) (by decide +kernel)
set_option maxRecDepth 20000 in
theorem t_672 : (Jvm.Cond.instanceMethod ({ cls := "MatchTrees$Bytes", name := "add", desc := "(I)V" } : Jvm.MethodName)) ∈ WT := WT_of (sub_tables_1_3 _ (List.mem_of_getElem? (i := 63) (by decide +kernel))) (by decide +kernel)
set_option maxRecDepth 20000 in
theorem t_673 : (Jvm.Cond.selects "MatchTrees$Bytes" ({ cls := "MatchTrees$Bytes", name := "add", desc := "(I)V" } : Jvm.MethodName) ({ cls := "MatchTrees$Bytes", name := "add", desc := "(I)V" } : Jvm.MethodName)) ∈ WT := WT_of (sub_tables_1_3 _ (List.mem_of_getElem? (i := 64) (by decide +kernel))) (by decide +kernel)
set_option maxRecDepth 20000 in
theorem t_674 : (Jvm.Cond.code ({ cls := "MatchTrees$Bytes", name := "add", desc := "(I)V" } : Jvm.MethodName) prog_3_method_2_code (2 : Nat) (Option.none : Option Jvm.ClassFile.FieldType)) ∈ WT := WT_of (sub_tables_1_3 _ (List.mem_of_getElem? (i := 65) rfl)) (by decide +kernel)
set_option maxRecDepth 20000 in
theorem t_675 : (Jvm.Cond.methodLink "MatchTreesLaw" (18 : Nat) ({ cls := "MatchTrees", name := "end", desc := "(I)Z" } : Jvm.MethodName)) ∈ WT := WT_of (sub_tables_1_3 _ (List.mem_of_getElem? (i := 66) (by decide +kernel))) (by decide +kernel)
set_option maxRecDepth 20000 in
theorem t_676 : (Jvm.Cond.instanceMethod ({ cls := "MatchTrees", name := "end", desc := "(I)Z" } : Jvm.MethodName)) ∈ WT := WT_of (sub_tables_1_3 _ (List.mem_of_getElem? (i := 67) (by decide +kernel))) (by decide +kernel)
set_option maxRecDepth 20000 in
theorem t_677 : (Jvm.Cond.selects "MatchTrees" ({ cls := "MatchTrees", name := "end", desc := "(I)Z" } : Jvm.MethodName) ({ cls := "MatchTrees", name := "end", desc := "(I)Z" } : Jvm.MethodName)) ∈ WT := WT_of (sub_tables_1_3 _ (List.mem_of_getElem? (i := 68) (by decide +kernel))) (by decide +kernel)
set_option maxRecDepth 20000 in
theorem t_678 : (Jvm.Cond.code ({ cls := "MatchTrees", name := "end", desc := "(I)Z" } : Jvm.MethodName) prog_1_method_3_code (2 : Nat) (Option.some Jvm.ClassFile.FieldType.boolean)) ∈ WT := WT_of (sub_tables_1_3 _ (List.mem_of_getElem? (i := 69) rfl)) (by decide +kernel)
set_option maxRecDepth 20000 in
theorem t_679 : (Jvm.Cond.methodLink "MatchTreesLaw" (23 : Nat) ({ cls := "MatchTrees", name := "match", desc := "()I" } : Jvm.MethodName)) ∈ WT := WT_of (sub_tables_1_3 _ (List.mem_of_getElem? (i := 70) (by decide +kernel))) (by decide +kernel)
set_option maxRecDepth 20000 in
theorem t_680 : (Jvm.Cond.instanceMethod ({ cls := "MatchTrees", name := "match", desc := "()I" } : Jvm.MethodName)) ∈ WT := WT_of (sub_tables_1_3 _ (List.mem_of_getElem? (i := 71) (by decide +kernel))) (by decide +kernel)
set_option maxRecDepth 20000 in
theorem t_681 : (Jvm.Cond.selects "MatchTrees" ({ cls := "MatchTrees", name := "match", desc := "()I" } : Jvm.MethodName) ({ cls := "MatchTrees", name := "match", desc := "()I" } : Jvm.MethodName)) ∈ WT := WT_of (sub_tables_1_3 _ (List.mem_of_getElem? (i := 72) (by decide +kernel))) (by decide +kernel)
set_option maxRecDepth 20000 in
theorem t_682 : (Jvm.Cond.code ({ cls := "MatchTrees", name := "match", desc := "()I" } : Jvm.MethodName) prog_1_method_4_code (3 : Nat) (Option.some Jvm.ClassFile.FieldType.int)) ∈ WT := WT_of (sub_tables_1_3 _ (List.mem_of_getElem? (i := 73) rfl)) (by decide +kernel)
set_option maxRecDepth 20000 in
theorem t_683 : (Jvm.Cond.methodLink "MatchTrees" (110 : Nat) ({ cls := "MatchTrees$Reader", name := "readMatch", desc := "(LMatchTrees$Bytes;LMatchTrees$Table;)I" } : Jvm.MethodName)) ∈ WT := WT_of (sub_tables_1_3 _ (List.mem_of_getElem? (i := 74) (by decide +kernel))) (by decide +kernel)
set_option maxRecDepth 20000 in
theorem t_684 : (Jvm.Cond.instanceMethod ({ cls := "MatchTrees$Reader", name := "readMatch", desc := "(LMatchTrees$Bytes;LMatchTrees$Table;)I" } : Jvm.MethodName)) ∈ WT := WT_of (sub_tables_1_3 _ (List.mem_of_getElem? (i := 75) (by decide +kernel))) (by decide +kernel)
set_option maxRecDepth 20000 in
theorem t_685 : (Jvm.Cond.selects "MatchTrees$Reader" ({ cls := "MatchTrees$Reader", name := "readMatch", desc := "(LMatchTrees$Bytes;LMatchTrees$Table;)I" } : Jvm.MethodName) ({ cls := "MatchTrees$Reader", name := "readMatch", desc := "(LMatchTrees$Bytes;LMatchTrees$Table;)I" } : Jvm.MethodName)) ∈ WT := WT_of (sub_tables_1_3 _ (List.mem_of_getElem? (i := 76) (by decide +kernel))) (by decide +kernel)
set_option maxRecDepth 20000 in
theorem t_686 : (Jvm.Cond.code ({ cls := "MatchTrees$Reader", name := "readMatch", desc := "(LMatchTrees$Bytes;LMatchTrees$Table;)I" } : Jvm.MethodName) prog_8_method_2_code (5 : Nat) (Option.some Jvm.ClassFile.FieldType.int)) ∈ WT := WT_of (sub_tables_1_3 _ (List.mem_of_getElem? (i := 77) rfl)) (by decide +kernel)
set_option maxRecDepth 20000 in
theorem t_687 : (Jvm.Cond.methodLink "MatchTrees$Reader" (31 : Nat) ({ cls := "MatchTrees$Table", name := "clear", desc := "()V" } : Jvm.MethodName)) ∈ WT := WT_of (sub_tables_1_3 _ (List.mem_of_getElem? (i := 78) (by decide +kernel))) (by decide +kernel)
set_option maxRecDepth 20000 in
theorem t_688 : (Jvm.Cond.instanceMethod ({ cls := "MatchTrees$Table", name := "clear", desc := "()V" } : Jvm.MethodName)) ∈ WT := WT_of (sub_tables_1_3 _ (List.mem_of_getElem? (i := 79) (by decide +kernel))) (by decide +kernel)
set_option maxRecDepth 20000 in
theorem t_689 : (Jvm.Cond.selects "MatchTrees$Table" ({ cls := "MatchTrees$Table", name := "clear", desc := "()V" } : Jvm.MethodName) ({ cls := "MatchTrees$Table", name := "clear", desc := "()V" } : Jvm.MethodName)) ∈ WT := WT_of (sub_tables_1_3 _ (List.mem_of_getElem? (i := 80) (by decide +kernel))) (by decide +kernel)
set_option maxRecDepth 20000 in
theorem t_690 : (Jvm.Cond.code ({ cls := "MatchTrees$Table", name := "clear", desc := "()V" } : Jvm.MethodName) prog_11_method_2_code (1 : Nat) (Option.none : Option Jvm.ClassFile.FieldType)) ∈ WT := WT_of (sub_tables_1_3 _ (List.mem_of_getElem? (i := 81) rfl)) (by decide +kernel)
set_option maxRecDepth 20000 in
theorem t_691 : (Jvm.Cond.methodLink "MatchTrees$Table" (36 : Nat) ({ cls := "MatchTrees$Kinds", name := "clear", desc := "()V" } : Jvm.MethodName)) ∈ WT := WT_of (sub_tables_1_3 _ (List.mem_of_getElem? (i := 82) (by decide +kernel))) (by decide +kernel)
set_option maxRecDepth 20000 in
theorem t_692 : (Jvm.Cond.instanceMethod ({ cls := "MatchTrees$Kinds", name := "clear", desc := "()V" } : Jvm.MethodName)) ∈ WT := WT_of (sub_tables_1_3 _ (List.mem_of_getElem? (i := 83) (by decide +kernel))) (by decide +kernel)
set_option maxRecDepth 20000 in
theorem t_693 : (Jvm.Cond.selects "MatchTrees$Kinds" ({ cls := "MatchTrees$Kinds", name := "clear", desc := "()V" } : Jvm.MethodName) ({ cls := "MatchTrees$Kinds", name := "clear", desc := "()V" } : Jvm.MethodName)) ∈ WT := WT_of (sub_tables_1_3 _ (List.mem_of_getElem? (i := 84) (by decide +kernel))) (by decide +kernel)
set_option maxRecDepth 20000 in
theorem t_694 : (Jvm.Cond.code ({ cls := "MatchTrees$Kinds", name := "clear", desc := "()V" } : Jvm.MethodName) prog_5_method_2_code (1 : Nat) (Option.none : Option Jvm.ClassFile.FieldType)) ∈ WT := WT_of (sub_tables_1_3 _ (List.mem_of_getElem? (i := 85) rfl)) (by decide +kernel)
set_option maxRecDepth 20000 in
theorem t_695 : (Jvm.Cond.methodLink "MatchTrees$Reader" (36 : Nat) ({ cls := "MatchTrees$Reader", name := "begin", desc := "(LMatchTrees$Bytes;)V" } : Jvm.MethodName)) ∈ WT := WT_of (sub_tables_1_3 _ (List.mem_of_getElem? (i := 86) (by decide +kernel))) (by decide +kernel)
set_option maxRecDepth 20000 in
theorem t_697 : (Jvm.Cond.instanceMethod ({ cls := "MatchTrees$Reader", name := "begin", desc := "(LMatchTrees$Bytes;)V" } : Jvm.MethodName)) ∈ WT := WT_of (sub_tables_1_3 _ (List.mem_of_getElem? (i := 88) (by decide +kernel))) (by decide +kernel)
set_option maxRecDepth 20000 in
theorem t_698 : (Jvm.Cond.code ({ cls := "MatchTrees$Reader", name := "begin", desc := "(LMatchTrees$Bytes;)V" } : Jvm.MethodName) prog_8_method_3_code (2 : Nat) (Option.none : Option Jvm.ClassFile.FieldType)) ∈ WT := WT_of (sub_tables_1_3 _ (List.mem_of_getElem? (i := 89) rfl)) (by decide +kernel)
set_option maxRecDepth 20000 in
theorem t_699 : (Jvm.Cond.methodLink "MatchTrees$Reader" (85 : Nat) ({ cls := "MatchTrees$Scanner", name := "begin", desc := "(LMatchTrees$Bytes;)V" } : Jvm.MethodName)) ∈ WT := WT_of (sub_tables_1_3 _ (List.mem_of_getElem? (i := 90) (by decide +kernel))) (by decide +kernel)
set_option maxRecDepth 20000 in
theorem t_700 : (Jvm.Cond.instanceMethod ({ cls := "MatchTrees$Scanner", name := "begin", desc := "(LMatchTrees$Bytes;)V" } : Jvm.MethodName)) ∈ WT := WT_of (sub_tables_1_3 _ (List.mem_of_getElem? (i := 91) (by decide +kernel))) (by decide +kernel)
set_option maxRecDepth 20000 in
theorem t_701 : (Jvm.Cond.selects "MatchTrees$Scanner" ({ cls := "MatchTrees$Scanner", name := "begin", desc := "(LMatchTrees$Bytes;)V" } : Jvm.MethodName) ({ cls := "MatchTrees$Scanner", name := "begin", desc := "(LMatchTrees$Bytes;)V" } : Jvm.MethodName)) ∈ WT := WT_of (sub_tables_1_3 _ (List.mem_of_getElem? (i := 92) (by decide +kernel))) (by decide +kernel)
set_option maxRecDepth 20000 in
theorem t_702 : (Jvm.Cond.code ({ cls := "MatchTrees$Scanner", name := "begin", desc := "(LMatchTrees$Bytes;)V" } : Jvm.MethodName) prog_9_method_3_code (2 : Nat) (Option.none : Option Jvm.ClassFile.FieldType)) ∈ WT := WT_of (sub_tables_1_3 _ (List.mem_of_getElem? (i := 93) rfl)) (by decide +kernel)
set_option maxRecDepth 20000 in
theorem t_703 : (Jvm.Cond.methodLink "MatchTrees$Scanner" (62 : Nat) ({ cls := "java/lang/Math", name := "min", desc := "(II)I" } : Jvm.MethodName)) ∈ WT := WT_of (sub_tables_1_3 _ (List.mem_of_getElem? (i := 94) (by decide +kernel))) (by decide +kernel)
set_option maxRecDepth 20000 in
theorem t_704 : (Jvm.Cond.static ({ cls := "java/lang/Math", name := "min", desc := "(II)I" } : Jvm.MethodName)) ∈ WT := WT_of (sub_tables_1_3 _ (List.mem_of_getElem? (i := 95) (by decide +kernel))) (by decide +kernel)
set_option maxRecDepth 20000 in
theorem t_705 : (Jvm.Cond.code ({ cls := "java/lang/Math", name := "min", desc := "(II)I" } : Jvm.MethodName) prog_16_method_69_code (2 : Nat) (Option.some Jvm.ClassFile.FieldType.int)) ∈ WT := WT_of (sub_tables_1_3 _ (List.mem_of_getElem? (i := 96) rfl)) (by decide +kernel)
set_option maxRecDepth 20000 in
theorem t_706 : (Jvm.Cond.methodLink "MatchTrees$Scanner" (68 : Nat) ({ cls := "java/lang/Math", name := "max", desc := "(II)I" } : Jvm.MethodName)) ∈ WT := WT_of (sub_tables_1_3 _ (List.mem_of_getElem? (i := 97) (by decide +kernel))) (by decide +kernel)
set_option maxRecDepth 20000 in
theorem t_707 : (Jvm.Cond.methodLink "MatchTrees$Scanner" (78 : Nat) ({ cls := "MatchTrees$Scanner", name := "step", desc := "()V" } : Jvm.MethodName)) ∈ WT := WT_of (sub_tables_1_3 _ (List.mem_of_getElem? (i := 98) (by decide +kernel))) (by decide +kernel)
set_option maxRecDepth 20000 in
theorem t_708 : (Jvm.Cond.instanceMethod ({ cls := "MatchTrees$Scanner", name := "step", desc := "()V" } : Jvm.MethodName)) ∈ WT := WT_of (sub_tables_1_3 _ (List.mem_of_getElem? (i := 99) (by decide +kernel))) (by decide +kernel)
set_option maxRecDepth 20000 in
theorem t_709 : (Jvm.Cond.selects "MatchTrees$Scanner" ({ cls := "MatchTrees$Scanner", name := "step", desc := "()V" } : Jvm.MethodName) ({ cls := "MatchTrees$Scanner", name := "step", desc := "()V" } : Jvm.MethodName)) ∈ WT := WT_of (sub_tables_1_3 _ (List.mem_of_getElem? (i := 100) (by decide +kernel))) (by decide +kernel)
set_option maxRecDepth 20000 in
theorem t_710 : (Jvm.Cond.code ({ cls := "MatchTrees$Scanner", name := "step", desc := "()V" } : Jvm.MethodName) prog_9_method_4_code (6 : Nat) (Option.none : Option Jvm.ClassFile.FieldType)) ∈ WT := WT_of (sub_tables_1_3 _ (List.mem_of_getElem? (i := 101) rfl)) (by decide +kernel)
set_option maxRecDepth 20000 in
theorem t_711 : (Jvm.Cond.methodLink "MatchTrees$Scanner" (93 : Nat) ({ cls := "MatchTrees$Scanner", name := "stepWord", desc := "()V" } : Jvm.MethodName)) ∈ WT := WT_of (sub_tables_1_3 _ (List.mem_of_getElem? (i := 102) (by decide +kernel))) (by decide +kernel)
set_option maxRecDepth 20000 in
theorem t_713 : (Jvm.Cond.instanceMethod ({ cls := "MatchTrees$Scanner", name := "stepWord", desc := "()V" } : Jvm.MethodName)) ∈ WT := WT_of (sub_tables_1_3 _ (List.mem_of_getElem? (i := 104) (by decide +kernel))) (by decide +kernel)
set_option maxRecDepth 20000 in
theorem t_714 : (Jvm.Cond.code ({ cls := "MatchTrees$Scanner", name := "stepWord", desc := "()V" } : Jvm.MethodName) prog_9_method_5_code (3 : Nat) (Option.none : Option Jvm.ClassFile.FieldType)) ∈ WT := WT_of (sub_tables_1_3 _ (List.mem_of_getElem? (i := 105) rfl)) (by decide +kernel)
set_option maxRecDepth 20000 in
theorem t_715 : (Jvm.Cond.methodLink "MatchTrees$Scanner" (96 : Nat) ({ cls := "MatchTrees$Scanner", name := "stepNumber", desc := "()V" } : Jvm.MethodName)) ∈ WT := WT_of (sub_tables_1_3 _ (List.mem_of_getElem? (i := 106) (by decide +kernel))) (by decide +kernel)
set_option maxRecDepth 20000 in
theorem t_717 : (Jvm.Cond.instanceMethod ({ cls := "MatchTrees$Scanner", name := "stepNumber", desc := "()V" } : Jvm.MethodName)) ∈ WT := WT_of (sub_tables_1_3 _ (List.mem_of_getElem? (i := 108) (by decide +kernel))) (by decide +kernel)
set_option maxRecDepth 20000 in
theorem t_718 : (Jvm.Cond.code ({ cls := "MatchTrees$Scanner", name := "stepNumber", desc := "()V" } : Jvm.MethodName) prog_9_method_6_code (2 : Nat) (Option.none : Option Jvm.ClassFile.FieldType)) ∈ WT := WT_of (sub_tables_1_3 _ (List.mem_of_getElem? (i := 109) rfl)) (by decide +kernel)
set_option maxRecDepth 20000 in
theorem t_719 : (Jvm.Cond.methodLink "MatchTrees$Reader" (46 : Nat) ({ cls := "MatchTrees$Reader", name := "readKind", desc := "()Z" } : Jvm.MethodName)) ∈ WT := WT_of (sub_tables_1_3 _ (List.mem_of_getElem? (i := 110) (by decide +kernel))) (by decide +kernel)
set_option maxRecDepth 20000 in
theorem t_721 : (Jvm.Cond.instanceMethod ({ cls := "MatchTrees$Reader", name := "readKind", desc := "()Z" } : Jvm.MethodName)) ∈ WT := WT_of (sub_tables_1_3 _ (List.mem_of_getElem? (i := 112) (by decide +kernel))) (by decide +kernel)
set_option maxRecDepth 20000 in
theorem t_722 : (Jvm.Cond.code ({ cls := "MatchTrees$Reader", name := "readKind", desc := "()Z" } : Jvm.MethodName) prog_8_method_10_code (1 : Nat) (Option.some Jvm.ClassFile.FieldType.boolean)) ∈ WT := WT_of (sub_tables_1_3 _ (List.mem_of_getElem? (i := 113) rfl)) (by decide +kernel)
set_option maxRecDepth 20000 in
theorem t_723 : (Jvm.Cond.methodLink "MatchTrees$Reader" (65 : Nat) ({ cls := "MatchTrees$Reader", name := "failHere", desc := "()Z" } : Jvm.MethodName)) ∈ WT := WT_of (sub_tables_1_3 _ (List.mem_of_getElem? (i := 114) (by decide +kernel))) (by decide +kernel)
set_option maxRecDepth 20000 in
theorem t_725 : (Jvm.Cond.instanceMethod ({ cls := "MatchTrees$Reader", name := "failHere", desc := "()Z" } : Jvm.MethodName)) ∈ WT := WT_of (sub_tables_1_3 _ (List.mem_of_getElem? (i := 116) (by decide +kernel))) (by decide +kernel)
set_option maxRecDepth 20000 in
theorem t_726 : (Jvm.Cond.code ({ cls := "MatchTrees$Reader", name := "failHere", desc := "()Z" } : Jvm.MethodName) prog_8_method_5_code (1 : Nat) (Option.some Jvm.ClassFile.FieldType.boolean)) ∈ WT := WT_of (sub_tables_1_3 _ (List.mem_of_getElem? (i := 117) rfl)) (by decide +kernel)
set_option maxRecDepth 20000 in
theorem t_727 : (Jvm.Cond.methodLink "MatchTrees$Reader" (75 : Nat) ({ cls := "MatchTrees$Reader", name := "fail", desc := "(II)Z" } : Jvm.MethodName)) ∈ WT := WT_of (sub_tables_1_3 _ (List.mem_of_getElem? (i := 118) (by decide +kernel))) (by decide +kernel)
set_option maxRecDepth 20000 in
theorem t_729 : (Jvm.Cond.instanceMethod ({ cls := "MatchTrees$Reader", name := "fail", desc := "(II)Z" } : Jvm.MethodName)) ∈ WT := WT_of (sub_tables_1_3 _ (List.mem_of_getElem? (i := 120) (by decide +kernel))) (by decide +kernel)
set_option maxRecDepth 20000 in
theorem t_730 : (Jvm.Cond.code ({ cls := "MatchTrees$Reader", name := "fail", desc := "(II)Z" } : Jvm.MethodName) prog_8_method_4_code (3 : Nat) (Option.some Jvm.ClassFile.FieldType.boolean)) ∈ WT := WT_of (sub_tables_1_3 _ (List.mem_of_getElem? (i := 121) rfl)) (by decide +kernel)
set_option maxRecDepth 20000 in
theorem t_731 : (Jvm.Cond.methodLink "MatchTrees$Reader" (92 : Nat) ({ cls := "MatchTrees$Scanner", name := "step", desc := "()V" } : Jvm.MethodName)) ∈ WT := WT_of (sub_tables_1_3 _ (List.mem_of_getElem? (i := 122) (by decide +kernel))) (by decide +kernel)
set_option maxRecDepth 20000 in
theorem t_732 : (Jvm.Cond.methodLink "MatchTrees$Reader" (116 : Nat) ({ cls := "MatchTrees$Reader", name := "isNewName", desc := "()Z" } : Jvm.MethodName)) ∈ WT := WT_of (sub_tables_1_3 _ (List.mem_of_getElem? (i := 123) (by decide +kernel))) (by decide +kernel)
set_option maxRecDepth 20000 in
theorem t_734 : (Jvm.Cond.instanceMethod ({ cls := "MatchTrees$Reader", name := "isNewName", desc := "()Z" } : Jvm.MethodName)) ∈ WT := WT_of (sub_tables_1_3 _ (List.mem_of_getElem? (i := 125) (by decide +kernel))) (by decide +kernel)
set_option maxRecDepth 20000 in
theorem t_735 : (Jvm.Cond.code ({ cls := "MatchTrees$Reader", name := "isNewName", desc := "()Z" } : Jvm.MethodName) prog_8_method_11_code (2 : Nat) (Option.some Jvm.ClassFile.FieldType.boolean)) ∈ WT := WT_of (sub_tables_1_3 _ (List.mem_of_getElem? (i := 126) rfl)) (by decide +kernel)
set_option maxRecDepth 20000 in
theorem t_736 : (Jvm.Cond.methodLink "MatchTrees$Reader" (123 : Nat) ({ cls := "MatchTrees$Scanner", name := "isName", desc := "()Z" } : Jvm.MethodName)) ∈ WT := WT_of (sub_tables_1_3 _ (List.mem_of_getElem? (i := 127) (by decide +kernel))) (by decide +kernel)
set_option maxRecDepth 20000 in
theorem t_737 : (Jvm.Cond.instanceMethod ({ cls := "MatchTrees$Scanner", name := "isName", desc := "()Z" } : Jvm.MethodName)) ∈ WT := WT_of (sub_tables_1_3 _ (List.mem_of_getElem? (i := 128) (by decide +kernel))) (by decide +kernel)
set_option maxRecDepth 20000 in
theorem t_738 : (Jvm.Cond.selects "MatchTrees$Scanner" ({ cls := "MatchTrees$Scanner", name := "isName", desc := "()Z" } : Jvm.MethodName) ({ cls := "MatchTrees$Scanner", name := "isName", desc := "()Z" } : Jvm.MethodName)) ∈ WT := WT_of (sub_tables_1_3 _ (List.mem_of_getElem? (i := 129) (by decide +kernel))) (by decide +kernel)
set_option maxRecDepth 20000 in
theorem t_739 : (Jvm.Cond.code ({ cls := "MatchTrees$Scanner", name := "isName", desc := "()Z" } : Jvm.MethodName) prog_9_method_7_code (1 : Nat) (Option.some Jvm.ClassFile.FieldType.boolean)) ∈ WT := WT_of (sub_tables_1_3 _ (List.mem_of_getElem? (i := 130) rfl)) (by decide +kernel)
set_option maxRecDepth 20000 in
theorem t_740 : (Jvm.Cond.methodLink "MatchTrees$Reader" (126 : Nat) ({ cls := "MatchTrees$Kinds", name := "kindNamed", desc := "(I)I" } : Jvm.MethodName)) ∈ WT := WT_of (sub_tables_1_3 _ (List.mem_of_getElem? (i := 131) (by decide +kernel))) (by decide +kernel)
set_option maxRecDepth 20000 in
theorem t_741 : (Jvm.Cond.instanceMethod ({ cls := "MatchTrees$Kinds", name := "kindNamed", desc := "(I)I" } : Jvm.MethodName)) ∈ WT := WT_of (sub_tables_1_3 _ (List.mem_of_getElem? (i := 132) (by decide +kernel))) (by decide +kernel)
set_option maxRecDepth 20000 in
theorem t_742 : (Jvm.Cond.selects "MatchTrees$Kinds" ({ cls := "MatchTrees$Kinds", name := "kindNamed", desc := "(I)I" } : Jvm.MethodName) ({ cls := "MatchTrees$Kinds", name := "kindNamed", desc := "(I)I" } : Jvm.MethodName)) ∈ WT := WT_of (sub_tables_1_3 _ (List.mem_of_getElem? (i := 133) (by decide +kernel))) (by decide +kernel)
set_option maxRecDepth 20000 in
theorem t_743 : (Jvm.Cond.code ({ cls := "MatchTrees$Kinds", name := "kindNamed", desc := "(I)I" } : Jvm.MethodName) prog_5_method_7_code (3 : Nat) (Option.some Jvm.ClassFile.FieldType.int)) ∈ WT := WT_of (sub_tables_1_3 _ (List.mem_of_getElem? (i := 134) rfl)) (by decide +kernel)
set_option maxRecDepth 20000 in
theorem t_744 : (Jvm.Cond.methodLink "MatchTrees$Reader" (130 : Nat) ({ cls := "MatchTrees$Kinds", name := "conNamed", desc := "(I)I" } : Jvm.MethodName)) ∈ WT := WT_of (sub_tables_1_3 _ (List.mem_of_getElem? (i := 135) (by decide +kernel))) (by decide +kernel)
set_option maxRecDepth 20000 in
theorem t_745 : (Jvm.Cond.instanceMethod ({ cls := "MatchTrees$Kinds", name := "conNamed", desc := "(I)I" } : Jvm.MethodName)) ∈ WT := WT_of (sub_tables_1_3 _ (List.mem_of_getElem? (i := 136) (by decide +kernel))) (by decide +kernel)
set_option maxRecDepth 20000 in
theorem t_746 : (Jvm.Cond.selects "MatchTrees$Kinds" ({ cls := "MatchTrees$Kinds", name := "conNamed", desc := "(I)I" } : Jvm.MethodName) ({ cls := "MatchTrees$Kinds", name := "conNamed", desc := "(I)I" } : Jvm.MethodName)) ∈ WT := WT_of (sub_tables_1_3 _ (List.mem_of_getElem? (i := 137) (by decide +kernel))) (by decide +kernel)
set_option maxRecDepth 20000 in
theorem t_747 : (Jvm.Cond.code ({ cls := "MatchTrees$Kinds", name := "conNamed", desc := "(I)I" } : Jvm.MethodName) prog_5_method_8_code (3 : Nat) (Option.some Jvm.ClassFile.FieldType.int)) ∈ WT := WT_of (sub_tables_1_3 _ (List.mem_of_getElem? (i := 138) rfl)) (by decide +kernel)
set_option maxRecDepth 20000 in
theorem t_748 : (Jvm.Cond.methodLink "MatchTrees$Reader" (119 : Nat) ({ cls := "MatchTrees$Kinds", name := "addKind", desc := "(I)V" } : Jvm.MethodName)) ∈ WT := WT_of (sub_tables_1_3 _ (List.mem_of_getElem? (i := 139) (by decide +kernel))) (by decide +kernel)
set_option maxRecDepth 20000 in
theorem t_749 : (Jvm.Cond.instanceMethod ({ cls := "MatchTrees$Kinds", name := "addKind", desc := "(I)V" } : Jvm.MethodName)) ∈ WT := WT_of (sub_tables_1_3 _ (List.mem_of_getElem? (i := 140) (by decide +kernel))) (by decide +kernel)
set_option maxRecDepth 20000 in
theorem t_750 : (Jvm.Cond.selects "MatchTrees$Kinds" ({ cls := "MatchTrees$Kinds", name := "addKind", desc := "(I)V" } : Jvm.MethodName) ({ cls := "MatchTrees$Kinds", name := "addKind", desc := "(I)V" } : Jvm.MethodName)) ∈ WT := WT_of (sub_tables_1_3 _ (List.mem_of_getElem? (i := 141) (by decide +kernel))) (by decide +kernel)
set_option maxRecDepth 20000 in
theorem t_751 : (Jvm.Cond.code ({ cls := "MatchTrees$Kinds", name := "addKind", desc := "(I)V" } : Jvm.MethodName) prog_5_method_12_code (2 : Nat) (Option.none : Option Jvm.ClassFile.FieldType)) ∈ WT := WT_of (sub_tables_1_3 _ (List.mem_of_getElem? (i := 142) rfl)) (by decide +kernel)
set_option maxRecDepth 20000 in
theorem t_752 : (Jvm.Cond.methodLink "MatchTrees$Reader" (50 : Nat) ({ cls := "MatchTrees$Reader", name := "readCon", desc := "()Z" } : Jvm.MethodName)) ∈ WT := WT_of (sub_tables_1_3 _ (List.mem_of_getElem? (i := 143) (by decide +kernel))) (by decide +kernel)
set_option maxRecDepth 20000 in
theorem t_754 : (Jvm.Cond.instanceMethod ({ cls := "MatchTrees$Reader", name := "readCon", desc := "()Z" } : Jvm.MethodName)) ∈ WT := WT_of (sub_tables_1_3 _ (List.mem_of_getElem? (i := 145) (by decide +kernel))) (by decide +kernel)
set_option maxRecDepth 20000 in
theorem t_755 : (Jvm.Cond.code ({ cls := "MatchTrees$Reader", name := "readCon", desc := "()Z" } : Jvm.MethodName) prog_8_method_12_code (9 : Nat) (Option.some Jvm.ClassFile.FieldType.boolean)) ∈ WT := WT_of (sub_tables_1_3 _ (List.mem_of_getElem? (i := 146) rfl)) (by decide +kernel)
set_option maxRecDepth 20000 in
theorem t_756 : (Jvm.Cond.methodLink "MatchTrees$Reader" (133 : Nat) ({ cls := "MatchTrees$Kinds", name := "consOf", desc := "(I)I" } : Jvm.MethodName)) ∈ WT := WT_of (sub_tables_1_3 _ (List.mem_of_getElem? (i := 147) (by decide +kernel))) (by decide +kernel)
set_option maxRecDepth 20000 in
theorem t_757 : (Jvm.Cond.instanceMethod ({ cls := "MatchTrees$Kinds", name := "consOf", desc := "(I)I" } : Jvm.MethodName)) ∈ WT := WT_of (sub_tables_1_3 _ (List.mem_of_getElem? (i := 148) (by decide +kernel))) (by decide +kernel)
set_option maxRecDepth 20000 in
theorem t_758 : (Jvm.Cond.selects "MatchTrees$Kinds" ({ cls := "MatchTrees$Kinds", name := "consOf", desc := "(I)I" } : Jvm.MethodName) ({ cls := "MatchTrees$Kinds", name := "consOf", desc := "(I)I" } : Jvm.MethodName)) ∈ WT := WT_of (sub_tables_1_3 _ (List.mem_of_getElem? (i := 149) (by decide +kernel))) (by decide +kernel)
set_option maxRecDepth 20000 in
theorem t_759 : (Jvm.Cond.code ({ cls := "MatchTrees$Kinds", name := "consOf", desc := "(I)I" } : Jvm.MethodName) prog_5_method_6_code (2 : Nat) (Option.some Jvm.ClassFile.FieldType.int)) ∈ WT := WT_of (sub_tables_1_3 _ (List.mem_of_getElem? (i := 150) rfl)) (by decide +kernel)
set_option maxRecDepth 20000 in
theorem t_760 : (Jvm.Cond.methodLink "MatchTrees$Kinds" (46 : Nat) ({ cls := "MatchTrees$Kinds", name := "isKind", desc := "(I)Z" } : Jvm.MethodName)) ∈ WT := WT_of (sub_tables_1_3 _ (List.mem_of_getElem? (i := 151) (by decide +kernel))) (by decide +kernel)
set_option maxRecDepth 20000 in
theorem t_761 : (Jvm.Cond.instanceMethod ({ cls := "MatchTrees$Kinds", name := "isKind", desc := "(I)Z" } : Jvm.MethodName)) ∈ WT := WT_of (sub_tables_1_3 _ (List.mem_of_getElem? (i := 152) (by decide +kernel))) (by decide +kernel)
set_option maxRecDepth 20000 in
theorem t_762 : (Jvm.Cond.selects "MatchTrees$Kinds" ({ cls := "MatchTrees$Kinds", name := "isKind", desc := "(I)Z" } : Jvm.MethodName) ({ cls := "MatchTrees$Kinds", name := "isKind", desc := "(I)Z" } : Jvm.MethodName)) ∈ WT := WT_of (sub_tables_1_3 _ (List.mem_of_getElem? (i := 153) (by decide +kernel))) (by decide +kernel)
set_option maxRecDepth 20000 in
theorem t_763 : (Jvm.Cond.code ({ cls := "MatchTrees$Kinds", name := "isKind", desc := "(I)Z" } : Jvm.MethodName) prog_5_method_3_code (2 : Nat) (Option.some Jvm.ClassFile.FieldType.boolean)) ∈ WT := WT_of (sub_tables_1_3 _ (List.mem_of_getElem? (i := 154) rfl)) (by decide +kernel)
set_option maxRecDepth 20000 in
theorem t_764 : (Jvm.Cond.methodLink "MatchTrees$Reader" (136 : Nat) ({ cls := "MatchTrees$Reader", name := "isKindWord", desc := "()Z" } : Jvm.MethodName)) ∈ WT := WT_of (sub_tables_1_3 _ (List.mem_of_getElem? (i := 155) (by decide +kernel))) (by decide +kernel)
set_option maxRecDepth 20000 in
theorem t_766 : (Jvm.Cond.instanceMethod ({ cls := "MatchTrees$Reader", name := "isKindWord", desc := "()Z" } : Jvm.MethodName)) ∈ WT := WT_of (sub_tables_1_3 _ (List.mem_of_getElem? (i := 157) (by decide +kernel))) (by decide +kernel)
set_option maxRecDepth 20000 in
theorem t_767 : (Jvm.Cond.code ({ cls := "MatchTrees$Reader", name := "isKindWord", desc := "()Z" } : Jvm.MethodName) prog_8_method_13_code (1 : Nat) (Option.some Jvm.ClassFile.FieldType.boolean)) ∈ WT := WT_of (sub_tables_1_3 _ (List.mem_of_getElem? (i := 158) rfl)) (by decide +kernel)
set_option maxRecDepth 20000 in
theorem t_768 : (Jvm.Cond.methodLink "MatchTrees$Reader" (139 : Nat) ({ cls := "MatchTrees$Reader", name := "isKindHere", desc := "(I)Z" } : Jvm.MethodName)) ∈ WT := WT_of (sub_tables_1_3 _ (List.mem_of_getElem? (i := 159) (by decide +kernel))) (by decide +kernel)
set_option maxRecDepth 20000 in
theorem t_770 : (Jvm.Cond.instanceMethod ({ cls := "MatchTrees$Reader", name := "isKindHere", desc := "(I)Z" } : Jvm.MethodName)) ∈ WT := WT_of (sub_tables_1_3 _ (List.mem_of_getElem? (i := 161) (by decide +kernel))) (by decide +kernel)
end
end
section
set_option maxRecDepth 20000 in
theorem t_771 : (Jvm.Cond.code ({ cls := "MatchTrees$Reader", name := "isKindHere", desc := "(I)Z" } : Jvm.MethodName) prog_8_method_15_code (3 : Nat) (Option.some Jvm.ClassFile.FieldType.boolean)) ∈ WT := WT_of (sub_tables_1_3 _ (List.mem_of_getElem? (i := 162) rfl)) (by decide +kernel)
set_option maxRecDepth 20000 in
theorem t_772 : (Jvm.Cond.methodLink "MatchTrees$Reader" (142 : Nat) ({ cls := "MatchTrees$Reader", name := "kindHere", desc := "()I" } : Jvm.MethodName)) ∈ WT := WT_of (sub_tables_1_3 _ (List.mem_of_getElem? (i := 163) (by decide +kernel))) (by decide +kernel)
set_option maxRecDepth 20000 in
theorem t_774 : (Jvm.Cond.instanceMethod ({ cls := "MatchTrees$Reader", name := "kindHere", desc := "()I" } : Jvm.MethodName)) ∈ WT := WT_of (sub_tables_1_3 _ (List.mem_of_getElem? (i := 165) (by decide +kernel))) (by decide +kernel)
set_option maxRecDepth 20000 in
theorem t_775 : (Jvm.Cond.code ({ cls := "MatchTrees$Reader", name := "kindHere", desc := "()I" } : Jvm.MethodName) prog_8_method_14_code (1 : Nat) (Option.some Jvm.ClassFile.FieldType.int)) ∈ WT := WT_of (sub_tables_1_3 _ (List.mem_of_getElem? (i := 166) rfl)) (by decide +kernel)
set_option maxRecDepth 20000 in
theorem t_776 : (Jvm.Cond.methodLink "MatchTrees$Reader" (146 : Nat) ({ cls := "MatchTrees$Kinds", name := "sizeOf", desc := "(I)I" } : Jvm.MethodName)) ∈ WT := WT_of (sub_tables_1_3 _ (List.mem_of_getElem? (i := 167) (by decide +kernel))) (by decide +kernel)
set_option maxRecDepth 20000 in
theorem t_777 : (Jvm.Cond.instanceMethod ({ cls := "MatchTrees$Kinds", name := "sizeOf", desc := "(I)I" } : Jvm.MethodName)) ∈ WT := WT_of (sub_tables_1_3 _ (List.mem_of_getElem? (i := 168) (by decide +kernel))) (by decide +kernel)
set_option maxRecDepth 20000 in
theorem t_778 : (Jvm.Cond.selects "MatchTrees$Kinds" ({ cls := "MatchTrees$Kinds", name := "sizeOf", desc := "(I)I" } : Jvm.MethodName) ({ cls := "MatchTrees$Kinds", name := "sizeOf", desc := "(I)I" } : Jvm.MethodName)) ∈ WT := WT_of (sub_tables_1_3 _ (List.mem_of_getElem? (i := 169) (by decide +kernel))) (by decide +kernel)
set_option maxRecDepth 20000 in
theorem t_779 : (Jvm.Cond.code ({ cls := "MatchTrees$Kinds", name := "sizeOf", desc := "(I)I" } : Jvm.MethodName) prog_5_method_5_code (2 : Nat) (Option.some Jvm.ClassFile.FieldType.int)) ∈ WT := WT_of (sub_tables_1_3 _ (List.mem_of_getElem? (i := 170) rfl)) (by decide +kernel)
set_option maxRecDepth 20000 in
theorem t_780 : (Jvm.Cond.methodLink "MatchTrees$Reader" (149 : Nat) ({ cls := "MatchTrees$Kinds", name := "addCon", desc := "(IIIII)V" } : Jvm.MethodName)) ∈ WT := WT_of (sub_tables_1_3 _ (List.mem_of_getElem? (i := 171) (by decide +kernel))) (by decide +kernel)
set_option maxRecDepth 20000 in
theorem t_781 : (Jvm.Cond.instanceMethod ({ cls := "MatchTrees$Kinds", name := "addCon", desc := "(IIIII)V" } : Jvm.MethodName)) ∈ WT := WT_of (sub_tables_1_3 _ (List.mem_of_getElem? (i := 172) (by decide +kernel))) (by decide +kernel)
set_option maxRecDepth 20000 in
theorem t_782 : (Jvm.Cond.selects "MatchTrees$Kinds" ({ cls := "MatchTrees$Kinds", name := "addCon", desc := "(IIIII)V" } : Jvm.MethodName) ({ cls := "MatchTrees$Kinds", name := "addCon", desc := "(IIIII)V" } : Jvm.MethodName)) ∈ WT := WT_of (sub_tables_1_3 _ (List.mem_of_getElem? (i := 173) (by decide +kernel))) (by decide +kernel)
set_option maxRecDepth 20000 in
theorem t_783 : (Jvm.Cond.code ({ cls := "MatchTrees$Kinds", name := "addCon", desc := "(IIIII)V" } : Jvm.MethodName) prog_5_method_13_code (7 : Nat) (Option.none : Option Jvm.ClassFile.FieldType)) ∈ WT := WT_of (sub_tables_1_3 _ (List.mem_of_getElem? (i := 174) rfl)) (by decide +kernel)
set_option maxRecDepth 20000 in
theorem t_784 : (Jvm.Cond.methodLink "MatchTrees$Reader" (53 : Nat) ({ cls := "MatchTrees$Reader", name := "readColumns", desc := "()Z" } : Jvm.MethodName)) ∈ WT := WT_of (sub_tables_1_3 _ (List.mem_of_getElem? (i := 175) (by decide +kernel))) (by decide +kernel)
set_option maxRecDepth 20000 in
theorem t_786 : (Jvm.Cond.instanceMethod ({ cls := "MatchTrees$Reader", name := "readColumns", desc := "()Z" } : Jvm.MethodName)) ∈ WT := WT_of (sub_tables_1_3 _ (List.mem_of_getElem? (i := 177) (by decide +kernel))) (by decide +kernel)
set_option maxRecDepth 20000 in
theorem t_787 : (Jvm.Cond.code ({ cls := "MatchTrees$Reader", name := "readColumns", desc := "()Z" } : Jvm.MethodName) prog_8_method_16_code (4 : Nat) (Option.some Jvm.ClassFile.FieldType.boolean)) ∈ WT := WT_of (sub_tables_1_3 _ (List.mem_of_getElem? (i := 178) rfl)) (by decide +kernel)
set_option maxRecDepth 20000 in
theorem t_788 : (Jvm.Cond.methodLink "MatchTrees$Reader" (153 : Nat) ({ cls := "MatchTrees$Table", name := "addColumn", desc := "(I)V" } : Jvm.MethodName)) ∈ WT := WT_of (sub_tables_1_3 _ (List.mem_of_getElem? (i := 179) (by decide +kernel))) (by decide +kernel)
set_option maxRecDepth 20000 in
theorem t_789 : (Jvm.Cond.instanceMethod ({ cls := "MatchTrees$Table", name := "addColumn", desc := "(I)V" } : Jvm.MethodName)) ∈ WT := WT_of (sub_tables_1_3 _ (List.mem_of_getElem? (i := 180) (by decide +kernel))) (by decide +kernel)
set_option maxRecDepth 20000 in
theorem t_790 : (Jvm.Cond.selects "MatchTrees$Table" ({ cls := "MatchTrees$Table", name := "addColumn", desc := "(I)V" } : Jvm.MethodName) ({ cls := "MatchTrees$Table", name := "addColumn", desc := "(I)V" } : Jvm.MethodName)) ∈ WT := WT_of (sub_tables_1_3 _ (List.mem_of_getElem? (i := 181) (by decide +kernel))) (by decide +kernel)
set_option maxRecDepth 20000 in
theorem t_791 : (Jvm.Cond.code ({ cls := "MatchTrees$Table", name := "addColumn", desc := "(I)V" } : Jvm.MethodName) prog_11_method_3_code (4 : Nat) (Option.none : Option Jvm.ClassFile.FieldType)) ∈ WT := WT_of (sub_tables_1_3 _ (List.mem_of_getElem? (i := 182) rfl)) (by decide +kernel)
set_option maxRecDepth 20000 in
theorem t_792 : (Jvm.Cond.methodLink "MatchTrees$Table" (55 : Nat) ({ cls := "MatchTrees$Kinds", name := "sizeOf", desc := "(I)I" } : Jvm.MethodName)) ∈ WT := WT_of (sub_tables_1_3 _ (List.mem_of_getElem? (i := 183) (by decide +kernel))) (by decide +kernel)
set_option maxRecDepth 20000 in
theorem t_793 : (Jvm.Cond.methodLink "MatchTrees$Reader" (56 : Nat) ({ cls := "MatchTrees$Reader", name := "readArm", desc := "()Z" } : Jvm.MethodName)) ∈ WT := WT_of (sub_tables_1_3 _ (List.mem_of_getElem? (i := 184) (by decide +kernel))) (by decide +kernel)
set_option maxRecDepth 20000 in
theorem t_795 : (Jvm.Cond.instanceMethod ({ cls := "MatchTrees$Reader", name := "readArm", desc := "()Z" } : Jvm.MethodName)) ∈ WT := WT_of (sub_tables_1_3 _ (List.mem_of_getElem? (i := 186) (by decide +kernel))) (by decide +kernel)
set_option maxRecDepth 20000 in
theorem t_796 : (Jvm.Cond.code ({ cls := "MatchTrees$Reader", name := "readArm", desc := "()Z" } : Jvm.MethodName) prog_8_method_17_code (2 : Nat) (Option.some Jvm.ClassFile.FieldType.boolean)) ∈ WT := WT_of (sub_tables_1_3 _ (List.mem_of_getElem? (i := 187) rfl)) (by decide +kernel)
set_option maxRecDepth 20000 in
theorem t_797 : (Jvm.Cond.methodLink "MatchTrees$Reader" (68 : Nat) ({ cls := "MatchTrees$Reader", name := "readSign", desc := "(I)Z" } : Jvm.MethodName)) ∈ WT := WT_of (sub_tables_1_3 _ (List.mem_of_getElem? (i := 188) (by decide +kernel))) (by decide +kernel)
set_option maxRecDepth 20000 in
theorem t_799 : (Jvm.Cond.instanceMethod ({ cls := "MatchTrees$Reader", name := "readSign", desc := "(I)Z" } : Jvm.MethodName)) ∈ WT := WT_of (sub_tables_1_3 _ (List.mem_of_getElem? (i := 190) (by decide +kernel))) (by decide +kernel)
set_option maxRecDepth 20000 in
theorem t_800 : (Jvm.Cond.code ({ cls := "MatchTrees$Reader", name := "readSign", desc := "(I)Z" } : Jvm.MethodName) prog_8_method_6_code (2 : Nat) (Option.some Jvm.ClassFile.FieldType.boolean)) ∈ WT := WT_of (sub_tables_1_3 _ (List.mem_of_getElem? (i := 191) rfl)) (by decide +kernel)
set_option maxRecDepth 20000 in
theorem t_801 : (Jvm.Cond.methodLink "MatchTrees$Reader" (89 : Nat) ({ cls := "MatchTrees$Scanner", name := "isSign", desc := "(I)Z" } : Jvm.MethodName)) ∈ WT := WT_of (sub_tables_1_3 _ (List.mem_of_getElem? (i := 192) (by decide +kernel))) (by decide +kernel)
set_option maxRecDepth 20000 in
theorem t_802 : (Jvm.Cond.instanceMethod ({ cls := "MatchTrees$Scanner", name := "isSign", desc := "(I)Z" } : Jvm.MethodName)) ∈ WT := WT_of (sub_tables_1_3 _ (List.mem_of_getElem? (i := 193) (by decide +kernel))) (by decide +kernel)
set_option maxRecDepth 20000 in
theorem t_803 : (Jvm.Cond.selects "MatchTrees$Scanner" ({ cls := "MatchTrees$Scanner", name := "isSign", desc := "(I)Z" } : Jvm.MethodName) ({ cls := "MatchTrees$Scanner", name := "isSign", desc := "(I)Z" } : Jvm.MethodName)) ∈ WT := WT_of (sub_tables_1_3 _ (List.mem_of_getElem? (i := 194) (by decide +kernel))) (by decide +kernel)
set_option maxRecDepth 20000 in
theorem t_804 : (Jvm.Cond.code ({ cls := "MatchTrees$Scanner", name := "isSign", desc := "(I)Z" } : Jvm.MethodName) prog_9_method_8_code (2 : Nat) (Option.some Jvm.ClassFile.FieldType.boolean)) ∈ WT := WT_of (sub_tables_1_3 _ (List.mem_of_getElem? (i := 195) rfl)) (by decide +kernel)
set_option maxRecDepth 20000 in
theorem t_805 : (Jvm.Cond.methodLink "MatchTrees$Reader" (163 : Nat) ({ cls := "MatchTrees$Reader", name := "readPattern", desc := "(LMatchTrees$Reader;III)Z" } : Jvm.MethodName)) ∈ WT := WT_of (sub_tables_1_3 _ (List.mem_of_getElem? (i := 196) (by decide +kernel))) (by decide +kernel)
set_option maxRecDepth 20000 in
theorem t_806 : (Jvm.Cond.static ({ cls := "MatchTrees$Reader", name := "readPattern", desc := "(LMatchTrees$Reader;III)Z" } : Jvm.MethodName)) ∈ WT := WT_of (sub_tables_1_3 _ (List.mem_of_getElem? (i := 197) (by decide +kernel))) (by decide +kernel)
set_option maxRecDepth 20000 in
theorem t_807 : (Jvm.Cond.code ({ cls := "MatchTrees$Reader", name := "readPattern", desc := "(LMatchTrees$Reader;III)Z" } : Jvm.MethodName) prog_8_method_18_code (6 : Nat) (Option.some Jvm.ClassFile.FieldType.boolean)) ∈ WT := WT_of (sub_tables_1_3 _ (List.mem_of_getElem? (i := 198) rfl)) (by decide +kernel)
set_option maxRecDepth 20000 in
theorem t_808 : (Jvm.Cond.methodLink "MatchTrees$Reader" (174 : Nat) ({ cls := "MatchTrees$Reader", name := "fill", desc := "([IIII)V" } : Jvm.MethodName)) ∈ WT := WT_of (sub_tables_1_3 _ (List.mem_of_getElem? (i := 199) (by decide +kernel))) (by decide +kernel)
set_option maxRecDepth 20000 in
theorem t_809 : (Jvm.Cond.static ({ cls := "MatchTrees$Reader", name := "fill", desc := "([IIII)V" } : Jvm.MethodName)) ∈ WT := WT_of (sub_tables_1_3 _ (List.mem_of_getElem? (i := 200) (by decide +kernel))) (by decide +kernel)
set_option maxRecDepth 20000 in
theorem t_810 : (Jvm.Cond.code ({ cls := "MatchTrees$Reader", name := "fill", desc := "([IIII)V" } : Jvm.MethodName) prog_8_method_23_code (5 : Nat) (Option.none : Option Jvm.ClassFile.FieldType)) ∈ WT := WT_of (sub_tables_1_3 _ (List.mem_of_getElem? (i := 201) rfl)) (by decide +kernel)
set_option maxRecDepth 20000 in
theorem t_811 : (Jvm.Cond.methodLink "MatchTrees$Reader" (209 : Nat) ({ cls := "java/lang/Math", name := "max", desc := "(II)I" } : Jvm.MethodName)) ∈ WT := WT_of (sub_tables_1_3 _ (List.mem_of_getElem? (i := 202) (by decide +kernel))) (by decide +kernel)
set_option maxRecDepth 20000 in
theorem t_812 : (Jvm.Cond.methodLink "MatchTrees$Reader" (178 : Nat) ({ cls := "MatchTrees$Reader", name := "readRange", desc := "(I)Z" } : Jvm.MethodName)) ∈ WT := WT_of (sub_tables_1_3 _ (List.mem_of_getElem? (i := 203) (by decide +kernel))) (by decide +kernel)
set_option maxRecDepth 20000 in
theorem t_814 : (Jvm.Cond.instanceMethod ({ cls := "MatchTrees$Reader", name := "readRange", desc := "(I)Z" } : Jvm.MethodName)) ∈ WT := WT_of (sub_tables_1_3 _ (List.mem_of_getElem? (i := 205) (by decide +kernel))) (by decide +kernel)
set_option maxRecDepth 20000 in
theorem t_815 : (Jvm.Cond.code ({ cls := "MatchTrees$Reader", name := "readRange", desc := "(I)Z" } : Jvm.MethodName) prog_8_method_19_code (4 : Nat) (Option.some Jvm.ClassFile.FieldType.boolean)) ∈ WT := WT_of (sub_tables_1_3 _ (List.mem_of_getElem? (i := 206) rfl)) (by decide +kernel)
set_option maxRecDepth 20000 in
theorem t_816 : (Jvm.Cond.methodLink "MatchTrees$Reader" (98 : Nat) ({ cls := "MatchTrees$Reader", name := "readNumber", desc := "(II)I" } : Jvm.MethodName)) ∈ WT := WT_of (sub_tables_1_3 _ (List.mem_of_getElem? (i := 207) (by decide +kernel))) (by decide +kernel)
set_option maxRecDepth 20000 in
theorem t_818 : (Jvm.Cond.instanceMethod ({ cls := "MatchTrees$Reader", name := "readNumber", desc := "(II)I" } : Jvm.MethodName)) ∈ WT := WT_of (sub_tables_1_3 _ (List.mem_of_getElem? (i := 209) (by decide +kernel))) (by decide +kernel)
set_option maxRecDepth 20000 in
theorem t_819 : (Jvm.Cond.code ({ cls := "MatchTrees$Reader", name := "readNumber", desc := "(II)I" } : Jvm.MethodName) prog_8_method_7_code (4 : Nat) (Option.some Jvm.ClassFile.FieldType.int)) ∈ WT := WT_of (sub_tables_1_3 _ (List.mem_of_getElem? (i := 210) rfl)) (by decide +kernel)
set_option maxRecDepth 20000 in
theorem t_820 : (Jvm.Cond.methodLink "MatchTrees$Reader" (181 : Nat) ({ cls := "MatchTrees$Reader", name := "readCase", desc := "(LMatchTrees$Reader;III)Z" } : Jvm.MethodName)) ∈ WT := WT_of (sub_tables_1_3 _ (List.mem_of_getElem? (i := 211) (by decide +kernel))) (by decide +kernel)
set_option maxRecDepth 20000 in
theorem t_821 : (Jvm.Cond.static ({ cls := "MatchTrees$Reader", name := "readCase", desc := "(LMatchTrees$Reader;III)Z" } : Jvm.MethodName)) ∈ WT := WT_of (sub_tables_1_3 _ (List.mem_of_getElem? (i := 212) (by decide +kernel))) (by decide +kernel)
set_option maxRecDepth 20000 in
theorem t_822 : (Jvm.Cond.code ({ cls := "MatchTrees$Reader", name := "readCase", desc := "(LMatchTrees$Reader;III)Z" } : Jvm.MethodName) prog_8_method_20_code (7 : Nat) (Option.some Jvm.ClassFile.FieldType.boolean)) ∈ WT := WT_of (sub_tables_1_3 _ (List.mem_of_getElem? (i := 213) rfl)) (by decide +kernel)
set_option maxRecDepth 20000 in
theorem t_823 : (Jvm.Cond.methodLink "MatchTrees$Reader" (184 : Nat) ({ cls := "MatchTrees$Reader", name := "readConName", desc := "(I)I" } : Jvm.MethodName)) ∈ WT := WT_of (sub_tables_1_3 _ (List.mem_of_getElem? (i := 214) (by decide +kernel))) (by decide +kernel)
set_option maxRecDepth 20000 in
theorem t_825 : (Jvm.Cond.instanceMethod ({ cls := "MatchTrees$Reader", name := "readConName", desc := "(I)I" } : Jvm.MethodName)) ∈ WT := WT_of (sub_tables_1_3 _ (List.mem_of_getElem? (i := 216) (by decide +kernel))) (by decide +kernel)
set_option maxRecDepth 20000 in
theorem t_826 : (Jvm.Cond.code ({ cls := "MatchTrees$Reader", name := "readConName", desc := "(I)I" } : Jvm.MethodName) prog_8_method_21_code (3 : Nat) (Option.some Jvm.ClassFile.FieldType.int)) ∈ WT := WT_of (sub_tables_1_3 _ (List.mem_of_getElem? (i := 217) rfl)) (by decide +kernel)
set_option maxRecDepth 20000 in
theorem t_827 : (Jvm.Cond.methodLink "MatchTrees$Reader" (203 : Nat) ({ cls := "MatchTrees$Kinds", name := "conNamedOf", desc := "(II)I" } : Jvm.MethodName)) ∈ WT := WT_of (sub_tables_1_3 _ (List.mem_of_getElem? (i := 218) (by decide +kernel))) (by decide +kernel)
set_option maxRecDepth 20000 in
theorem t_828 : (Jvm.Cond.instanceMethod ({ cls := "MatchTrees$Kinds", name := "conNamedOf", desc := "(II)I" } : Jvm.MethodName)) ∈ WT := WT_of (sub_tables_1_3 _ (List.mem_of_getElem? (i := 219) (by decide +kernel))) (by decide +kernel)
set_option maxRecDepth 20000 in
theorem t_829 : (Jvm.Cond.selects "MatchTrees$Kinds" ({ cls := "MatchTrees$Kinds", name := "conNamedOf", desc := "(II)I" } : Jvm.MethodName) ({ cls := "MatchTrees$Kinds", name := "conNamedOf", desc := "(II)I" } : Jvm.MethodName)) ∈ WT := WT_of (sub_tables_1_3 _ (List.mem_of_getElem? (i := 220) (by decide +kernel))) (by decide +kernel)
set_option maxRecDepth 20000 in
theorem t_830 : (Jvm.Cond.code ({ cls := "MatchTrees$Kinds", name := "conNamedOf", desc := "(II)I" } : Jvm.MethodName) prog_5_method_9_code (5 : Nat) (Option.some Jvm.ClassFile.FieldType.int)) ∈ WT := WT_of (sub_tables_1_3 _ (List.mem_of_getElem? (i := 221) rfl)) (by decide +kernel)
set_option maxRecDepth 20000 in
theorem t_831 : (Jvm.Cond.methodLink "MatchTrees$Kinds" (50 : Nat) ({ cls := "MatchTrees$Kinds", name := "conNamed", desc := "(I)I" } : Jvm.MethodName)) ∈ WT := WT_of (sub_tables_1_3 _ (List.mem_of_getElem? (i := 222) (by decide +kernel))) (by decide +kernel)
set_option maxRecDepth 20000 in
theorem t_832 : (Jvm.Cond.methodLink "MatchTrees$Reader" (199 : Nat) ({ cls := "MatchTrees$Reader", name := "fillCase", desc := "(III)V" } : Jvm.MethodName)) ∈ WT := WT_of (sub_tables_1_3 _ (List.mem_of_getElem? (i := 223) (by decide +kernel))) (by decide +kernel)
set_option maxRecDepth 20000 in
theorem t_834 : (Jvm.Cond.instanceMethod ({ cls := "MatchTrees$Reader", name := "fillCase", desc := "(III)V" } : Jvm.MethodName)) ∈ WT := WT_of (sub_tables_1_3 _ (List.mem_of_getElem? (i := 225) (by decide +kernel))) (by decide +kernel)
set_option maxRecDepth 20000 in
theorem t_835 : (Jvm.Cond.code ({ cls := "MatchTrees$Reader", name := "fillCase", desc := "(III)V" } : Jvm.MethodName) prog_8_method_22_code (11 : Nat) (Option.none : Option Jvm.ClassFile.FieldType)) ∈ WT := WT_of (sub_tables_1_3 _ (List.mem_of_getElem? (i := 226) rfl)) (by decide +kernel)
set_option maxRecDepth 20000 in
theorem t_836 : (Jvm.Cond.methodLink "MatchTrees$Reader" (206 : Nat) ({ cls := "MatchTrees$Kinds", name := "secondSize", desc := "(I)I" } : Jvm.MethodName)) ∈ WT := WT_of (sub_tables_1_3 _ (List.mem_of_getElem? (i := 227) (by decide +kernel))) (by decide +kernel)
set_option maxRecDepth 20000 in
theorem t_837 : (Jvm.Cond.instanceMethod ({ cls := "MatchTrees$Kinds", name := "secondSize", desc := "(I)I" } : Jvm.MethodName)) ∈ WT := WT_of (sub_tables_1_3 _ (List.mem_of_getElem? (i := 228) (by decide +kernel))) (by decide +kernel)
set_option maxRecDepth 20000 in
theorem t_838 : (Jvm.Cond.selects "MatchTrees$Kinds" ({ cls := "MatchTrees$Kinds", name := "secondSize", desc := "(I)I" } : Jvm.MethodName) ({ cls := "MatchTrees$Kinds", name := "secondSize", desc := "(I)I" } : Jvm.MethodName)) ∈ WT := WT_of (sub_tables_1_3 _ (List.mem_of_getElem? (i := 229) (by decide +kernel))) (by decide +kernel)
set_option maxRecDepth 20000 in
theorem t_839 : (Jvm.Cond.code ({ cls := "MatchTrees$Kinds", name := "secondSize", desc := "(I)I" } : Jvm.MethodName) prog_5_method_11_code (2 : Nat) (Option.some Jvm.ClassFile.FieldType.int)) ∈ WT := WT_of (sub_tables_1_3 _ (List.mem_of_getElem? (i := 230) rfl)) (by decide +kernel)
set_option maxRecDepth 20000 in
theorem t_840 : (Jvm.Cond.methodLink "MatchTrees$Kinds" (54 : Nat) ({ cls := "MatchTrees$Kinds", name := "isCon", desc := "(I)Z" } : Jvm.MethodName)) ∈ WT := WT_of (sub_tables_1_3 _ (List.mem_of_getElem? (i := 231) (by decide +kernel))) (by decide +kernel)
set_option maxRecDepth 20000 in
theorem t_841 : (Jvm.Cond.instanceMethod ({ cls := "MatchTrees$Kinds", name := "isCon", desc := "(I)Z" } : Jvm.MethodName)) ∈ WT := WT_of (sub_tables_1_3 _ (List.mem_of_getElem? (i := 232) (by decide +kernel))) (by decide +kernel)
set_option maxRecDepth 20000 in
theorem t_842 : (Jvm.Cond.selects "MatchTrees$Kinds" ({ cls := "MatchTrees$Kinds", name := "isCon", desc := "(I)Z" } : Jvm.MethodName) ({ cls := "MatchTrees$Kinds", name := "isCon", desc := "(I)Z" } : Jvm.MethodName)) ∈ WT := WT_of (sub_tables_1_3 _ (List.mem_of_getElem? (i := 233) (by decide +kernel))) (by decide +kernel)
set_option maxRecDepth 20000 in
theorem t_843 : (Jvm.Cond.code ({ cls := "MatchTrees$Kinds", name := "isCon", desc := "(I)Z" } : Jvm.MethodName) prog_5_method_4_code (2 : Nat) (Option.some Jvm.ClassFile.FieldType.boolean)) ∈ WT := WT_of (sub_tables_1_3 _ (List.mem_of_getElem? (i := 234) rfl)) (by decide +kernel)
set_option maxRecDepth 20000 in
theorem t_844 : (Jvm.Cond.methodLink "MatchTrees$Kinds" (57 : Nat) ({ cls := "MatchTrees$Kinds", name := "sizeOf", desc := "(I)I" } : Jvm.MethodName)) ∈ WT := WT_of (sub_tables_1_3 _ (List.mem_of_getElem? (i := 235) (by decide +kernel))) (by decide +kernel)
set_option maxRecDepth 20000 in
theorem t_845 : (Jvm.Cond.methodLink "MatchTrees$Reader" (167 : Nat) ({ cls := "MatchTrees$Table", name := "setPattern", desc := "(I[I)V" } : Jvm.MethodName)) ∈ WT := WT_of (sub_tables_1_3 _ (List.mem_of_getElem? (i := 236) (by decide +kernel))) (by decide +kernel)
set_option maxRecDepth 20000 in
theorem t_846 : (Jvm.Cond.instanceMethod ({ cls := "MatchTrees$Table", name := "setPattern", desc := "(I[I)V" } : Jvm.MethodName)) ∈ WT := WT_of (sub_tables_1_3 _ (List.mem_of_getElem? (i := 237) (by decide +kernel))) (by decide +kernel)
set_option maxRecDepth 20000 in
theorem t_847 : (Jvm.Cond.selects "MatchTrees$Table" ({ cls := "MatchTrees$Table", name := "setPattern", desc := "(I[I)V" } : Jvm.MethodName) ({ cls := "MatchTrees$Table", name := "setPattern", desc := "(I[I)V" } : Jvm.MethodName)) ∈ WT := WT_of (sub_tables_1_3 _ (List.mem_of_getElem? (i := 238) (by decide +kernel))) (by decide +kernel)
set_option maxRecDepth 20000 in
theorem t_848 : (Jvm.Cond.code ({ cls := "MatchTrees$Table", name := "setPattern", desc := "(I[I)V" } : Jvm.MethodName) prog_11_method_4_code (6 : Nat) (Option.none : Option Jvm.ClassFile.FieldType)) ∈ WT := WT_of (sub_tables_1_3 _ (List.mem_of_getElem? (i := 239) rfl)) (by decide +kernel)
set_option maxRecDepth 20000 in
theorem t_849 : (Jvm.Cond.methodLink "MatchTrees$Reader" (171 : Nat) ({ cls := "MatchTrees$Table", name := "addArm", desc := "(I)V" } : Jvm.MethodName)) ∈ WT := WT_of (sub_tables_1_4 _ (List.mem_of_getElem? (i := 0) (by decide +kernel))) (by decide +kernel)
set_option maxRecDepth 20000 in
theorem t_850 : (Jvm.Cond.instanceMethod ({ cls := "MatchTrees$Table", name := "addArm", desc := "(I)V" } : Jvm.MethodName)) ∈ WT := WT_of (sub_tables_1_4 _ (List.mem_of_getElem? (i := 1) (by decide +kernel))) (by decide +kernel)
set_option maxRecDepth 20000 in
theorem t_851 : (Jvm.Cond.selects "MatchTrees$Table" ({ cls := "MatchTrees$Table", name := "addArm", desc := "(I)V" } : Jvm.MethodName) ({ cls := "MatchTrees$Table", name := "addArm", desc := "(I)V" } : Jvm.MethodName)) ∈ WT := WT_of (sub_tables_1_4 _ (List.mem_of_getElem? (i := 2) (by decide +kernel))) (by decide +kernel)
set_option maxRecDepth 20000 in
theorem t_852 : (Jvm.Cond.code ({ cls := "MatchTrees$Table", name := "addArm", desc := "(I)V" } : Jvm.MethodName) prog_11_method_5_code (2 : Nat) (Option.none : Option Jvm.ClassFile.FieldType)) ∈ WT := WT_of (sub_tables_1_4 _ (List.mem_of_getElem? (i := 3) rfl)) (by decide +kernel)
set_option maxRecDepth 20000 in
theorem t_853 : (Jvm.Cond.methodLink "MatchTrees$Reader" (59 : Nat) ({ cls := "MatchTrees$Reader", name := "readRule", desc := "()Z" } : Jvm.MethodName)) ∈ WT := WT_of (sub_tables_1_4 _ (List.mem_of_getElem? (i := 4) (by decide +kernel))) (by decide +kernel)
set_option maxRecDepth 20000 in
theorem t_855 : (Jvm.Cond.instanceMethod ({ cls := "MatchTrees$Reader", name := "readRule", desc := "()Z" } : Jvm.MethodName)) ∈ WT := WT_of (sub_tables_1_4 _ (List.mem_of_getElem? (i := 6) (by decide +kernel))) (by decide +kernel)
set_option maxRecDepth 20000 in
theorem t_856 : (Jvm.Cond.code ({ cls := "MatchTrees$Reader", name := "readRule", desc := "()Z" } : Jvm.MethodName) prog_8_method_8_code (1 : Nat) (Option.some Jvm.ClassFile.FieldType.boolean)) ∈ WT := WT_of (sub_tables_1_4 _ (List.mem_of_getElem? (i := 7) rfl)) (by decide +kernel)
set_option maxRecDepth 20000 in
theorem t_857 : (Jvm.Cond.methodLink "MatchTrees$Reader" (62 : Nat) ({ cls := "MatchTrees$Reader", name := "readBudget", desc := "()Z" } : Jvm.MethodName)) ∈ WT := WT_of (sub_tables_1_4 _ (List.mem_of_getElem? (i := 8) (by decide +kernel))) (by decide +kernel)
set_option maxRecDepth 20000 in
theorem t_859 : (Jvm.Cond.instanceMethod ({ cls := "MatchTrees$Reader", name := "readBudget", desc := "()Z" } : Jvm.MethodName)) ∈ WT := WT_of (sub_tables_1_4 _ (List.mem_of_getElem? (i := 10) (by decide +kernel))) (by decide +kernel)
set_option maxRecDepth 20000 in
theorem t_860 : (Jvm.Cond.code ({ cls := "MatchTrees$Reader", name := "readBudget", desc := "()Z" } : Jvm.MethodName) prog_8_method_9_code (1 : Nat) (Option.some Jvm.ClassFile.FieldType.boolean)) ∈ WT := WT_of (sub_tables_1_4 _ (List.mem_of_getElem? (i := 11) rfl)) (by decide +kernel)
set_option maxRecDepth 20000 in
theorem t_861 : (Jvm.Cond.methodLink "MatchTrees" (114 : Nat) ({ cls := "MatchTrees", name := "startMatch", desc := "()V" } : Jvm.MethodName)) ∈ WT := WT_of (sub_tables_1_4 _ (List.mem_of_getElem? (i := 12) (by decide +kernel))) (by decide +kernel)
set_option maxRecDepth 20000 in
theorem t_863 : (Jvm.Cond.instanceMethod ({ cls := "MatchTrees", name := "startMatch", desc := "()V" } : Jvm.MethodName)) ∈ WT := WT_of (sub_tables_1_4 _ (List.mem_of_getElem? (i := 14) (by decide +kernel))) (by decide +kernel)
set_option maxRecDepth 20000 in
theorem t_864 : (Jvm.Cond.code ({ cls := "MatchTrees", name := "startMatch", desc := "()V" } : Jvm.MethodName) prog_1_method_5_code (2 : Nat) (Option.none : Option Jvm.ClassFile.FieldType)) ∈ WT := WT_of (sub_tables_1_4 _ (List.mem_of_getElem? (i := 15) rfl)) (by decide +kernel)
set_option maxRecDepth 20000 in
theorem t_865 : (Jvm.Cond.methodLink "MatchTrees" (117 : Nat) ({ cls := "MatchTrees$Trees", name := "setTable", desc := "(LMatchTrees$Table;)V" } : Jvm.MethodName)) ∈ WT := WT_of (sub_tables_1_4 _ (List.mem_of_getElem? (i := 16) (by decide +kernel))) (by decide +kernel)
set_option maxRecDepth 20000 in
theorem t_866 : (Jvm.Cond.instanceMethod ({ cls := "MatchTrees$Trees", name := "setTable", desc := "(LMatchTrees$Table;)V" } : Jvm.MethodName)) ∈ WT := WT_of (sub_tables_1_4 _ (List.mem_of_getElem? (i := 17) (by decide +kernel))) (by decide +kernel)
set_option maxRecDepth 20000 in
theorem t_867 : (Jvm.Cond.selects "MatchTrees$Trees" ({ cls := "MatchTrees$Trees", name := "setTable", desc := "(LMatchTrees$Table;)V" } : Jvm.MethodName) ({ cls := "MatchTrees$Trees", name := "setTable", desc := "(LMatchTrees$Table;)V" } : Jvm.MethodName)) ∈ WT := WT_of (sub_tables_1_4 _ (List.mem_of_getElem? (i := 18) (by decide +kernel))) (by decide +kernel)
set_option maxRecDepth 20000 in
theorem t_868 : (Jvm.Cond.code ({ cls := "MatchTrees$Trees", name := "setTable", desc := "(LMatchTrees$Table;)V" } : Jvm.MethodName) prog_12_method_2_code (4 : Nat) (Option.none : Option Jvm.ClassFile.FieldType)) ∈ WT := WT_of (sub_tables_1_4 _ (List.mem_of_getElem? (i := 19) rfl)) (by decide +kernel)
set_option maxRecDepth 20000 in
theorem t_869 : (Jvm.Cond.methodLink "MatchTrees$Trees" (50 : Nat) ({ cls := "MatchTrees$Groups", name := "begin", desc := "()V" } : Jvm.MethodName)) ∈ WT := WT_of (sub_tables_1_4 _ (List.mem_of_getElem? (i := 20) (by decide +kernel))) (by decide +kernel)
set_option maxRecDepth 20000 in
theorem t_870 : (Jvm.Cond.instanceMethod ({ cls := "MatchTrees$Groups", name := "begin", desc := "()V" } : Jvm.MethodName)) ∈ WT := WT_of (sub_tables_1_4 _ (List.mem_of_getElem? (i := 21) (by decide +kernel))) (by decide +kernel)
set_option maxRecDepth 20000 in
theorem t_871 : (Jvm.Cond.selects "MatchTrees$Groups" ({ cls := "MatchTrees$Groups", name := "begin", desc := "()V" } : Jvm.MethodName) ({ cls := "MatchTrees$Groups", name := "begin", desc := "()V" } : Jvm.MethodName)) ∈ WT := WT_of (sub_tables_1_4 _ (List.mem_of_getElem? (i := 22) (by decide +kernel))) (by decide +kernel)
set_option maxRecDepth 20000 in
theorem t_872 : (Jvm.Cond.code ({ cls := "MatchTrees$Groups", name := "begin", desc := "()V" } : Jvm.MethodName) prog_4_method_2_code (1 : Nat) (Option.none : Option Jvm.ClassFile.FieldType)) ∈ WT := WT_of (sub_tables_1_4 _ (List.mem_of_getElem? (i := 23) rfl)) (by decide +kernel)
set_option maxRecDepth 20000 in
theorem t_873 : (Jvm.Cond.methodLink "MatchTrees$Groups" (32 : Nat) ({ cls := "MatchTrees$Marks", name := "renew", desc := "()V" } : Jvm.MethodName)) ∈ WT := WT_of (sub_tables_1_4 _ (List.mem_of_getElem? (i := 24) (by decide +kernel))) (by decide +kernel)
set_option maxRecDepth 20000 in
theorem t_874 : (Jvm.Cond.instanceMethod ({ cls := "MatchTrees$Marks", name := "renew", desc := "()V" } : Jvm.MethodName)) ∈ WT := WT_of (sub_tables_1_4 _ (List.mem_of_getElem? (i := 25) (by decide +kernel))) (by decide +kernel)
set_option maxRecDepth 20000 in
theorem t_875 : (Jvm.Cond.selects "MatchTrees$Marks" ({ cls := "MatchTrees$Marks", name := "renew", desc := "()V" } : Jvm.MethodName) ({ cls := "MatchTrees$Marks", name := "renew", desc := "()V" } : Jvm.MethodName)) ∈ WT := WT_of (sub_tables_1_4 _ (List.mem_of_getElem? (i := 26) (by decide +kernel))) (by decide +kernel)
set_option maxRecDepth 20000 in
theorem t_876 : (Jvm.Cond.code ({ cls := "MatchTrees$Marks", name := "renew", desc := "()V" } : Jvm.MethodName) prog_6_method_2_code (1 : Nat) (Option.none : Option Jvm.ClassFile.FieldType)) ∈ WT := WT_of (sub_tables_1_4 _ (List.mem_of_getElem? (i := 27) rfl)) (by decide +kernel)
set_option maxRecDepth 20000 in
theorem t_877 : (Jvm.Cond.methodLink "MatchTrees$Trees" (56 : Nat) ({ cls := "MatchTrees$Table", name := "armsFitting", desc := "(II)I" } : Jvm.MethodName)) ∈ WT := WT_of (sub_tables_1_4 _ (List.mem_of_getElem? (i := 28) (by decide +kernel))) (by decide +kernel)
set_option maxRecDepth 20000 in
theorem t_878 : (Jvm.Cond.instanceMethod ({ cls := "MatchTrees$Table", name := "armsFitting", desc := "(II)I" } : Jvm.MethodName)) ∈ WT := WT_of (sub_tables_1_4 _ (List.mem_of_getElem? (i := 29) (by decide +kernel))) (by decide +kernel)
set_option maxRecDepth 20000 in
theorem t_879 : (Jvm.Cond.selects "MatchTrees$Table" ({ cls := "MatchTrees$Table", name := "armsFitting", desc := "(II)I" } : Jvm.MethodName) ({ cls := "MatchTrees$Table", name := "armsFitting", desc := "(II)I" } : Jvm.MethodName)) ∈ WT := WT_of (sub_tables_1_4 _ (List.mem_of_getElem? (i := 30) (by decide +kernel))) (by decide +kernel)
set_option maxRecDepth 20000 in
theorem t_880 : (Jvm.Cond.code ({ cls := "MatchTrees$Table", name := "armsFitting", desc := "(II)I" } : Jvm.MethodName) prog_11_method_8_code (3 : Nat) (Option.some Jvm.ClassFile.FieldType.int)) ∈ WT := WT_of (sub_tables_1_4 _ (List.mem_of_getElem? (i := 31) rfl)) (by decide +kernel)
set_option maxRecDepth 20000 in
theorem t_881 : (Jvm.Cond.methodLink "MatchTrees$Trees" (60 : Nat) ({ cls := "MatchTrees$Groups", name := "add", desc := "(II)V" } : Jvm.MethodName)) ∈ WT := WT_of (sub_tables_1_4 _ (List.mem_of_getElem? (i := 32) (by decide +kernel))) (by decide +kernel)
set_option maxRecDepth 20000 in
theorem t_882 : (Jvm.Cond.instanceMethod ({ cls := "MatchTrees$Groups", name := "add", desc := "(II)V" } : Jvm.MethodName)) ∈ WT := WT_of (sub_tables_1_4 _ (List.mem_of_getElem? (i := 33) (by decide +kernel))) (by decide +kernel)
set_option maxRecDepth 20000 in
theorem t_883 : (Jvm.Cond.selects "MatchTrees$Groups" ({ cls := "MatchTrees$Groups", name := "add", desc := "(II)V" } : Jvm.MethodName) ({ cls := "MatchTrees$Groups", name := "add", desc := "(II)V" } : Jvm.MethodName)) ∈ WT := WT_of (sub_tables_1_4 _ (List.mem_of_getElem? (i := 34) (by decide +kernel))) (by decide +kernel)
set_option maxRecDepth 20000 in
theorem t_884 : (Jvm.Cond.code ({ cls := "MatchTrees$Groups", name := "add", desc := "(II)V" } : Jvm.MethodName) prog_4_method_3_code (4 : Nat) (Option.none : Option Jvm.ClassFile.FieldType)) ∈ WT := WT_of (sub_tables_1_4 _ (List.mem_of_getElem? (i := 35) rfl)) (by decide +kernel)
set_option maxRecDepth 20000 in
theorem t_885 : (Jvm.Cond.methodLink "MatchTrees$Groups" (37 : Nat) ({ cls := "MatchTrees$Marks", name := "isNew", desc := "(I)Z" } : Jvm.MethodName)) ∈ WT := WT_of (sub_tables_1_4 _ (List.mem_of_getElem? (i := 36) (by decide +kernel))) (by decide +kernel)
set_option maxRecDepth 20000 in
theorem t_886 : (Jvm.Cond.instanceMethod ({ cls := "MatchTrees$Marks", name := "isNew", desc := "(I)Z" } : Jvm.MethodName)) ∈ WT := WT_of (sub_tables_1_4 _ (List.mem_of_getElem? (i := 37) (by decide +kernel))) (by decide +kernel)
set_option maxRecDepth 20000 in
theorem t_887 : (Jvm.Cond.selects "MatchTrees$Marks" ({ cls := "MatchTrees$Marks", name := "isNew", desc := "(I)Z" } : Jvm.MethodName) ({ cls := "MatchTrees$Marks", name := "isNew", desc := "(I)Z" } : Jvm.MethodName)) ∈ WT := WT_of (sub_tables_1_4 _ (List.mem_of_getElem? (i := 38) (by decide +kernel))) (by decide +kernel)
set_option maxRecDepth 20000 in
theorem t_888 : (Jvm.Cond.code ({ cls := "MatchTrees$Marks", name := "isNew", desc := "(I)Z" } : Jvm.MethodName) prog_6_method_3_code (2 : Nat) (Option.some Jvm.ClassFile.FieldType.boolean)) ∈ WT := WT_of (sub_tables_1_4 _ (List.mem_of_getElem? (i := 39) rfl)) (by decide +kernel)
set_option maxRecDepth 20000 in
theorem t_889 : (Jvm.Cond.methodLink "MatchTrees" (120 : Nat) ({ cls := "MatchTrees$Groups", name := "begin", desc := "()V" } : Jvm.MethodName)) ∈ WT := WT_of (sub_tables_1_4 _ (List.mem_of_getElem? (i := 40) (by decide +kernel))) (by decide +kernel)
set_option maxRecDepth 20000 in
theorem t_890 : (Jvm.Cond.methodLink "MatchTrees" (126 : Nat) ({ cls := "MatchTrees$Groups", name := "add", desc := "(II)V" } : Jvm.MethodName)) ∈ WT := WT_of (sub_tables_1_4 _ (List.mem_of_getElem? (i := 41) (by decide +kernel))) (by decide +kernel)
set_option maxRecDepth 20000 in
theorem t_891 : (Jvm.Cond.methodLink "MatchTrees" (133 : Nat) ({ cls := "MatchTrees$Groups", name := "copy", desc := "(LMatchTrees$Groups;)V" } : Jvm.MethodName)) ∈ WT := WT_of (sub_tables_1_4 _ (List.mem_of_getElem? (i := 42) (by decide +kernel))) (by decide +kernel)
set_option maxRecDepth 20000 in
theorem t_892 : (Jvm.Cond.instanceMethod ({ cls := "MatchTrees$Groups", name := "copy", desc := "(LMatchTrees$Groups;)V" } : Jvm.MethodName)) ∈ WT := WT_of (sub_tables_1_4 _ (List.mem_of_getElem? (i := 43) (by decide +kernel))) (by decide +kernel)
set_option maxRecDepth 20000 in
theorem t_893 : (Jvm.Cond.selects "MatchTrees$Groups" ({ cls := "MatchTrees$Groups", name := "copy", desc := "(LMatchTrees$Groups;)V" } : Jvm.MethodName) ({ cls := "MatchTrees$Groups", name := "copy", desc := "(LMatchTrees$Groups;)V" } : Jvm.MethodName)) ∈ WT := WT_of (sub_tables_1_4 _ (List.mem_of_getElem? (i := 44) (by decide +kernel))) (by decide +kernel)
set_option maxRecDepth 20000 in
theorem t_894 : (Jvm.Cond.code ({ cls := "MatchTrees$Groups", name := "copy", desc := "(LMatchTrees$Groups;)V" } : Jvm.MethodName) prog_4_method_6_code (3 : Nat) (Option.none : Option Jvm.ClassFile.FieldType)) ∈ WT := WT_of (sub_tables_1_4 _ (List.mem_of_getElem? (i := 45) rfl)) (by decide +kernel)
set_option maxRecDepth 20000 in
theorem t_895 : (Jvm.Cond.methodLink "MatchTrees$Groups" (48 : Nat) ({ cls := "java/lang/Math", name := "min", desc := "(II)I" } : Jvm.MethodName)) ∈ WT := WT_of (sub_tables_1_4 _ (List.mem_of_getElem? (i := 46) (by decide +kernel))) (by decide +kernel)
set_option maxRecDepth 20000 in
theorem t_896 : (Jvm.Cond.methodLink "MatchTrees" (141 : Nat) ({ cls := "MatchTrees$Groups", name := "addProducts", desc := "(LMatchTrees$Groups;LMatchTrees$Groups;)V" } : Jvm.MethodName)) ∈ WT := WT_of (sub_tables_1_4 _ (List.mem_of_getElem? (i := 47) (by decide +kernel))) (by decide +kernel)
set_option maxRecDepth 20000 in
theorem t_897 : (Jvm.Cond.instanceMethod ({ cls := "MatchTrees$Groups", name := "addProducts", desc := "(LMatchTrees$Groups;LMatchTrees$Groups;)V" } : Jvm.MethodName)) ∈ WT := WT_of (sub_tables_1_4 _ (List.mem_of_getElem? (i := 48) (by decide +kernel))) (by decide +kernel)
set_option maxRecDepth 20000 in
theorem t_898 : (Jvm.Cond.selects "MatchTrees$Groups" ({ cls := "MatchTrees$Groups", name := "addProducts", desc := "(LMatchTrees$Groups;LMatchTrees$Groups;)V" } : Jvm.MethodName) ({ cls := "MatchTrees$Groups", name := "addProducts", desc := "(LMatchTrees$Groups;LMatchTrees$Groups;)V" } : Jvm.MethodName)) ∈ WT := WT_of (sub_tables_1_4 _ (List.mem_of_getElem? (i := 49) (by decide +kernel))) (by decide +kernel)
set_option maxRecDepth 20000 in
theorem t_899 : (Jvm.Cond.code ({ cls := "MatchTrees$Groups", name := "addProducts", desc := "(LMatchTrees$Groups;LMatchTrees$Groups;)V" } : Jvm.MethodName) prog_4_method_5_code (5 : Nat) (Option.none : Option Jvm.ClassFile.FieldType)) ∈ WT := WT_of (sub_tables_1_4 _ (List.mem_of_getElem? (i := 50) rfl)) (by decide +kernel)
set_option maxRecDepth 20000 in
theorem t_900 : (Jvm.Cond.methodLink "MatchTrees$Groups" (44 : Nat) ({ cls := "MatchTrees$Groups", name := "add", desc := "(II)V" } : Jvm.MethodName)) ∈ WT := WT_of (sub_tables_1_4 _ (List.mem_of_getElem? (i := 51) (by decide +kernel))) (by decide +kernel)
set_option maxRecDepth 20000 in
theorem t_901 : (Jvm.Cond.methodLink "MatchTrees" (148 : Nat) ({ cls := "MatchTrees$Order", name := "begin", desc := "(II)V" } : Jvm.MethodName)) ∈ WT := WT_of (sub_tables_1_4 _ (List.mem_of_getElem? (i := 52) (by decide +kernel))) (by decide +kernel)
set_option maxRecDepth 20000 in
theorem t_902 : (Jvm.Cond.instanceMethod ({ cls := "MatchTrees$Order", name := "begin", desc := "(II)V" } : Jvm.MethodName)) ∈ WT := WT_of (sub_tables_1_4 _ (List.mem_of_getElem? (i := 53) (by decide +kernel))) (by decide +kernel)
set_option maxRecDepth 20000 in
theorem t_903 : (Jvm.Cond.selects "MatchTrees$Order" ({ cls := "MatchTrees$Order", name := "begin", desc := "(II)V" } : Jvm.MethodName) ({ cls := "MatchTrees$Order", name := "begin", desc := "(II)V" } : Jvm.MethodName)) ∈ WT := WT_of (sub_tables_1_4 _ (List.mem_of_getElem? (i := 54) (by decide +kernel))) (by decide +kernel)
set_option maxRecDepth 20000 in
theorem t_904 : (Jvm.Cond.code ({ cls := "MatchTrees$Order", name := "begin", desc := "(II)V" } : Jvm.MethodName) prog_7_method_2_code (4 : Nat) (Option.none : Option Jvm.ClassFile.FieldType)) ∈ WT := WT_of (sub_tables_1_4 _ (List.mem_of_getElem? (i := 55) rfl)) (by decide +kernel)
set_option maxRecDepth 20000 in
theorem t_905 : (Jvm.Cond.methodLink "MatchTrees$Order" (15 : Nat) ({ cls := "java/lang/Math", name := "min", desc := "(II)I" } : Jvm.MethodName)) ∈ WT := WT_of (sub_tables_1_4 _ (List.mem_of_getElem? (i := 56) (by decide +kernel))) (by decide +kernel)
set_option maxRecDepth 20000 in
theorem t_906 : (Jvm.Cond.methodLink "MatchTrees$Order" (21 : Nat) ({ cls := "java/lang/Math", name := "max", desc := "(II)I" } : Jvm.MethodName)) ∈ WT := WT_of (sub_tables_1_4 _ (List.mem_of_getElem? (i := 57) (by decide +kernel))) (by decide +kernel)
set_option maxRecDepth 20000 in
theorem t_907 : (Jvm.Cond.methodLink "MatchTrees" (150 : Nat) ({ cls := "MatchTrees$Acts", name := "clear", desc := "()V" } : Jvm.MethodName)) ∈ WT := WT_of (sub_tables_1_4 _ (List.mem_of_getElem? (i := 58) (by decide +kernel))) (by decide +kernel)
set_option maxRecDepth 20000 in
theorem t_908 : (Jvm.Cond.instanceMethod ({ cls := "MatchTrees$Acts", name := "clear", desc := "()V" } : Jvm.MethodName)) ∈ WT := WT_of (sub_tables_1_4 _ (List.mem_of_getElem? (i := 59) (by decide +kernel))) (by decide +kernel)
set_option maxRecDepth 20000 in
theorem t_909 : (Jvm.Cond.selects "MatchTrees$Acts" ({ cls := "MatchTrees$Acts", name := "clear", desc := "()V" } : Jvm.MethodName) ({ cls := "MatchTrees$Acts", name := "clear", desc := "()V" } : Jvm.MethodName)) ∈ WT := WT_of (sub_tables_1_4 _ (List.mem_of_getElem? (i := 60) (by decide +kernel))) (by decide +kernel)
set_option maxRecDepth 20000 in
theorem t_910 : (Jvm.Cond.code ({ cls := "MatchTrees$Acts", name := "clear", desc := "()V" } : Jvm.MethodName) prog_2_method_2_code (1 : Nat) (Option.none : Option Jvm.ClassFile.FieldType)) ∈ WT := WT_of (sub_tables_1_4 _ (List.mem_of_getElem? (i := 61) rfl)) (by decide +kernel)
set_option maxRecDepth 20000 in
theorem t_911 : (Jvm.Cond.methodLink "MatchTreesLaw" (28 : Nat) ({ cls := "MatchTrees", name := "fault", desc := "(I)I" } : Jvm.MethodName)) ∈ WT := WT_of (sub_tables_1_4 _ (List.mem_of_getElem? (i := 62) (by decide +kernel))) (by decide +kernel)
set_option maxRecDepth 20000 in
theorem t_912 : (Jvm.Cond.instanceMethod ({ cls := "MatchTrees", name := "fault", desc := "(I)I" } : Jvm.MethodName)) ∈ WT := WT_of (sub_tables_1_4 _ (List.mem_of_getElem? (i := 63) (by decide +kernel))) (by decide +kernel)
set_option maxRecDepth 20000 in
theorem t_913 : (Jvm.Cond.selects "MatchTrees" ({ cls := "MatchTrees", name := "fault", desc := "(I)I" } : Jvm.MethodName) ({ cls := "MatchTrees", name := "fault", desc := "(I)I" } : Jvm.MethodName)) ∈ WT := WT_of (sub_tables_1_4 _ (List.mem_of_getElem? (i := 64) (by decide +kernel))) (by decide +kernel)
set_option maxRecDepth 20000 in
theorem t_914 : (Jvm.Cond.code ({ cls := "MatchTrees", name := "fault", desc := "(I)I" } : Jvm.MethodName) prog_1_method_6_code (2 : Nat) (Option.some Jvm.ClassFile.FieldType.int)) ∈ WT := WT_of (sub_tables_1_4 _ (List.mem_of_getElem? (i := 65) rfl)) (by decide +kernel)
set_option maxRecDepth 20000 in
theorem t_915 : (Jvm.Cond.methodLink "MatchTreesLaw" (33 : Nat) ({ cls := "MatchTrees", name := "has", desc := "(I)I" } : Jvm.MethodName)) ∈ WT := WT_of (sub_tables_1_4 _ (List.mem_of_getElem? (i := 66) (by decide +kernel))) (by decide +kernel)
set_option maxRecDepth 20000 in
theorem t_916 : (Jvm.Cond.instanceMethod ({ cls := "MatchTrees", name := "has", desc := "(I)I" } : Jvm.MethodName)) ∈ WT := WT_of (sub_tables_1_4 _ (List.mem_of_getElem? (i := 67) (by decide +kernel))) (by decide +kernel)
set_option maxRecDepth 20000 in
theorem t_917 : (Jvm.Cond.selects "MatchTrees" ({ cls := "MatchTrees", name := "has", desc := "(I)I" } : Jvm.MethodName) ({ cls := "MatchTrees", name := "has", desc := "(I)I" } : Jvm.MethodName)) ∈ WT := WT_of (sub_tables_1_4 _ (List.mem_of_getElem? (i := 68) (by decide +kernel))) (by decide +kernel)
set_option maxRecDepth 20000 in
theorem t_918 : (Jvm.Cond.code ({ cls := "MatchTrees", name := "has", desc := "(I)I" } : Jvm.MethodName) prog_1_method_7_code (2 : Nat) (Option.some Jvm.ClassFile.FieldType.int)) ∈ WT := WT_of (sub_tables_1_4 _ (List.mem_of_getElem? (i := 69) rfl)) (by decide +kernel)
set_option maxRecDepth 20000 in
theorem t_919 : (Jvm.Cond.methodLink "MatchTrees" (181 : Nat) ({ cls := "MatchTrees$Acts", name := "keptTold", desc := "()I" } : Jvm.MethodName)) ∈ WT := WT_of (sub_tables_1_4 _ (List.mem_of_getElem? (i := 70) (by decide +kernel))) (by decide +kernel)
set_option maxRecDepth 20000 in
theorem t_920 : (Jvm.Cond.instanceMethod ({ cls := "MatchTrees$Acts", name := "keptTold", desc := "()I" } : Jvm.MethodName)) ∈ WT := WT_of (sub_tables_1_4 _ (List.mem_of_getElem? (i := 71) (by decide +kernel))) (by decide +kernel)
set_option maxRecDepth 20000 in
theorem t_921 : (Jvm.Cond.selects "MatchTrees$Acts" ({ cls := "MatchTrees$Acts", name := "keptTold", desc := "()I" } : Jvm.MethodName) ({ cls := "MatchTrees$Acts", name := "keptTold", desc := "()I" } : Jvm.MethodName)) ∈ WT := WT_of (sub_tables_1_4 _ (List.mem_of_getElem? (i := 72) (by decide +kernel))) (by decide +kernel)
set_option maxRecDepth 20000 in
theorem t_922 : (Jvm.Cond.code ({ cls := "MatchTrees$Acts", name := "keptTold", desc := "()I" } : Jvm.MethodName) prog_2_method_3_code (1 : Nat) (Option.some Jvm.ClassFile.FieldType.int)) ∈ WT := WT_of (sub_tables_1_4 _ (List.mem_of_getElem? (i := 73) rfl)) (by decide +kernel)
set_option maxRecDepth 20000 in
theorem t_923 : (Jvm.Cond.methodLink "MatchTrees$Acts" (38 : Nat) ({ cls := "java/lang/Math", name := "min", desc := "(II)I" } : Jvm.MethodName)) ∈ WT := WT_of (sub_tables_1_4 _ (List.mem_of_getElem? (i := 74) (by decide +kernel))) (by decide +kernel)
set_option maxRecDepth 20000 in
theorem t_924 : (Jvm.Cond.methodLink "MatchTreesLaw" (37 : Nat) ({ cls := "MatchTrees", name := "letter", desc := "(III)I" } : Jvm.MethodName)) ∈ WT := WT_of (sub_tables_1_4 _ (List.mem_of_getElem? (i := 75) (by decide +kernel))) (by decide +kernel)
set_option maxRecDepth 20000 in
theorem t_925 : (Jvm.Cond.instanceMethod ({ cls := "MatchTrees", name := "letter", desc := "(III)I" } : Jvm.MethodName)) ∈ WT := WT_of (sub_tables_1_4 _ (List.mem_of_getElem? (i := 76) (by decide +kernel))) (by decide +kernel)
set_option maxRecDepth 20000 in
theorem t_926 : (Jvm.Cond.selects "MatchTrees" ({ cls := "MatchTrees", name := "letter", desc := "(III)I" } : Jvm.MethodName) ({ cls := "MatchTrees", name := "letter", desc := "(III)I" } : Jvm.MethodName)) ∈ WT := WT_of (sub_tables_1_4 _ (List.mem_of_getElem? (i := 77) (by decide +kernel))) (by decide +kernel)
set_option maxRecDepth 20000 in
theorem t_927 : (Jvm.Cond.code ({ cls := "MatchTrees", name := "letter", desc := "(III)I" } : Jvm.MethodName) prog_1_method_8_code (5 : Nat) (Option.some Jvm.ClassFile.FieldType.int)) ∈ WT := WT_of (sub_tables_1_4 _ (List.mem_of_getElem? (i := 78) rfl)) (by decide +kernel)
set_option maxRecDepth 20000 in
theorem t_928 : (Jvm.Cond.methodLink "MatchTrees" (188 : Nat) ({ cls := "MatchTrees$Kinds", name := "isKind", desc := "(I)Z" } : Jvm.MethodName)) ∈ WT := WT_of (sub_tables_1_4 _ (List.mem_of_getElem? (i := 79) (by decide +kernel))) (by decide +kernel)
set_option maxRecDepth 20000 in
theorem t_929 : (Jvm.Cond.methodLink "MatchTrees" (194 : Nat) ({ cls := "MatchTrees", name := "letterOf", desc := "(II)I" } : Jvm.MethodName)) ∈ WT := WT_of (sub_tables_1_4 _ (List.mem_of_getElem? (i := 80) (by decide +kernel))) (by decide +kernel)
set_option maxRecDepth 20000 in
theorem t_930 : (Jvm.Cond.static ({ cls := "MatchTrees", name := "letterOf", desc := "(II)I" } : Jvm.MethodName)) ∈ WT := WT_of (sub_tables_1_4 _ (List.mem_of_getElem? (i := 81) (by decide +kernel))) (by decide +kernel)
set_option maxRecDepth 20000 in
theorem t_931 : (Jvm.Cond.code ({ cls := "MatchTrees", name := "letterOf", desc := "(II)I" } : Jvm.MethodName) prog_1_method_55_code (4 : Nat) (Option.some Jvm.ClassFile.FieldType.int)) ∈ WT := WT_of (sub_tables_1_4 _ (List.mem_of_getElem? (i := 82) rfl)) (by decide +kernel)
set_option maxRecDepth 20000 in
theorem t_932 : (Jvm.Cond.methodLink "MatchTrees" (198 : Nat) ({ cls := "MatchTrees$Kinds", name := "isCon", desc := "(I)Z" } : Jvm.MethodName)) ∈ WT := WT_of (sub_tables_1_4 _ (List.mem_of_getElem? (i := 83) (by decide +kernel))) (by decide +kernel)
set_option maxRecDepth 20000 in
theorem t_933 : (Jvm.Cond.methodLink "MatchTreesLaw" (42 : Nat) ({ cls := "MatchTrees", name := "values", desc := "(I)I" } : Jvm.MethodName)) ∈ WT := WT_of (sub_tables_1_4 _ (List.mem_of_getElem? (i := 84) (by decide +kernel))) (by decide +kernel)
set_option maxRecDepth 20000 in
theorem t_934 : (Jvm.Cond.instanceMethod ({ cls := "MatchTrees", name := "values", desc := "(I)I" } : Jvm.MethodName)) ∈ WT := WT_of (sub_tables_1_4 _ (List.mem_of_getElem? (i := 85) (by decide +kernel))) (by decide +kernel)
set_option maxRecDepth 20000 in
theorem t_935 : (Jvm.Cond.selects "MatchTrees" ({ cls := "MatchTrees", name := "values", desc := "(I)I" } : Jvm.MethodName) ({ cls := "MatchTrees", name := "values", desc := "(I)I" } : Jvm.MethodName)) ∈ WT := WT_of (sub_tables_1_4 _ (List.mem_of_getElem? (i := 86) (by decide +kernel))) (by decide +kernel)
set_option maxRecDepth 20000 in
theorem t_936 : (Jvm.Cond.code ({ cls := "MatchTrees", name := "values", desc := "(I)I" } : Jvm.MethodName) prog_1_method_9_code (2 : Nat) (Option.some Jvm.ClassFile.FieldType.int)) ∈ WT := WT_of (sub_tables_1_4 _ (List.mem_of_getElem? (i := 87) rfl)) (by decide +kernel)
set_option maxRecDepth 20000 in
theorem t_937 : (Jvm.Cond.methodLink "MatchTrees" (204 : Nat) ({ cls := "MatchTrees", name := "matched", desc := "()Z" } : Jvm.MethodName)) ∈ WT := WT_of (sub_tables_1_4 _ (List.mem_of_getElem? (i := 88) (by decide +kernel))) (by decide +kernel)
set_option maxRecDepth 20000 in
theorem t_939 : (Jvm.Cond.instanceMethod ({ cls := "MatchTrees", name := "matched", desc := "()Z" } : Jvm.MethodName)) ∈ WT := WT_of (sub_tables_1_4 _ (List.mem_of_getElem? (i := 90) (by decide +kernel))) (by decide +kernel)
set_option maxRecDepth 20000 in
theorem t_940 : (Jvm.Cond.code ({ cls := "MatchTrees", name := "matched", desc := "()Z" } : Jvm.MethodName) prog_1_method_52_code (1 : Nat) (Option.some Jvm.ClassFile.FieldType.boolean)) ∈ WT := WT_of (sub_tables_1_4 _ (List.mem_of_getElem? (i := 91) rfl)) (by decide +kernel)
set_option maxRecDepth 20000 in
theorem t_941 : (Jvm.Cond.methodLink "MatchTrees" (208 : Nat) ({ cls := "MatchTrees$Kinds", name := "sizeOf", desc := "(I)I" } : Jvm.MethodName)) ∈ WT := WT_of (sub_tables_1_4 _ (List.mem_of_getElem? (i := 92) (by decide +kernel))) (by decide +kernel)
set_option maxRecDepth 20000 in
theorem t_942 : (Jvm.Cond.methodLink "MatchTreesLaw" (46 : Nat) ({ cls := "MatchTrees", name := "arm", desc := "(II)I" } : Jvm.MethodName)) ∈ WT := WT_of (sub_tables_1_4 _ (List.mem_of_getElem? (i := 93) (by decide +kernel))) (by decide +kernel)
set_option maxRecDepth 20000 in
theorem t_943 : (Jvm.Cond.instanceMethod ({ cls := "MatchTrees", name := "arm", desc := "(II)I" } : Jvm.MethodName)) ∈ WT := WT_of (sub_tables_1_4 _ (List.mem_of_getElem? (i := 94) (by decide +kernel))) (by decide +kernel)
set_option maxRecDepth 20000 in
theorem t_944 : (Jvm.Cond.selects "MatchTrees" ({ cls := "MatchTrees", name := "arm", desc := "(II)I" } : Jvm.MethodName) ({ cls := "MatchTrees", name := "arm", desc := "(II)I" } : Jvm.MethodName)) ∈ WT := WT_of (sub_tables_1_4 _ (List.mem_of_getElem? (i := 95) (by decide +kernel))) (by decide +kernel)
set_option maxRecDepth 20000 in
theorem t_945 : (Jvm.Cond.code ({ cls := "MatchTrees", name := "arm", desc := "(II)I" } : Jvm.MethodName) prog_1_method_10_code (4 : Nat) (Option.some Jvm.ClassFile.FieldType.int)) ∈ WT := WT_of (sub_tables_1_4 _ (List.mem_of_getElem? (i := 96) rfl)) (by decide +kernel)
set_option maxRecDepth 20000 in
theorem t_946 : (Jvm.Cond.methodLink "MatchTrees" (212 : Nat) ({ cls := "MatchTrees$Order", name := "armAt", desc := "(I)I" } : Jvm.MethodName)) ∈ WT := WT_of (sub_tables_1_4 _ (List.mem_of_getElem? (i := 97) (by decide +kernel))) (by decide +kernel)
set_option maxRecDepth 20000 in
theorem t_947 : (Jvm.Cond.instanceMethod ({ cls := "MatchTrees$Order", name := "armAt", desc := "(I)I" } : Jvm.MethodName)) ∈ WT := WT_of (sub_tables_1_4 _ (List.mem_of_getElem? (i := 98) (by decide +kernel))) (by decide +kernel)
set_option maxRecDepth 20000 in
theorem t_948 : (Jvm.Cond.selects "MatchTrees$Order" ({ cls := "MatchTrees$Order", name := "armAt", desc := "(I)I" } : Jvm.MethodName) ({ cls := "MatchTrees$Order", name := "armAt", desc := "(I)I" } : Jvm.MethodName)) ∈ WT := WT_of (sub_tables_1_4 _ (List.mem_of_getElem? (i := 99) (by decide +kernel))) (by decide +kernel)
set_option maxRecDepth 20000 in
theorem t_949 : (Jvm.Cond.code ({ cls := "MatchTrees$Order", name := "armAt", desc := "(I)I" } : Jvm.MethodName) prog_7_method_5_code (2 : Nat) (Option.some Jvm.ClassFile.FieldType.int)) ∈ WT := WT_of (sub_tables_1_4 _ (List.mem_of_getElem? (i := 100) rfl)) (by decide +kernel)
set_option maxRecDepth 20000 in
theorem t_950 : (Jvm.Cond.methodLink "MatchTrees$Order" (34 : Nat) ({ cls := "MatchTrees$Order", name := "isPlace", desc := "(I)Z" } : Jvm.MethodName)) ∈ WT := WT_of (sub_tables_1_4 _ (List.mem_of_getElem? (i := 101) (by decide +kernel))) (by decide +kernel)
set_option maxRecDepth 20000 in
theorem t_951 : (Jvm.Cond.instanceMethod ({ cls := "MatchTrees$Order", name := "isPlace", desc := "(I)Z" } : Jvm.MethodName)) ∈ WT := WT_of (sub_tables_1_4 _ (List.mem_of_getElem? (i := 102) (by decide +kernel))) (by decide +kernel)
set_option maxRecDepth 20000 in
theorem t_952 : (Jvm.Cond.selects "MatchTrees$Order" ({ cls := "MatchTrees$Order", name := "isPlace", desc := "(I)Z" } : Jvm.MethodName) ({ cls := "MatchTrees$Order", name := "isPlace", desc := "(I)Z" } : Jvm.MethodName)) ∈ WT := WT_of (sub_tables_1_4 _ (List.mem_of_getElem? (i := 103) (by decide +kernel))) (by decide +kernel)
set_option maxRecDepth 20000 in
theorem t_953 : (Jvm.Cond.code ({ cls := "MatchTrees$Order", name := "isPlace", desc := "(I)Z" } : Jvm.MethodName) prog_7_method_4_code (2 : Nat) (Option.some Jvm.ClassFile.FieldType.boolean)) ∈ WT := WT_of (sub_tables_1_4 _ (List.mem_of_getElem? (i := 104) rfl)) (by decide +kernel)
set_option maxRecDepth 20000 in
theorem t_954 : (Jvm.Cond.methodLink "MatchTrees" (215 : Nat) ({ cls := "MatchTrees$Table", name := "guardOf", desc := "(I)I" } : Jvm.MethodName)) ∈ WT := WT_of (sub_tables_1_4 _ (List.mem_of_getElem? (i := 105) (by decide +kernel))) (by decide +kernel)
set_option maxRecDepth 20000 in
theorem t_955 : (Jvm.Cond.instanceMethod ({ cls := "MatchTrees$Table", name := "guardOf", desc := "(I)I" } : Jvm.MethodName)) ∈ WT := WT_of (sub_tables_1_4 _ (List.mem_of_getElem? (i := 106) (by decide +kernel))) (by decide +kernel)
set_option maxRecDepth 20000 in
theorem t_956 : (Jvm.Cond.selects "MatchTrees$Table" ({ cls := "MatchTrees$Table", name := "guardOf", desc := "(I)I" } : Jvm.MethodName) ({ cls := "MatchTrees$Table", name := "guardOf", desc := "(I)I" } : Jvm.MethodName)) ∈ WT := WT_of (sub_tables_1_4 _ (List.mem_of_getElem? (i := 107) (by decide +kernel))) (by decide +kernel)
set_option maxRecDepth 20000 in
theorem t_957 : (Jvm.Cond.code ({ cls := "MatchTrees$Table", name := "guardOf", desc := "(I)I" } : Jvm.MethodName) prog_11_method_6_code (2 : Nat) (Option.some Jvm.ClassFile.FieldType.int)) ∈ WT := WT_of (sub_tables_1_4 _ (List.mem_of_getElem? (i := 108) rfl)) (by decide +kernel)
set_option maxRecDepth 20000 in
theorem t_958 : (Jvm.Cond.methodLink "MatchTrees" (218 : Nat) ({ cls := "MatchTrees", name := "isUseful", desc := "(I)Z" } : Jvm.MethodName)) ∈ WT := WT_of (sub_tables_1_4 _ (List.mem_of_getElem? (i := 109) (by decide +kernel))) (by decide +kernel)
set_option maxRecDepth 20000 in
theorem t_960 : (Jvm.Cond.instanceMethod ({ cls := "MatchTrees", name := "isUseful", desc := "(I)Z" } : Jvm.MethodName)) ∈ WT := WT_of (sub_tables_1_4 _ (List.mem_of_getElem? (i := 111) (by decide +kernel))) (by decide +kernel)
set_option maxRecDepth 20000 in
theorem t_961 : (Jvm.Cond.code ({ cls := "MatchTrees", name := "isUseful", desc := "(I)Z" } : Jvm.MethodName) prog_1_method_11_code (6 : Nat) (Option.some Jvm.ClassFile.FieldType.boolean)) ∈ WT := WT_of (sub_tables_1_4 _ (List.mem_of_getElem? (i := 112) rfl)) (by decide +kernel)
set_option maxRecDepth 20000 in
theorem t_962 : (Jvm.Cond.methodLink "MatchTrees" (227 : Nat) ({ cls := "MatchTrees$Order", name := "unguarded", desc := "(LMatchTrees$Table;I)I" } : Jvm.MethodName)) ∈ WT := WT_of (sub_tables_1_4 _ (List.mem_of_getElem? (i := 113) (by decide +kernel))) (by decide +kernel)
set_option maxRecDepth 20000 in
theorem t_963 : (Jvm.Cond.instanceMethod ({ cls := "MatchTrees$Order", name := "unguarded", desc := "(LMatchTrees$Table;I)I" } : Jvm.MethodName)) ∈ WT := WT_of (sub_tables_1_4 _ (List.mem_of_getElem? (i := 114) (by decide +kernel))) (by decide +kernel)
set_option maxRecDepth 20000 in
theorem t_964 : (Jvm.Cond.selects "MatchTrees$Order" ({ cls := "MatchTrees$Order", name := "unguarded", desc := "(LMatchTrees$Table;I)I" } : Jvm.MethodName) ({ cls := "MatchTrees$Order", name := "unguarded", desc := "(LMatchTrees$Table;I)I" } : Jvm.MethodName)) ∈ WT := WT_of (sub_tables_1_4 _ (List.mem_of_getElem? (i := 115) (by decide +kernel))) (by decide +kernel)
set_option maxRecDepth 20000 in
theorem t_965 : (Jvm.Cond.code ({ cls := "MatchTrees$Order", name := "unguarded", desc := "(LMatchTrees$Table;I)I" } : Jvm.MethodName) prog_7_method_10_code (5 : Nat) (Option.some Jvm.ClassFile.FieldType.int)) ∈ WT := WT_of (sub_tables_1_4 _ (List.mem_of_getElem? (i := 116) rfl)) (by decide +kernel)
set_option maxRecDepth 20000 in
theorem t_966 : (Jvm.Cond.methodLink "MatchTrees$Order" (42 : Nat) ({ cls := "MatchTrees$Table", name := "guardOf", desc := "(I)I" } : Jvm.MethodName)) ∈ WT := WT_of (sub_tables_1_4 _ (List.mem_of_getElem? (i := 117) (by decide +kernel))) (by decide +kernel)
set_option maxRecDepth 20000 in
theorem t_967 : (Jvm.Cond.methodLink "MatchTrees" (234 : Nat) ({ cls := "MatchTrees", name := "isIn", desc := "(II)Z" } : Jvm.MethodName)) ∈ WT := WT_of (sub_tables_1_4 _ (List.mem_of_getElem? (i := 118) (by decide +kernel))) (by decide +kernel)
set_option maxRecDepth 20000 in
theorem t_968 : (Jvm.Cond.static ({ cls := "MatchTrees", name := "isIn", desc := "(II)Z" } : Jvm.MethodName)) ∈ WT := WT_of (sub_tables_1_4 _ (List.mem_of_getElem? (i := 119) (by decide +kernel))) (by decide +kernel)
set_option maxRecDepth 20000 in
theorem t_969 : (Jvm.Cond.code ({ cls := "MatchTrees", name := "isIn", desc := "(II)Z" } : Jvm.MethodName) prog_1_method_54_code (2 : Nat) (Option.some Jvm.ClassFile.FieldType.boolean)) ∈ WT := WT_of (sub_tables_1_4 _ (List.mem_of_getElem? (i := 120) rfl)) (by decide +kernel)
set_option maxRecDepth 20000 in
theorem t_970 : (Jvm.Cond.methodLink "MatchTrees" (221 : Nat) ({ cls := "MatchTrees", name := "rowsFitting", desc := "(I)I" } : Jvm.MethodName)) ∈ WT := WT_of (sub_tables_1_4 _ (List.mem_of_getElem? (i := 121) (by decide +kernel))) (by decide +kernel)
set_option maxRecDepth 20000 in
theorem t_972 : (Jvm.Cond.instanceMethod ({ cls := "MatchTrees", name := "rowsFitting", desc := "(I)I" } : Jvm.MethodName)) ∈ WT := WT_of (sub_tables_1_4 _ (List.mem_of_getElem? (i := 123) (by decide +kernel))) (by decide +kernel)
set_option maxRecDepth 20000 in
theorem t_973 : (Jvm.Cond.code ({ cls := "MatchTrees", name := "rowsFitting", desc := "(I)I" } : Jvm.MethodName) prog_1_method_12_code (4 : Nat) (Option.some Jvm.ClassFile.FieldType.int)) ∈ WT := WT_of (sub_tables_1_4 _ (List.mem_of_getElem? (i := 124) rfl)) (by decide +kernel)
set_option maxRecDepth 20000 in
theorem t_974 : (Jvm.Cond.methodLink "MatchTrees" (224 : Nat) ({ cls := "MatchTrees", name := "rowsTaken", desc := "(I)I" } : Jvm.MethodName)) ∈ WT := WT_of (sub_tables_1_4 _ (List.mem_of_getElem? (i := 125) (by decide +kernel))) (by decide +kernel)
set_option maxRecDepth 20000 in
theorem t_976 : (Jvm.Cond.instanceMethod ({ cls := "MatchTrees", name := "rowsTaken", desc := "(I)I" } : Jvm.MethodName)) ∈ WT := WT_of (sub_tables_1_4 _ (List.mem_of_getElem? (i := 127) (by decide +kernel))) (by decide +kernel)
set_option maxRecDepth 20000 in
theorem t_977 : (Jvm.Cond.code ({ cls := "MatchTrees", name := "rowsTaken", desc := "(I)I" } : Jvm.MethodName) prog_1_method_13_code (4 : Nat) (Option.some Jvm.ClassFile.FieldType.int)) ∈ WT := WT_of (sub_tables_1_4 _ (List.mem_of_getElem? (i := 128) rfl)) (by decide +kernel)
set_option maxRecDepth 20000 in
theorem t_978 : (Jvm.Cond.methodLink "MatchTrees" (241 : Nat) ({ cls := "MatchTrees$Order", name := "placeTaking", desc := "(LMatchTrees$Table;II)I" } : Jvm.MethodName)) ∈ WT := WT_of (sub_tables_1_4 _ (List.mem_of_getElem? (i := 129) (by decide +kernel))) (by decide +kernel)
set_option maxRecDepth 20000 in
theorem t_979 : (Jvm.Cond.instanceMethod ({ cls := "MatchTrees$Order", name := "placeTaking", desc := "(LMatchTrees$Table;II)I" } : Jvm.MethodName)) ∈ WT := WT_of (sub_tables_1_4 _ (List.mem_of_getElem? (i := 130) (by decide +kernel))) (by decide +kernel)
set_option maxRecDepth 20000 in
theorem t_980 : (Jvm.Cond.selects "MatchTrees$Order" ({ cls := "MatchTrees$Order", name := "placeTaking", desc := "(LMatchTrees$Table;II)I" } : Jvm.MethodName) ({ cls := "MatchTrees$Order", name := "placeTaking", desc := "(LMatchTrees$Table;II)I" } : Jvm.MethodName)) ∈ WT := WT_of (sub_tables_1_4 _ (List.mem_of_getElem? (i := 131) (by decide +kernel))) (by decide +kernel)
set_option maxRecDepth 20000 in
theorem t_981 : (Jvm.Cond.code ({ cls := "MatchTrees$Order", name := "placeTaking", desc := "(LMatchTrees$Table;II)I" } : Jvm.MethodName) prog_7_method_11_code (6 : Nat) (Option.some Jvm.ClassFile.FieldType.int)) ∈ WT := WT_of (sub_tables_1_4 _ (List.mem_of_getElem? (i := 132) rfl)) (by decide +kernel)
set_option maxRecDepth 20000 in
theorem t_983 : (Jvm.Cond.methodLink "MatchTreesLaw" (51 : Nat) ({ cls := "MatchTrees", name := "fits", desc := "(III)I" } : Jvm.MethodName)) ∈ WT := WT_of (sub_tables_1_4 _ (List.mem_of_getElem? (i := 134) (by decide +kernel))) (by decide +kernel)
set_option maxRecDepth 20000 in
theorem t_984 : (Jvm.Cond.instanceMethod ({ cls := "MatchTrees", name := "fits", desc := "(III)I" } : Jvm.MethodName)) ∈ WT := WT_of (sub_tables_1_4 _ (List.mem_of_getElem? (i := 135) (by decide +kernel))) (by decide +kernel)
set_option maxRecDepth 20000 in
theorem t_985 : (Jvm.Cond.selects "MatchTrees" ({ cls := "MatchTrees", name := "fits", desc := "(III)I" } : Jvm.MethodName) ({ cls := "MatchTrees", name := "fits", desc := "(III)I" } : Jvm.MethodName)) ∈ WT := WT_of (sub_tables_1_4 _ (List.mem_of_getElem? (i := 136) (by decide +kernel))) (by decide +kernel)
set_option maxRecDepth 20000 in
theorem t_986 : (Jvm.Cond.code ({ cls := "MatchTrees", name := "fits", desc := "(III)I" } : Jvm.MethodName) prog_1_method_14_code (5 : Nat) (Option.some Jvm.ClassFile.FieldType.int)) ∈ WT := WT_of (sub_tables_1_4 _ (List.mem_of_getElem? (i := 137) rfl)) (by decide +kernel)
set_option maxRecDepth 20000 in
theorem t_987 : (Jvm.Cond.methodLink "MatchTrees" (246 : Nat) ({ cls := "MatchTrees$Table", name := "armsFitting", desc := "(II)I" } : Jvm.MethodName)) ∈ WT := WT_of (sub_tables_1_4 _ (List.mem_of_getElem? (i := 138) (by decide +kernel))) (by decide +kernel)
set_option maxRecDepth 20000 in
theorem t_988 : (Jvm.Cond.methodLink "MatchTreesLaw" (55 : Nat) ({ cls := "MatchTrees", name := "holds", desc := "(II)I" } : Jvm.MethodName)) ∈ WT := WT_of (sub_tables_1_4 _ (List.mem_of_getElem? (i := 139) (by decide +kernel))) (by decide +kernel)
set_option maxRecDepth 20000 in
theorem t_989 : (Jvm.Cond.instanceMethod ({ cls := "MatchTrees", name := "holds", desc := "(II)I" } : Jvm.MethodName)) ∈ WT := WT_of (sub_tables_1_4 _ (List.mem_of_getElem? (i := 140) (by decide +kernel))) (by decide +kernel)
set_option maxRecDepth 20000 in
theorem t_990 : (Jvm.Cond.selects "MatchTrees" ({ cls := "MatchTrees", name := "holds", desc := "(II)I" } : Jvm.MethodName) ({ cls := "MatchTrees", name := "holds", desc := "(II)I" } : Jvm.MethodName)) ∈ WT := WT_of (sub_tables_1_4 _ (List.mem_of_getElem? (i := 141) (by decide +kernel))) (by decide +kernel)
set_option maxRecDepth 20000 in
theorem t_991 : (Jvm.Cond.code ({ cls := "MatchTrees", name := "holds", desc := "(II)I" } : Jvm.MethodName) prog_1_method_15_code (7 : Nat) (Option.some Jvm.ClassFile.FieldType.int)) ∈ WT := WT_of (sub_tables_1_4 _ (List.mem_of_getElem? (i := 142) rfl)) (by decide +kernel)
set_option maxRecDepth 20000 in
theorem t_992 : (Jvm.Cond.methodLink "MatchTreesLaw" (59 : Nat) ({ cls := "MatchTrees", name := "missing", desc := "(I)I" } : Jvm.MethodName)) ∈ WT := WT_of (sub_tables_1_4 _ (List.mem_of_getElem? (i := 143) (by decide +kernel))) (by decide +kernel)
set_option maxRecDepth 20000 in
theorem t_993 : (Jvm.Cond.instanceMethod ({ cls := "MatchTrees", name := "missing", desc := "(I)I" } : Jvm.MethodName)) ∈ WT := WT_of (sub_tables_1_4 _ (List.mem_of_getElem? (i := 144) (by decide +kernel))) (by decide +kernel)
set_option maxRecDepth 20000 in
theorem t_994 : (Jvm.Cond.selects "MatchTrees" ({ cls := "MatchTrees", name := "missing", desc := "(I)I" } : Jvm.MethodName) ({ cls := "MatchTrees", name := "missing", desc := "(I)I" } : Jvm.MethodName)) ∈ WT := WT_of (sub_tables_1_4 _ (List.mem_of_getElem? (i := 145) (by decide +kernel))) (by decide +kernel)
set_option maxRecDepth 20000 in
theorem t_995 : (Jvm.Cond.code ({ cls := "MatchTrees", name := "missing", desc := "(I)I" } : Jvm.MethodName) prog_1_method_16_code (3 : Nat) (Option.some Jvm.ClassFile.FieldType.int)) ∈ WT := WT_of (sub_tables_1_4 _ (List.mem_of_getElem? (i := 146) rfl)) (by decide +kernel)
set_option maxRecDepth 20000 in
theorem t_996 : (Jvm.Cond.methodLink "MatchTrees" (249 : Nat) ({ cls := "MatchTrees", name := "countMissing", desc := "(I)I" } : Jvm.MethodName)) ∈ WT := WT_of (sub_tables_1_4 _ (List.mem_of_getElem? (i := 147) (by decide +kernel))) (by decide +kernel)
set_option maxRecDepth 20000 in
theorem t_998 : (Jvm.Cond.instanceMethod ({ cls := "MatchTrees", name := "countMissing", desc := "(I)I" } : Jvm.MethodName)) ∈ WT := WT_of (sub_tables_1_4 _ (List.mem_of_getElem? (i := 149) (by decide +kernel))) (by decide +kernel)
set_option maxRecDepth 20000 in
theorem t_999 : (Jvm.Cond.code ({ cls := "MatchTrees", name := "countMissing", desc := "(I)I" } : Jvm.MethodName) prog_1_method_17_code (4 : Nat) (Option.some Jvm.ClassFile.FieldType.int)) ∈ WT := WT_of (sub_tables_1_4 _ (List.mem_of_getElem? (i := 150) rfl)) (by decide +kernel)
set_option maxRecDepth 20000 in
theorem t_1000 : (Jvm.Cond.methodLink "MatchTrees" (252 : Nat) ({ cls := "MatchTrees", name := "findMissing", desc := "(II)I" } : Jvm.MethodName)) ∈ WT := WT_of (sub_tables_1_4 _ (List.mem_of_getElem? (i := 151) (by decide +kernel))) (by decide +kernel)
set_option maxRecDepth 20000 in
theorem t_1002 : (Jvm.Cond.instanceMethod ({ cls := "MatchTrees", name := "findMissing", desc := "(II)I" } : Jvm.MethodName)) ∈ WT := WT_of (sub_tables_1_4 _ (List.mem_of_getElem? (i := 153) (by decide +kernel))) (by decide +kernel)
set_option maxRecDepth 20000 in
theorem t_1003 : (Jvm.Cond.code ({ cls := "MatchTrees", name := "findMissing", desc := "(II)I" } : Jvm.MethodName) prog_1_method_18_code (5 : Nat) (Option.some Jvm.ClassFile.FieldType.int)) ∈ WT := WT_of (sub_tables_1_4 _ (List.mem_of_getElem? (i := 154) rfl)) (by decide +kernel)
set_option maxRecDepth 20000 in
theorem t_1004 : (Jvm.Cond.methodLink "MatchTrees" (255 : Nat) ({ cls := "MatchTrees$Table", name := "armsOf", desc := "(I)I" } : Jvm.MethodName)) ∈ WT := WT_of (sub_tables_1_4 _ (List.mem_of_getElem? (i := 155) (by decide +kernel))) (by decide +kernel)
set_option maxRecDepth 20000 in
theorem t_1005 : (Jvm.Cond.instanceMethod ({ cls := "MatchTrees$Table", name := "armsOf", desc := "(I)I" } : Jvm.MethodName)) ∈ WT := WT_of (sub_tables_1_4 _ (List.mem_of_getElem? (i := 156) (by decide +kernel))) (by decide +kernel)
set_option maxRecDepth 20000 in
theorem t_1006 : (Jvm.Cond.selects "MatchTrees$Table" ({ cls := "MatchTrees$Table", name := "armsOf", desc := "(I)I" } : Jvm.MethodName) ({ cls := "MatchTrees$Table", name := "armsOf", desc := "(I)I" } : Jvm.MethodName)) ∈ WT := WT_of (sub_tables_1_4 _ (List.mem_of_getElem? (i := 157) (by decide +kernel))) (by decide +kernel)
set_option maxRecDepth 20000 in
theorem t_1007 : (Jvm.Cond.code ({ cls := "MatchTrees$Table", name := "armsOf", desc := "(I)I" } : Jvm.MethodName) prog_11_method_10_code (6 : Nat) (Option.some Jvm.ClassFile.FieldType.int)) ∈ WT := WT_of (sub_tables_1_4 _ (List.mem_of_getElem? (i := 158) rfl)) (by decide +kernel)
set_option maxRecDepth 20000 in
theorem t_1008 : (Jvm.Cond.methodLink "MatchTrees$Table" (59 : Nat) ({ cls := "java/lang/Math", name := "max", desc := "(II)I" } : Jvm.MethodName)) ∈ WT := WT_of (sub_tables_1_4 _ (List.mem_of_getElem? (i := 159) (by decide +kernel))) (by decide +kernel)
set_option maxRecDepth 20000 in
theorem t_1009 : (Jvm.Cond.methodLink "MatchTrees$Table" (65 : Nat) ({ cls := "MatchTrees$Table", name := "armsFitting", desc := "(II)I" } : Jvm.MethodName)) ∈ WT := WT_of (sub_tables_1_4 _ (List.mem_of_getElem? (i := 160) (by decide +kernel))) (by decide +kernel)
set_option maxRecDepth 20000 in
theorem t_1010 : (Jvm.Cond.methodLink "MatchTreesLaw" (63 : Nat) ({ cls := "MatchTrees", name := "taken", desc := "(I)I" } : Jvm.MethodName)) ∈ WT := WT_of (sub_tables_1_4 _ (List.mem_of_getElem? (i := 161) (by decide +kernel))) (by decide +kernel)
set_option maxRecDepth 20000 in
theorem t_1011 : (Jvm.Cond.instanceMethod ({ cls := "MatchTrees", name := "taken", desc := "(I)I" } : Jvm.MethodName)) ∈ WT := WT_of (sub_tables_1_4 _ (List.mem_of_getElem? (i := 162) (by decide +kernel))) (by decide +kernel)
set_option maxRecDepth 20000 in
theorem t_1012 : (Jvm.Cond.selects "MatchTrees" ({ cls := "MatchTrees", name := "taken", desc := "(I)I" } : Jvm.MethodName) ({ cls := "MatchTrees", name := "taken", desc := "(I)I" } : Jvm.MethodName)) ∈ WT := WT_of (sub_tables_1_4 _ (List.mem_of_getElem? (i := 163) (by decide +kernel))) (by decide +kernel)
set_option maxRecDepth 20000 in
theorem t_1013 : (Jvm.Cond.code ({ cls := "MatchTrees", name := "taken", desc := "(I)I" } : Jvm.MethodName) prog_1_method_19_code (2 : Nat) (Option.some Jvm.ClassFile.FieldType.int)) ∈ WT := WT_of (sub_tables_1_4 _ (List.mem_of_getElem? (i := 164) rfl)) (by decide +kernel)
set_option maxRecDepth 20000 in
theorem t_1014 : (Jvm.Cond.methodLink "MatchTrees" (258 : Nat) ({ cls := "MatchTrees$Table", name := "isRow", desc := "(I)Z" } : Jvm.MethodName)) ∈ WT := WT_of (sub_tables_1_4 _ (List.mem_of_getElem? (i := 165) (by decide +kernel))) (by decide +kernel)
set_option maxRecDepth 20000 in
theorem t_1015 : (Jvm.Cond.instanceMethod ({ cls := "MatchTrees$Table", name := "isRow", desc := "(I)Z" } : Jvm.MethodName)) ∈ WT := WT_of (sub_tables_1_4 _ (List.mem_of_getElem? (i := 166) (by decide +kernel))) (by decide +kernel)
set_option maxRecDepth 20000 in
theorem t_1016 : (Jvm.Cond.selects "MatchTrees$Table" ({ cls := "MatchTrees$Table", name := "isRow", desc := "(I)Z" } : Jvm.MethodName) ({ cls := "MatchTrees$Table", name := "isRow", desc := "(I)Z" } : Jvm.MethodName)) ∈ WT := WT_of (sub_tables_1_4 _ (List.mem_of_getElem? (i := 167) (by decide +kernel))) (by decide +kernel)
set_option maxRecDepth 20000 in
theorem t_1017 : (Jvm.Cond.code ({ cls := "MatchTrees$Table", name := "isRow", desc := "(I)Z" } : Jvm.MethodName) prog_11_method_7_code (2 : Nat) (Option.some Jvm.ClassFile.FieldType.boolean)) ∈ WT := WT_of (sub_tables_1_4 _ (List.mem_of_getElem? (i := 168) rfl)) (by decide +kernel)
set_option maxRecDepth 20000 in
theorem t_1018 : (Jvm.Cond.methodLink "MatchTreesLaw" (67 : Nat) ({ cls := "MatchTrees", name := "row", desc := "()I" } : Jvm.MethodName)) ∈ WT := WT_of (sub_tables_1_4 _ (List.mem_of_getElem? (i := 169) (by decide +kernel))) (by decide +kernel)
set_option maxRecDepth 20000 in
theorem t_1019 : (Jvm.Cond.instanceMethod ({ cls := "MatchTrees", name := "row", desc := "()I" } : Jvm.MethodName)) ∈ WT := WT_of (sub_tables_1_4 _ (List.mem_of_getElem? (i := 170) (by decide +kernel))) (by decide +kernel)
set_option maxRecDepth 20000 in
theorem t_1020 : (Jvm.Cond.selects "MatchTrees" ({ cls := "MatchTrees", name := "row", desc := "()I" } : Jvm.MethodName) ({ cls := "MatchTrees", name := "row", desc := "()I" } : Jvm.MethodName)) ∈ WT := WT_of (sub_tables_1_4 _ (List.mem_of_getElem? (i := 171) (by decide +kernel))) (by decide +kernel)
set_option maxRecDepth 20000 in
theorem t_1021 : (Jvm.Cond.code ({ cls := "MatchTrees", name := "row", desc := "()I" } : Jvm.MethodName) prog_1_method_20_code (2 : Nat) (Option.some Jvm.ClassFile.FieldType.int)) ∈ WT := WT_of (sub_tables_1_4 _ (List.mem_of_getElem? (i := 172) rfl)) (by decide +kernel)
set_option maxRecDepth 20000 in
theorem t_1022 : (Jvm.Cond.methodLink "MatchTrees" (261 : Nat) ({ cls := "MatchTrees$Reader", name := "readRow", desc := "(LMatchTrees$Bytes;LMatchTrees$Table;)I" } : Jvm.MethodName)) ∈ WT := WT_of (sub_tables_1_4 _ (List.mem_of_getElem? (i := 173) (by decide +kernel))) (by decide +kernel)
set_option maxRecDepth 20000 in
theorem t_1023 : (Jvm.Cond.instanceMethod ({ cls := "MatchTrees$Reader", name := "readRow", desc := "(LMatchTrees$Bytes;LMatchTrees$Table;)I" } : Jvm.MethodName)) ∈ WT := WT_of (sub_tables_1_4 _ (List.mem_of_getElem? (i := 174) (by decide +kernel))) (by decide +kernel)
set_option maxRecDepth 20000 in
theorem t_1024 : (Jvm.Cond.selects "MatchTrees$Reader" ({ cls := "MatchTrees$Reader", name := "readRow", desc := "(LMatchTrees$Bytes;LMatchTrees$Table;)I" } : Jvm.MethodName) ({ cls := "MatchTrees$Reader", name := "readRow", desc := "(LMatchTrees$Bytes;LMatchTrees$Table;)I" } : Jvm.MethodName)) ∈ WT := WT_of (sub_tables_1_4 _ (List.mem_of_getElem? (i := 175) (by decide +kernel))) (by decide +kernel)
set_option maxRecDepth 20000 in
theorem t_1025 : (Jvm.Cond.code ({ cls := "MatchTrees$Reader", name := "readRow", desc := "(LMatchTrees$Bytes;LMatchTrees$Table;)I" } : Jvm.MethodName) prog_8_method_24_code (6 : Nat) (Option.some Jvm.ClassFile.FieldType.int)) ∈ WT := WT_of (sub_tables_1_4 _ (List.mem_of_getElem? (i := 176) rfl)) (by decide +kernel)
set_option maxRecDepth 20000 in
theorem t_1026 : (Jvm.Cond.methodLink "MatchTrees$Reader" (214 : Nat) ({ cls := "MatchTrees$Reader", name := "readValue", desc := "(LMatchTrees$Reader;II)I" } : Jvm.MethodName)) ∈ WT := WT_of (sub_tables_1_4 _ (List.mem_of_getElem? (i := 177) (by decide +kernel))) (by decide +kernel)
set_option maxRecDepth 20000 in
theorem t_1027 : (Jvm.Cond.static ({ cls := "MatchTrees$Reader", name := "readValue", desc := "(LMatchTrees$Reader;II)I" } : Jvm.MethodName)) ∈ WT := WT_of (sub_tables_1_4 _ (List.mem_of_getElem? (i := 178) (by decide +kernel))) (by decide +kernel)
set_option maxRecDepth 20000 in
theorem t_1028 : (Jvm.Cond.code ({ cls := "MatchTrees$Reader", name := "readValue", desc := "(LMatchTrees$Reader;II)I" } : Jvm.MethodName) prog_8_method_25_code (7 : Nat) (Option.some Jvm.ClassFile.FieldType.int)) ∈ WT := WT_of (sub_tables_1_4 _ (List.mem_of_getElem? (i := 179) rfl)) (by decide +kernel)
set_option maxRecDepth 20000 in
theorem t_1029 : (Jvm.Cond.methodLink "MatchTreesLaw" (71 : Nat) ({ cls := "MatchTrees", name := "text", desc := "(I)I" } : Jvm.MethodName)) ∈ WT := WT_of (sub_tables_1_4 _ (List.mem_of_getElem? (i := 180) (by decide +kernel))) (by decide +kernel)
set_option maxRecDepth 20000 in
theorem t_1030 : (Jvm.Cond.instanceMethod ({ cls := "MatchTrees", name := "text", desc := "(I)I" } : Jvm.MethodName)) ∈ WT := WT_of (sub_tables_1_4 _ (List.mem_of_getElem? (i := 181) (by decide +kernel))) (by decide +kernel)
set_option maxRecDepth 20000 in
theorem t_1031 : (Jvm.Cond.selects "MatchTrees" ({ cls := "MatchTrees", name := "text", desc := "(I)I" } : Jvm.MethodName) ({ cls := "MatchTrees", name := "text", desc := "(I)I" } : Jvm.MethodName)) ∈ WT := WT_of (sub_tables_1_4 _ (List.mem_of_getElem? (i := 182) (by decide +kernel))) (by decide +kernel)
set_option maxRecDepth 20000 in
theorem t_1032 : (Jvm.Cond.code ({ cls := "MatchTrees", name := "text", desc := "(I)I" } : Jvm.MethodName) prog_1_method_21_code (3 : Nat) (Option.some Jvm.ClassFile.FieldType.int)) ∈ WT := WT_of (sub_tables_1_4 _ (List.mem_of_getElem? (i := 183) rfl)) (by decide +kernel)
set_option maxRecDepth 20000 in
theorem t_1033 : (Jvm.Cond.methodLink "MatchTrees" (264 : Nat) ({ cls := "MatchTrees$Bytes", name := "add", desc := "(I)V" } : Jvm.MethodName)) ∈ WT := WT_of (sub_tables_1_4 _ (List.mem_of_getElem? (i := 184) (by decide +kernel))) (by decide +kernel)
set_option maxRecDepth 20000 in
theorem t_1034 : (Jvm.Cond.methodLink "MatchTrees" (269 : Nat) ({ cls := "MatchTrees$Table", name := "valueOf", desc := "(II)I" } : Jvm.MethodName)) ∈ WT := WT_of (sub_tables_1_4 _ (List.mem_of_getElem? (i := 185) (by decide +kernel))) (by decide +kernel)
set_option maxRecDepth 20000 in
theorem t_1035 : (Jvm.Cond.instanceMethod ({ cls := "MatchTrees$Table", name := "valueOf", desc := "(II)I" } : Jvm.MethodName)) ∈ WT := WT_of (sub_tables_1_4 _ (List.mem_of_getElem? (i := 186) (by decide +kernel))) (by decide +kernel)
set_option maxRecDepth 20000 in
theorem t_1036 : (Jvm.Cond.selects "MatchTrees$Table" ({ cls := "MatchTrees$Table", name := "valueOf", desc := "(II)I" } : Jvm.MethodName) ({ cls := "MatchTrees$Table", name := "valueOf", desc := "(II)I" } : Jvm.MethodName)) ∈ WT := WT_of (sub_tables_1_4 _ (List.mem_of_getElem? (i := 187) (by decide +kernel))) (by decide +kernel)
set_option maxRecDepth 20000 in
theorem t_1037 : (Jvm.Cond.code ({ cls := "MatchTrees$Table", name := "valueOf", desc := "(II)I" } : Jvm.MethodName) prog_11_method_9_code (5 : Nat) (Option.some Jvm.ClassFile.FieldType.int)) ∈ WT := WT_of (sub_tables_1_4 _ (List.mem_of_getElem? (i := 188) rfl)) (by decide +kernel)
set_option maxRecDepth 20000 in
theorem t_1038 : (Jvm.Cond.methodLink "MatchTrees" (272 : Nat) ({ cls := "MatchTrees", name := "writeValue", desc := "(LMatchTrees$Bytes;LMatchTrees$Kinds;III)V" } : Jvm.MethodName)) ∈ WT := WT_of (sub_tables_1_4 _ (List.mem_of_getElem? (i := 189) (by decide +kernel))) (by decide +kernel)
set_option maxRecDepth 20000 in
theorem t_1039 : (Jvm.Cond.static ({ cls := "MatchTrees", name := "writeValue", desc := "(LMatchTrees$Bytes;LMatchTrees$Kinds;III)V" } : Jvm.MethodName)) ∈ WT := WT_of (sub_tables_1_4 _ (List.mem_of_getElem? (i := 190) (by decide +kernel))) (by decide +kernel)
set_option maxRecDepth 20000 in
theorem t_1040 : (Jvm.Cond.code ({ cls := "MatchTrees", name := "writeValue", desc := "(LMatchTrees$Bytes;LMatchTrees$Kinds;III)V" } : Jvm.MethodName) prog_1_method_22_code (8 : Nat) (Option.none : Option Jvm.ClassFile.FieldType)) ∈ WT := WT_of (sub_tables_1_4 _ (List.mem_of_getElem? (i := 191) rfl)) (by decide +kernel)
set_option maxRecDepth 20000 in
theorem t_1041 : (Jvm.Cond.methodLink "MatchTrees" (276 : Nat) ({ cls := "MatchTrees$Bytes", name := "addNumber", desc := "(I)V" } : Jvm.MethodName)) ∈ WT := WT_of (sub_tables_1_4 _ (List.mem_of_getElem? (i := 192) (by decide +kernel))) (by decide +kernel)
set_option maxRecDepth 20000 in
theorem t_1042 : (Jvm.Cond.instanceMethod ({ cls := "MatchTrees$Bytes", name := "addNumber", desc := "(I)V" } : Jvm.MethodName)) ∈ WT := WT_of (sub_tables_1_4 _ (List.mem_of_getElem? (i := 193) (by decide +kernel))) (by decide +kernel)
set_option maxRecDepth 20000 in
theorem t_1043 : (Jvm.Cond.selects "MatchTrees$Bytes" ({ cls := "MatchTrees$Bytes", name := "addNumber", desc := "(I)V" } : Jvm.MethodName) ({ cls := "MatchTrees$Bytes", name := "addNumber", desc := "(I)V" } : Jvm.MethodName)) ∈ WT := WT_of (sub_tables_1_4 _ (List.mem_of_getElem? (i := 194) (by decide +kernel))) (by decide +kernel)
set_option maxRecDepth 20000 in
theorem t_1044 : (Jvm.Cond.code ({ cls := "MatchTrees$Bytes", name := "addNumber", desc := "(I)V" } : Jvm.MethodName) prog_3_method_4_code (2 : Nat) (Option.none : Option Jvm.ClassFile.FieldType)) ∈ WT := WT_of (sub_tables_1_4 _ (List.mem_of_getElem? (i := 195) rfl)) (by decide +kernel)
set_option maxRecDepth 20000 in
theorem t_1045 : (Jvm.Cond.methodLink "MatchTrees" (279 : Nat) ({ cls := "MatchTrees$Kinds", name := "conOf", desc := "(II)I" } : Jvm.MethodName)) ∈ WT := WT_of (sub_tables_1_4 _ (List.mem_of_getElem? (i := 196) (by decide +kernel))) (by decide +kernel)
set_option maxRecDepth 20000 in
theorem t_1046 : (Jvm.Cond.instanceMethod ({ cls := "MatchTrees$Kinds", name := "conOf", desc := "(II)I" } : Jvm.MethodName)) ∈ WT := WT_of (sub_tables_1_4 _ (List.mem_of_getElem? (i := 197) (by decide +kernel))) (by decide +kernel)
set_option maxRecDepth 20000 in
theorem t_1047 : (Jvm.Cond.selects "MatchTrees$Kinds" ({ cls := "MatchTrees$Kinds", name := "conOf", desc := "(II)I" } : Jvm.MethodName) ({ cls := "MatchTrees$Kinds", name := "conOf", desc := "(II)I" } : Jvm.MethodName)) ∈ WT := WT_of (sub_tables_1_4 _ (List.mem_of_getElem? (i := 198) (by decide +kernel))) (by decide +kernel)
set_option maxRecDepth 20000 in
theorem t_1048 : (Jvm.Cond.code ({ cls := "MatchTrees$Kinds", name := "conOf", desc := "(II)I" } : Jvm.MethodName) prog_5_method_10_code (6 : Nat) (Option.some Jvm.ClassFile.FieldType.int)) ∈ WT := WT_of (sub_tables_1_4 _ (List.mem_of_getElem? (i := 199) rfl)) (by decide +kernel)
set_option maxRecDepth 20000 in
theorem t_1049 : (Jvm.Cond.methodLink "MatchTrees" (282 : Nat) ({ cls := "MatchTrees$Bytes", name := "addName", desc := "(I)V" } : Jvm.MethodName)) ∈ WT := WT_of (sub_tables_1_4 _ (List.mem_of_getElem? (i := 200) (by decide +kernel))) (by decide +kernel)
set_option maxRecDepth 20000 in
theorem t_1050 : (Jvm.Cond.instanceMethod ({ cls := "MatchTrees$Bytes", name := "addName", desc := "(I)V" } : Jvm.MethodName)) ∈ WT := WT_of (sub_tables_1_4 _ (List.mem_of_getElem? (i := 201) (by decide +kernel))) (by decide +kernel)
set_option maxRecDepth 20000 in
theorem t_1051 : (Jvm.Cond.selects "MatchTrees$Bytes" ({ cls := "MatchTrees$Bytes", name := "addName", desc := "(I)V" } : Jvm.MethodName) ({ cls := "MatchTrees$Bytes", name := "addName", desc := "(I)V" } : Jvm.MethodName)) ∈ WT := WT_of (sub_tables_1_4 _ (List.mem_of_getElem? (i := 202) (by decide +kernel))) (by decide +kernel)
set_option maxRecDepth 20000 in
theorem t_1052 : (Jvm.Cond.code ({ cls := "MatchTrees$Bytes", name := "addName", desc := "(I)V" } : Jvm.MethodName) prog_3_method_5_code (4 : Nat) (Option.none : Option Jvm.ClassFile.FieldType)) ∈ WT := WT_of (sub_tables_1_4 _ (List.mem_of_getElem? (i := 203) rfl)) (by decide +kernel)
set_option maxRecDepth 20000 in
theorem t_1054 : (Jvm.Cond.methodLink "MatchTrees" (285 : Nat) ({ cls := "MatchTrees$Kinds", name := "secondSize", desc := "(I)I" } : Jvm.MethodName)) ∈ WT := WT_of (sub_tables_1_4 _ (List.mem_of_getElem? (i := 205) (by decide +kernel))) (by decide +kernel)
set_option maxRecDepth 20000 in
theorem t_1055 : (Jvm.Cond.methodLink "MatchTreesLaw" (75 : Nat) ({ cls := "MatchTrees", name := "octet", desc := "(I)I" } : Jvm.MethodName)) ∈ WT := WT_of (sub_tables_1_4 _ (List.mem_of_getElem? (i := 206) (by decide +kernel))) (by decide +kernel)
set_option maxRecDepth 20000 in
theorem t_1056 : (Jvm.Cond.instanceMethod ({ cls := "MatchTrees", name := "octet", desc := "(I)I" } : Jvm.MethodName)) ∈ WT := WT_of (sub_tables_1_4 _ (List.mem_of_getElem? (i := 207) (by decide +kernel))) (by decide +kernel)
set_option maxRecDepth 20000 in
theorem t_1057 : (Jvm.Cond.selects "MatchTrees" ({ cls := "MatchTrees", name := "octet", desc := "(I)I" } : Jvm.MethodName) ({ cls := "MatchTrees", name := "octet", desc := "(I)I" } : Jvm.MethodName)) ∈ WT := WT_of (sub_tables_1_4 _ (List.mem_of_getElem? (i := 208) (by decide +kernel))) (by decide +kernel)
set_option maxRecDepth 20000 in
theorem t_1058 : (Jvm.Cond.code ({ cls := "MatchTrees", name := "octet", desc := "(I)I" } : Jvm.MethodName) prog_1_method_23_code (2 : Nat) (Option.some Jvm.ClassFile.FieldType.int)) ∈ WT := WT_of (sub_tables_1_4 _ (List.mem_of_getElem? (i := 209) rfl)) (by decide +kernel)
set_option maxRecDepth 20000 in
theorem t_1059 : (Jvm.Cond.methodLink "MatchTrees" (300 : Nat) ({ cls := "MatchTrees$Bytes", name := "byteAt", desc := "(I)I" } : Jvm.MethodName)) ∈ WT := WT_of (sub_tables_1_4 _ (List.mem_of_getElem? (i := 210) (by decide +kernel))) (by decide +kernel)
set_option maxRecDepth 20000 in
theorem t_1060 : (Jvm.Cond.instanceMethod ({ cls := "MatchTrees$Bytes", name := "byteAt", desc := "(I)I" } : Jvm.MethodName)) ∈ WT := WT_of (sub_tables_1_4 _ (List.mem_of_getElem? (i := 211) (by decide +kernel))) (by decide +kernel)
set_option maxRecDepth 20000 in
theorem t_1061 : (Jvm.Cond.selects "MatchTrees$Bytes" ({ cls := "MatchTrees$Bytes", name := "byteAt", desc := "(I)I" } : Jvm.MethodName) ({ cls := "MatchTrees$Bytes", name := "byteAt", desc := "(I)I" } : Jvm.MethodName)) ∈ WT := WT_of (sub_tables_1_4 _ (List.mem_of_getElem? (i := 212) (by decide +kernel))) (by decide +kernel)
set_option maxRecDepth 20000 in
theorem t_1062 : (Jvm.Cond.code ({ cls := "MatchTrees$Bytes", name := "byteAt", desc := "(I)I" } : Jvm.MethodName) prog_3_method_6_code (2 : Nat) (Option.some Jvm.ClassFile.FieldType.int)) ∈ WT := WT_of (sub_tables_1_4 _ (List.mem_of_getElem? (i := 213) rfl)) (by decide +kernel)
set_option maxRecDepth 20000 in
theorem t_1063 : (Jvm.Cond.methodLink "MatchTreesLaw" (79 : Nat) ({ cls := "MatchTrees", name := "tree", desc := "(II)I" } : Jvm.MethodName)) ∈ WT := WT_of (sub_tables_1_4 _ (List.mem_of_getElem? (i := 214) (by decide +kernel))) (by decide +kernel)
set_option maxRecDepth 20000 in
theorem t_1064 : (Jvm.Cond.instanceMethod ({ cls := "MatchTrees", name := "tree", desc := "(II)I" } : Jvm.MethodName)) ∈ WT := WT_of (sub_tables_1_4 _ (List.mem_of_getElem? (i := 215) (by decide +kernel))) (by decide +kernel)
set_option maxRecDepth 20000 in
theorem t_1065 : (Jvm.Cond.selects "MatchTrees" ({ cls := "MatchTrees", name := "tree", desc := "(II)I" } : Jvm.MethodName) ({ cls := "MatchTrees", name := "tree", desc := "(II)I" } : Jvm.MethodName)) ∈ WT := WT_of (sub_tables_1_4 _ (List.mem_of_getElem? (i := 216) (by decide +kernel))) (by decide +kernel)
set_option maxRecDepth 20000 in
theorem t_1066 : (Jvm.Cond.code ({ cls := "MatchTrees", name := "tree", desc := "(II)I" } : Jvm.MethodName) prog_1_method_24_code (5 : Nat) (Option.some Jvm.ClassFile.FieldType.int)) ∈ WT := WT_of (sub_tables_1_4 _ (List.mem_of_getElem? (i := 217) rfl)) (by decide +kernel)
set_option maxRecDepth 20000 in
theorem t_1067 : (Jvm.Cond.methodLink "MatchTrees" (303 : Nat) ({ cls := "MatchTrees", name := "isRule", desc := "(I)Z" } : Jvm.MethodName)) ∈ WT := WT_of (sub_tables_1_4 _ (List.mem_of_getElem? (i := 218) (by decide +kernel))) (by decide +kernel)
set_option maxRecDepth 20000 in
theorem t_1068 : (Jvm.Cond.static ({ cls := "MatchTrees", name := "isRule", desc := "(I)Z" } : Jvm.MethodName)) ∈ WT := WT_of (sub_tables_1_4 _ (List.mem_of_getElem? (i := 219) (by decide +kernel))) (by decide +kernel)
set_option maxRecDepth 20000 in
theorem t_1069 : (Jvm.Cond.code ({ cls := "MatchTrees", name := "isRule", desc := "(I)Z" } : Jvm.MethodName) prog_1_method_53_code (1 : Nat) (Option.some Jvm.ClassFile.FieldType.boolean)) ∈ WT := WT_of (sub_tables_1_4 _ (List.mem_of_getElem? (i := 220) rfl)) (by decide +kernel)
set_option maxRecDepth 20000 in
theorem t_1070 : (Jvm.Cond.methodLink "MatchTrees" (306 : Nat) ({ cls := "MatchTrees$Trees", name := "measureAll", desc := "(LMatchTrees$Order;I)J" } : Jvm.MethodName)) ∈ WT := WT_of (sub_tables_1_4 _ (List.mem_of_getElem? (i := 221) (by decide +kernel))) (by decide +kernel)
set_option maxRecDepth 20000 in
theorem t_1071 : (Jvm.Cond.instanceMethod ({ cls := "MatchTrees$Trees", name := "measureAll", desc := "(LMatchTrees$Order;I)J" } : Jvm.MethodName)) ∈ WT := WT_of (sub_tables_1_4 _ (List.mem_of_getElem? (i := 222) (by decide +kernel))) (by decide +kernel)
set_option maxRecDepth 20000 in
theorem t_1072 : (Jvm.Cond.selects "MatchTrees$Trees" ({ cls := "MatchTrees$Trees", name := "measureAll", desc := "(LMatchTrees$Order;I)J" } : Jvm.MethodName) ({ cls := "MatchTrees$Trees", name := "measureAll", desc := "(LMatchTrees$Order;I)J" } : Jvm.MethodName)) ∈ WT := WT_of (sub_tables_1_4 _ (List.mem_of_getElem? (i := 223) (by decide +kernel))) (by decide +kernel)
set_option maxRecDepth 20000 in
theorem t_1073 : (Jvm.Cond.code ({ cls := "MatchTrees$Trees", name := "measureAll", desc := "(LMatchTrees$Order;I)J" } : Jvm.MethodName) prog_12_method_11_code (3 : Nat) (Option.some Jvm.ClassFile.FieldType.long)) ∈ WT := WT_of (sub_tables_1_4 _ (List.mem_of_getElem? (i := 224) rfl)) (by decide +kernel)
set_option maxRecDepth 20000 in
theorem t_1074 : (Jvm.Cond.methodLink "MatchTrees$Trees" (134 : Nat) ({ cls := "MatchTrees$Order", name := "allArms", desc := "()I" } : Jvm.MethodName)) ∈ WT := WT_of (sub_tables_1_4 _ (List.mem_of_getElem? (i := 225) (by decide +kernel))) (by decide +kernel)
set_option maxRecDepth 20000 in
theorem t_1075 : (Jvm.Cond.instanceMethod ({ cls := "MatchTrees$Order", name := "allArms", desc := "()I" } : Jvm.MethodName)) ∈ WT := WT_of (sub_tables_1_4 _ (List.mem_of_getElem? (i := 226) (by decide +kernel))) (by decide +kernel)
set_option maxRecDepth 20000 in
theorem t_1076 : (Jvm.Cond.selects "MatchTrees$Order" ({ cls := "MatchTrees$Order", name := "allArms", desc := "()I" } : Jvm.MethodName) ({ cls := "MatchTrees$Order", name := "allArms", desc := "()I" } : Jvm.MethodName)) ∈ WT := WT_of (sub_tables_1_4 _ (List.mem_of_getElem? (i := 227) (by decide +kernel))) (by decide +kernel)
set_option maxRecDepth 20000 in
theorem t_1077 : (Jvm.Cond.code ({ cls := "MatchTrees$Order", name := "allArms", desc := "()I" } : Jvm.MethodName) prog_7_method_8_code (3 : Nat) (Option.some Jvm.ClassFile.FieldType.int)) ∈ WT := WT_of (sub_tables_1_4 _ (List.mem_of_getElem? (i := 228) rfl)) (by decide +kernel)
set_option maxRecDepth 20000 in
theorem t_1078 : (Jvm.Cond.methodLink "MatchTrees$Trees" (138 : Nat) ({ cls := "MatchTrees$Trees", name := "allColumns", desc := "()I" } : Jvm.MethodName)) ∈ WT := WT_of (sub_tables_1_4 _ (List.mem_of_getElem? (i := 229) (by decide +kernel))) (by decide +kernel)
set_option maxRecDepth 20000 in
theorem t_1080 : (Jvm.Cond.instanceMethod ({ cls := "MatchTrees$Trees", name := "allColumns", desc := "()I" } : Jvm.MethodName)) ∈ WT := WT_of (sub_tables_1_4 _ (List.mem_of_getElem? (i := 231) (by decide +kernel))) (by decide +kernel)
set_option maxRecDepth 20000 in
theorem t_1081 : (Jvm.Cond.code ({ cls := "MatchTrees$Trees", name := "allColumns", desc := "()I" } : Jvm.MethodName) prog_12_method_3_code (1 : Nat) (Option.some Jvm.ClassFile.FieldType.int)) ∈ WT := WT_of (sub_tables_1_4 _ (List.mem_of_getElem? (i := 232) rfl)) (by decide +kernel)
set_option maxRecDepth 20000 in
theorem t_1082 : (Jvm.Cond.methodLink "MatchTrees$Trees" (141 : Nat) ({ cls := "MatchTrees$Trees", name := "measure", desc := "(LMatchTrees$Trees;III)J" } : Jvm.MethodName)) ∈ WT := WT_of (sub_tables_1_4 _ (List.mem_of_getElem? (i := 233) (by decide +kernel))) (by decide +kernel)
set_option maxRecDepth 20000 in
theorem t_1083 : (Jvm.Cond.static ({ cls := "MatchTrees$Trees", name := "measure", desc := "(LMatchTrees$Trees;III)J" } : Jvm.MethodName)) ∈ WT := WT_of (sub_tables_1_4 _ (List.mem_of_getElem? (i := 234) (by decide +kernel))) (by decide +kernel)
set_option maxRecDepth 20000 in
theorem t_1084 : (Jvm.Cond.code ({ cls := "MatchTrees$Trees", name := "measure", desc := "(LMatchTrees$Trees;III)J" } : Jvm.MethodName) prog_12_method_12_code (16 : Nat) (Option.some Jvm.ClassFile.FieldType.long)) ∈ WT := WT_of (sub_tables_1_4 _ (List.mem_of_getElem? (i := 235) rfl)) (by decide +kernel)
set_option maxRecDepth 20000 in
theorem t_1085 : (Jvm.Cond.methodLink "MatchTrees$Trees" (145 : Nat) ({ cls := "MatchTrees$Trees", name := "columnAsked", desc := "(II)I" } : Jvm.MethodName)) ∈ WT := WT_of (sub_tables_1_4 _ (List.mem_of_getElem? (i := 236) (by decide +kernel))) (by decide +kernel)
set_option maxRecDepth 20000 in
theorem t_1087 : (Jvm.Cond.instanceMethod ({ cls := "MatchTrees$Trees", name := "columnAsked", desc := "(II)I" } : Jvm.MethodName)) ∈ WT := WT_of (sub_tables_1_4 _ (List.mem_of_getElem? (i := 238) (by decide +kernel))) (by decide +kernel)
set_option maxRecDepth 20000 in
theorem t_1088 : (Jvm.Cond.code ({ cls := "MatchTrees$Trees", name := "columnAsked", desc := "(II)I" } : Jvm.MethodName) prog_12_method_4_code (8 : Nat) (Option.some Jvm.ClassFile.FieldType.int)) ∈ WT := WT_of (sub_tables_1_4 _ (List.mem_of_getElem? (i := 239) rfl)) (by decide +kernel)
set_option maxRecDepth 20000 in
theorem t_1089 : (Jvm.Cond.methodLink "MatchTrees$Trees" (64 : Nat) ({ cls := "MatchTrees$Order", name := "firstOf", desc := "(I)I" } : Jvm.MethodName)) ∈ WT := WT_of (sub_tables_1_5 _ (List.mem_of_getElem? (i := 0) (by decide +kernel))) (by decide +kernel)
set_option maxRecDepth 20000 in
theorem t_1090 : (Jvm.Cond.instanceMethod ({ cls := "MatchTrees$Order", name := "firstOf", desc := "(I)I" } : Jvm.MethodName)) ∈ WT := WT_of (sub_tables_1_5 _ (List.mem_of_getElem? (i := 1) (by decide +kernel))) (by decide +kernel)
set_option maxRecDepth 20000 in
theorem t_1091 : (Jvm.Cond.selects "MatchTrees$Order" ({ cls := "MatchTrees$Order", name := "firstOf", desc := "(I)I" } : Jvm.MethodName) ({ cls := "MatchTrees$Order", name := "firstOf", desc := "(I)I" } : Jvm.MethodName)) ∈ WT := WT_of (sub_tables_1_5 _ (List.mem_of_getElem? (i := 2) (by decide +kernel))) (by decide +kernel)
set_option maxRecDepth 20000 in
theorem t_1092 : (Jvm.Cond.code ({ cls := "MatchTrees$Order", name := "firstOf", desc := "(I)I" } : Jvm.MethodName) prog_7_method_9_code (3 : Nat) (Option.some Jvm.ClassFile.FieldType.int)) ∈ WT := WT_of (sub_tables_1_5 _ (List.mem_of_getElem? (i := 3) rfl)) (by decide +kernel)
set_option maxRecDepth 20000 in
theorem t_1094 : (Jvm.Cond.methodLink "MatchTrees$Trees" (77 : Nat) ({ cls := "MatchTrees$Trees", name := "costOf", desc := "(II)I" } : Jvm.MethodName)) ∈ WT := WT_of (sub_tables_1_5 _ (List.mem_of_getElem? (i := 5) (by decide +kernel))) (by decide +kernel)
set_option maxRecDepth 20000 in
theorem t_1096 : (Jvm.Cond.instanceMethod ({ cls := "MatchTrees$Trees", name := "costOf", desc := "(II)I" } : Jvm.MethodName)) ∈ WT := WT_of (sub_tables_1_5 _ (List.mem_of_getElem? (i := 7) (by decide +kernel))) (by decide +kernel)
set_option maxRecDepth 20000 in
theorem t_1097 : (Jvm.Cond.code ({ cls := "MatchTrees$Trees", name := "costOf", desc := "(II)I" } : Jvm.MethodName) prog_12_method_5_code (3 : Nat) (Option.some Jvm.ClassFile.FieldType.int)) ∈ WT := WT_of (sub_tables_1_5 _ (List.mem_of_getElem? (i := 8) rfl)) (by decide +kernel)
set_option maxRecDepth 20000 in
theorem t_1098 : (Jvm.Cond.methodLink "MatchTrees$Trees" (83 : Nat) ({ cls := "MatchTrees$Trees", name := "notFullInRow", desc := "(II)I" } : Jvm.MethodName)) ∈ WT := WT_of (sub_tables_1_5 _ (List.mem_of_getElem? (i := 9) (by decide +kernel))) (by decide +kernel)
set_option maxRecDepth 20000 in
theorem t_1100 : (Jvm.Cond.instanceMethod ({ cls := "MatchTrees$Trees", name := "notFullInRow", desc := "(II)I" } : Jvm.MethodName)) ∈ WT := WT_of (sub_tables_1_5 _ (List.mem_of_getElem? (i := 11) (by decide +kernel))) (by decide +kernel)
set_option maxRecDepth 20000 in
theorem t_1101 : (Jvm.Cond.code ({ cls := "MatchTrees$Trees", name := "notFullInRow", desc := "(II)I" } : Jvm.MethodName) prog_12_method_6_code (6 : Nat) (Option.some Jvm.ClassFile.FieldType.int)) ∈ WT := WT_of (sub_tables_1_5 _ (List.mem_of_getElem? (i := 12) rfl)) (by decide +kernel)
set_option maxRecDepth 20000 in
theorem t_1102 : (Jvm.Cond.methodLink "MatchTrees$Trees" (86 : Nat) ({ cls := "MatchTrees$Trees", name := "countBranches", desc := "(II)I" } : Jvm.MethodName)) ∈ WT := WT_of (sub_tables_1_5 _ (List.mem_of_getElem? (i := 13) (by decide +kernel))) (by decide +kernel)
set_option maxRecDepth 20000 in
theorem t_1104 : (Jvm.Cond.instanceMethod ({ cls := "MatchTrees$Trees", name := "countBranches", desc := "(II)I" } : Jvm.MethodName)) ∈ WT := WT_of (sub_tables_1_5 _ (List.mem_of_getElem? (i := 15) (by decide +kernel))) (by decide +kernel)
set_option maxRecDepth 20000 in
theorem t_1105 : (Jvm.Cond.code ({ cls := "MatchTrees$Trees", name := "countBranches", desc := "(II)I" } : Jvm.MethodName) prog_12_method_7_code (5 : Nat) (Option.some Jvm.ClassFile.FieldType.int)) ∈ WT := WT_of (sub_tables_1_5 _ (List.mem_of_getElem? (i := 16) rfl)) (by decide +kernel)
set_option maxRecDepth 20000 in
theorem t_1106 : (Jvm.Cond.methodLink "MatchTrees$Trees" (98 : Nat) ({ cls := "MatchTrees$Marks", name := "renew", desc := "()V" } : Jvm.MethodName)) ∈ WT := WT_of (sub_tables_1_5 _ (List.mem_of_getElem? (i := 17) (by decide +kernel))) (by decide +kernel)
set_option maxRecDepth 20000 in
theorem t_1107 : (Jvm.Cond.methodLink "MatchTrees$Trees" (107 : Nat) ({ cls := "MatchTrees$Marks", name := "isNew", desc := "(I)Z" } : Jvm.MethodName)) ∈ WT := WT_of (sub_tables_1_5 _ (List.mem_of_getElem? (i := 18) (by decide +kernel))) (by decide +kernel)
set_option maxRecDepth 20000 in
theorem t_1108 : (Jvm.Cond.methodLink "MatchTrees$Trees" (89 : Nat) ({ cls := "MatchTrees$Trees", name := "mostArms", desc := "(II)I" } : Jvm.MethodName)) ∈ WT := WT_of (sub_tables_1_5 _ (List.mem_of_getElem? (i := 19) (by decide +kernel))) (by decide +kernel)
set_option maxRecDepth 20000 in
theorem t_1110 : (Jvm.Cond.instanceMethod ({ cls := "MatchTrees$Trees", name := "mostArms", desc := "(II)I" } : Jvm.MethodName)) ∈ WT := WT_of (sub_tables_1_5 _ (List.mem_of_getElem? (i := 21) (by decide +kernel))) (by decide +kernel)
set_option maxRecDepth 20000 in
theorem t_1111 : (Jvm.Cond.code ({ cls := "MatchTrees$Trees", name := "mostArms", desc := "(II)I" } : Jvm.MethodName) prog_12_method_8_code (5 : Nat) (Option.some Jvm.ClassFile.FieldType.int)) ∈ WT := WT_of (sub_tables_1_5 _ (List.mem_of_getElem? (i := 22) rfl)) (by decide +kernel)
set_option maxRecDepth 20000 in
theorem t_1112 : (Jvm.Cond.methodLink "MatchTrees$Trees" (111 : Nat) ({ cls := "java/lang/Integer", name := "bitCount", desc := "(I)I" } : Jvm.MethodName)) ∈ WT := WT_of (sub_tables_1_5 _ (List.mem_of_getElem? (i := 23) (by decide +kernel))) (by decide +kernel)
set_option maxRecDepth 20000 in
theorem t_1113 : (Jvm.Cond.static ({ cls := "java/lang/Integer", name := "bitCount", desc := "(I)I" } : Jvm.MethodName)) ∈ WT := WT_of (sub_tables_1_5 _ (List.mem_of_getElem? (i := 24) (by decide +kernel))) (by decide +kernel)
set_option maxRecDepth 20000 in
theorem t_1114 : (Jvm.Cond.code ({ cls := "java/lang/Integer", name := "bitCount", desc := "(I)I" } : Jvm.MethodName) prog_15_method_49_code (1 : Nat) (Option.some Jvm.ClassFile.FieldType.int)) ∈ WT := WT_of (sub_tables_1_5 _ (List.mem_of_getElem? (i := 25) rfl)) (by decide +kernel)
set_option maxRecDepth 20000 in
theorem t_1115 : (Jvm.Cond.constant "java/lang/Integer" (265 : Nat) (1431655765 : Int32)) ∈ WT := WT_of (sub_tables_1_5 _ (List.mem_of_getElem? (i := 26) (by decide +kernel))) (by decide +kernel)
set_option maxRecDepth 20000 in
theorem t_1116 : (Jvm.Cond.constant "java/lang/Integer" (266 : Nat) (858993459 : Int32)) ∈ WT := WT_of (sub_tables_1_5 _ (List.mem_of_getElem? (i := 27) (by decide +kernel))) (by decide +kernel)
set_option maxRecDepth 20000 in
theorem t_1117 : (Jvm.Cond.constant "java/lang/Integer" (267 : Nat) (252645135 : Int32)) ∈ WT := WT_of (sub_tables_1_5 _ (List.mem_of_getElem? (i := 28) (by decide +kernel))) (by decide +kernel)
set_option maxRecDepth 20000 in
theorem t_1118 : (Jvm.Cond.methodLink "MatchTrees$Trees" (116 : Nat) ({ cls := "java/lang/Math", name := "max", desc := "(II)I" } : Jvm.MethodName)) ∈ WT := WT_of (sub_tables_1_5 _ (List.mem_of_getElem? (i := 29) (by decide +kernel))) (by decide +kernel)
set_option maxRecDepth 20000 in
theorem t_1119 : (Jvm.Cond.methodLink "MatchTrees$Trees" (148 : Nat) ({ cls := "MatchTrees$Table", name := "guardOf", desc := "(I)I" } : Jvm.MethodName)) ∈ WT := WT_of (sub_tables_1_5 _ (List.mem_of_getElem? (i := 30) (by decide +kernel))) (by decide +kernel)
set_option maxRecDepth 20000 in
theorem t_1120 : (Jvm.Cond.methodLink "MatchTrees$Trees" (151 : Nat) ({ cls := "MatchTrees$Trees", name := "rowsOf", desc := "(I)I" } : Jvm.MethodName)) ∈ WT := WT_of (sub_tables_1_5 _ (List.mem_of_getElem? (i := 31) (by decide +kernel))) (by decide +kernel)
set_option maxRecDepth 20000 in
theorem t_1122 : (Jvm.Cond.instanceMethod ({ cls := "MatchTrees$Trees", name := "rowsOf", desc := "(I)I" } : Jvm.MethodName)) ∈ WT := WT_of (sub_tables_1_5 _ (List.mem_of_getElem? (i := 33) (by decide +kernel))) (by decide +kernel)
set_option maxRecDepth 20000 in
theorem t_1123 : (Jvm.Cond.code ({ cls := "MatchTrees$Trees", name := "rowsOf", desc := "(I)I" } : Jvm.MethodName) prog_12_method_10_code (4 : Nat) (Option.some Jvm.ClassFile.FieldType.int)) ∈ WT := WT_of (sub_tables_1_5 _ (List.mem_of_getElem? (i := 34) rfl)) (by decide +kernel)
set_option maxRecDepth 20000 in
theorem t_1124 : (Jvm.Cond.methodLink "MatchTrees$Trees" (154 : Nat) ({ cls := "MatchTrees$Trees", name := "split", desc := "(III)LMatchTrees$Groups;" } : Jvm.MethodName)) ∈ WT := WT_of (sub_tables_1_5 _ (List.mem_of_getElem? (i := 35) (by decide +kernel))) (by decide +kernel)
set_option maxRecDepth 20000 in
theorem t_1126 : (Jvm.Cond.instanceMethod ({ cls := "MatchTrees$Trees", name := "split", desc := "(III)LMatchTrees$Groups;" } : Jvm.MethodName)) ∈ WT := WT_of (sub_tables_1_5 _ (List.mem_of_getElem? (i := 37) (by decide +kernel))) (by decide +kernel)
set_option maxRecDepth 20000 in
theorem t_1127 : (Jvm.Cond.code ({ cls := "MatchTrees$Trees", name := "split", desc := "(III)LMatchTrees$Groups;" } : Jvm.MethodName) prog_12_method_9_code (6 : Nat) (Option.some (Jvm.ClassFile.FieldType.object "MatchTrees$Groups"))) ∈ WT := WT_of (sub_tables_1_5 _ (List.mem_of_getElem? (i := 38) rfl)) (by decide +kernel)
set_option maxRecDepth 20000 in
theorem t_1128 : (Jvm.Cond.methodLink "MatchTrees$Trees" (121 : Nat) ({ cls := "java/lang/Math", name := "min", desc := "(II)I" } : Jvm.MethodName)) ∈ WT := WT_of (sub_tables_1_5 _ (List.mem_of_getElem? (i := 39) (by decide +kernel))) (by decide +kernel)
set_option maxRecDepth 20000 in
theorem t_1129 : (Jvm.Cond.methodLink "MatchTrees$Trees" (124 : Nat) ({ cls := "MatchTrees$Groups", name := "addParts", desc := "(LMatchTrees$Groups;I)V" } : Jvm.MethodName)) ∈ WT := WT_of (sub_tables_1_5 _ (List.mem_of_getElem? (i := 40) (by decide +kernel))) (by decide +kernel)
set_option maxRecDepth 20000 in
theorem t_1130 : (Jvm.Cond.instanceMethod ({ cls := "MatchTrees$Groups", name := "addParts", desc := "(LMatchTrees$Groups;I)V" } : Jvm.MethodName)) ∈ WT := WT_of (sub_tables_1_5 _ (List.mem_of_getElem? (i := 41) (by decide +kernel))) (by decide +kernel)
set_option maxRecDepth 20000 in
theorem t_1131 : (Jvm.Cond.selects "MatchTrees$Groups" ({ cls := "MatchTrees$Groups", name := "addParts", desc := "(LMatchTrees$Groups;I)V" } : Jvm.MethodName) ({ cls := "MatchTrees$Groups", name := "addParts", desc := "(LMatchTrees$Groups;I)V" } : Jvm.MethodName)) ∈ WT := WT_of (sub_tables_1_5 _ (List.mem_of_getElem? (i := 42) (by decide +kernel))) (by decide +kernel)
set_option maxRecDepth 20000 in
theorem t_1132 : (Jvm.Cond.code ({ cls := "MatchTrees$Groups", name := "addParts", desc := "(LMatchTrees$Groups;I)V" } : Jvm.MethodName) prog_4_method_4_code (4 : Nat) (Option.none : Option Jvm.ClassFile.FieldType)) ∈ WT := WT_of (sub_tables_1_5 _ (List.mem_of_getElem? (i := 43) rfl)) (by decide +kernel)
set_option maxRecDepth 20000 in
theorem t_1133 : (Jvm.Cond.constant "MatchTrees$Trees" (158 : Nat) (1000000 : Int32)) ∈ WT := WT_of (sub_tables_1_5 _ (List.mem_of_getElem? (i := 44) (by decide +kernel))) (by decide +kernel)
set_option maxRecDepth 20000 in
theorem t_1134 : (Jvm.Cond.methodLink "MatchTrees$Trees" (159 : Nat) ({ cls := "MatchTrees$Trees", name := "nodesIn", desc := "(J)I" } : Jvm.MethodName)) ∈ WT := WT_of (sub_tables_1_5 _ (List.mem_of_getElem? (i := 45) (by decide +kernel))) (by decide +kernel)
set_option maxRecDepth 20000 in
theorem t_1135 : (Jvm.Cond.static ({ cls := "MatchTrees$Trees", name := "nodesIn", desc := "(J)I" } : Jvm.MethodName)) ∈ WT := WT_of (sub_tables_1_5 _ (List.mem_of_getElem? (i := 46) (by decide +kernel))) (by decide +kernel)
set_option maxRecDepth 20000 in
theorem t_1136 : (Jvm.Cond.code ({ cls := "MatchTrees$Trees", name := "nodesIn", desc := "(J)I" } : Jvm.MethodName) prog_12_method_13_code (2 : Nat) (Option.some Jvm.ClassFile.FieldType.int)) ∈ WT := WT_of (sub_tables_1_5 _ (List.mem_of_getElem? (i := 47) rfl)) (by decide +kernel)
set_option maxRecDepth 20000 in
theorem t_1137 : (Jvm.Cond.constantLong "MatchTrees$Trees" (173 : Nat) (1048575 : Int64)) ∈ WT := WT_of (sub_tables_1_5 _ (List.mem_of_getElem? (i := 48) (by decide +kernel))) (by decide +kernel)
set_option maxRecDepth 20000 in
theorem t_1138 : (Jvm.Cond.methodLink "MatchTrees$Trees" (164 : Nat) ({ cls := "MatchTrees$Trees", name := "testsIn", desc := "(J)I" } : Jvm.MethodName)) ∈ WT := WT_of (sub_tables_1_5 _ (List.mem_of_getElem? (i := 49) (by decide +kernel))) (by decide +kernel)
set_option maxRecDepth 20000 in
theorem t_1139 : (Jvm.Cond.static ({ cls := "MatchTrees$Trees", name := "testsIn", desc := "(J)I" } : Jvm.MethodName)) ∈ WT := WT_of (sub_tables_1_5 _ (List.mem_of_getElem? (i := 50) (by decide +kernel))) (by decide +kernel)
set_option maxRecDepth 20000 in
theorem t_1140 : (Jvm.Cond.code ({ cls := "MatchTrees$Trees", name := "testsIn", desc := "(J)I" } : Jvm.MethodName) prog_12_method_14_code (2 : Nat) (Option.some Jvm.ClassFile.FieldType.int)) ∈ WT := WT_of (sub_tables_1_5 _ (List.mem_of_getElem? (i := 51) rfl)) (by decide +kernel)
set_option maxRecDepth 20000 in
theorem t_1141 : (Jvm.Cond.constantLong "MatchTrees$Trees" (175 : Nat) (131071 : Int64)) ∈ WT := WT_of (sub_tables_1_5 _ (List.mem_of_getElem? (i := 52) (by decide +kernel))) (by decide +kernel)
set_option maxRecDepth 20000 in
theorem t_1142 : (Jvm.Cond.methodLink "MatchTrees$Trees" (167 : Nat) ({ cls := "MatchTrees$Trees", name := "longestIn", desc := "(J)I" } : Jvm.MethodName)) ∈ WT := WT_of (sub_tables_1_5 _ (List.mem_of_getElem? (i := 53) (by decide +kernel))) (by decide +kernel)
set_option maxRecDepth 20000 in
theorem t_1143 : (Jvm.Cond.static ({ cls := "MatchTrees$Trees", name := "longestIn", desc := "(J)I" } : Jvm.MethodName)) ∈ WT := WT_of (sub_tables_1_5 _ (List.mem_of_getElem? (i := 54) (by decide +kernel))) (by decide +kernel)
set_option maxRecDepth 20000 in
theorem t_1144 : (Jvm.Cond.code ({ cls := "MatchTrees$Trees", name := "longestIn", desc := "(J)I" } : Jvm.MethodName) prog_12_method_15_code (2 : Nat) (Option.some Jvm.ClassFile.FieldType.int)) ∈ WT := WT_of (sub_tables_1_5 _ (List.mem_of_getElem? (i := 55) rfl)) (by decide +kernel)
set_option maxRecDepth 20000 in
theorem t_1145 : (Jvm.Cond.constantLong "MatchTrees$Trees" (177 : Nat) (7 : Int64)) ∈ WT := WT_of (sub_tables_1_5 _ (List.mem_of_getElem? (i := 56) (by decide +kernel))) (by decide +kernel)
set_option maxRecDepth 20000 in
theorem t_1146 : (Jvm.Cond.methodLink "MatchTrees" (310 : Nat) ({ cls := "MatchTrees$Trees", name := "nodesIn", desc := "(J)I" } : Jvm.MethodName)) ∈ WT := WT_of (sub_tables_1_5 _ (List.mem_of_getElem? (i := 57) (by decide +kernel))) (by decide +kernel)
set_option maxRecDepth 20000 in
theorem t_1147 : (Jvm.Cond.methodLink "MatchTrees" (317 : Nat) ({ cls := "MatchTrees$Trees", name := "longestIn", desc := "(J)I" } : Jvm.MethodName)) ∈ WT := WT_of (sub_tables_1_5 _ (List.mem_of_getElem? (i := 58) (by decide +kernel))) (by decide +kernel)
set_option maxRecDepth 20000 in
theorem t_1148 : (Jvm.Cond.methodLink "MatchTrees" (320 : Nat) ({ cls := "MatchTrees$Trees", name := "testsIn", desc := "(J)I" } : Jvm.MethodName)) ∈ WT := WT_of (sub_tables_1_5 _ (List.mem_of_getElem? (i := 59) (by decide +kernel))) (by decide +kernel)
set_option maxRecDepth 20000 in
theorem t_1149 : (Jvm.Cond.methodLink "MatchTreesLaw" (83 : Nat) ({ cls := "MatchTrees", name := "first", desc := "(I)I" } : Jvm.MethodName)) ∈ WT := WT_of (sub_tables_1_5 _ (List.mem_of_getElem? (i := 60) (by decide +kernel))) (by decide +kernel)
set_option maxRecDepth 20000 in
theorem t_1150 : (Jvm.Cond.instanceMethod ({ cls := "MatchTrees", name := "first", desc := "(I)I" } : Jvm.MethodName)) ∈ WT := WT_of (sub_tables_1_5 _ (List.mem_of_getElem? (i := 61) (by decide +kernel))) (by decide +kernel)
set_option maxRecDepth 20000 in
theorem t_1151 : (Jvm.Cond.selects "MatchTrees" ({ cls := "MatchTrees", name := "first", desc := "(I)I" } : Jvm.MethodName) ({ cls := "MatchTrees", name := "first", desc := "(I)I" } : Jvm.MethodName)) ∈ WT := WT_of (sub_tables_1_5 _ (List.mem_of_getElem? (i := 62) (by decide +kernel))) (by decide +kernel)
set_option maxRecDepth 20000 in
theorem t_1152 : (Jvm.Cond.code ({ cls := "MatchTrees", name := "first", desc := "(I)I" } : Jvm.MethodName) prog_1_method_25_code (2 : Nat) (Option.some Jvm.ClassFile.FieldType.int)) ∈ WT := WT_of (sub_tables_1_5 _ (List.mem_of_getElem? (i := 63) rfl)) (by decide +kernel)
set_option maxRecDepth 20000 in
theorem t_1153 : (Jvm.Cond.methodLink "MatchTrees" (323 : Nat) ({ cls := "MatchTrees$Trees", name := "firstColumn", desc := "(LMatchTrees$Order;I)I" } : Jvm.MethodName)) ∈ WT := WT_of (sub_tables_1_5 _ (List.mem_of_getElem? (i := 64) (by decide +kernel))) (by decide +kernel)
set_option maxRecDepth 20000 in
theorem t_1154 : (Jvm.Cond.instanceMethod ({ cls := "MatchTrees$Trees", name := "firstColumn", desc := "(LMatchTrees$Order;I)I" } : Jvm.MethodName)) ∈ WT := WT_of (sub_tables_1_5 _ (List.mem_of_getElem? (i := 65) (by decide +kernel))) (by decide +kernel)
set_option maxRecDepth 20000 in
theorem t_1155 : (Jvm.Cond.selects "MatchTrees$Trees" ({ cls := "MatchTrees$Trees", name := "firstColumn", desc := "(LMatchTrees$Order;I)I" } : Jvm.MethodName) ({ cls := "MatchTrees$Trees", name := "firstColumn", desc := "(LMatchTrees$Order;I)I" } : Jvm.MethodName)) ∈ WT := WT_of (sub_tables_1_5 _ (List.mem_of_getElem? (i := 66) (by decide +kernel))) (by decide +kernel)
set_option maxRecDepth 20000 in
theorem t_1156 : (Jvm.Cond.code ({ cls := "MatchTrees$Trees", name := "firstColumn", desc := "(LMatchTrees$Order;I)I" } : Jvm.MethodName) prog_12_method_16_code (7 : Nat) (Option.some Jvm.ClassFile.FieldType.int)) ∈ WT := WT_of (sub_tables_1_5 _ (List.mem_of_getElem? (i := 67) rfl)) (by decide +kernel)
set_option maxRecDepth 20000 in
theorem t_1157 : (Jvm.Cond.methodLink "MatchTreesLaw" (87 : Nat) ({ cls := "MatchTrees", name := "scopes", desc := "(III)I" } : Jvm.MethodName)) ∈ WT := WT_of (sub_tables_1_5 _ (List.mem_of_getElem? (i := 68) (by decide +kernel))) (by decide +kernel)
set_option maxRecDepth 20000 in
theorem t_1158 : (Jvm.Cond.instanceMethod ({ cls := "MatchTrees", name := "scopes", desc := "(III)I" } : Jvm.MethodName)) ∈ WT := WT_of (sub_tables_1_5 _ (List.mem_of_getElem? (i := 69) (by decide +kernel))) (by decide +kernel)
set_option maxRecDepth 20000 in
theorem t_1159 : (Jvm.Cond.selects "MatchTrees" ({ cls := "MatchTrees", name := "scopes", desc := "(III)I" } : Jvm.MethodName) ({ cls := "MatchTrees", name := "scopes", desc := "(III)I" } : Jvm.MethodName)) ∈ WT := WT_of (sub_tables_1_5 _ (List.mem_of_getElem? (i := 70) (by decide +kernel))) (by decide +kernel)
set_option maxRecDepth 20000 in
theorem t_1160 : (Jvm.Cond.code ({ cls := "MatchTrees", name := "scopes", desc := "(III)I" } : Jvm.MethodName) prog_1_method_26_code (4 : Nat) (Option.some Jvm.ClassFile.FieldType.int)) ∈ WT := WT_of (sub_tables_1_5 _ (List.mem_of_getElem? (i := 71) rfl)) (by decide +kernel)
set_option maxRecDepth 20000 in
theorem t_1161 : (Jvm.Cond.methodLink "MatchTrees" (327 : Nat) ({ cls := "MatchTrees$Trees", name := "buildAll", desc := "(LMatchTrees$Order;I)V" } : Jvm.MethodName)) ∈ WT := WT_of (sub_tables_1_5 _ (List.mem_of_getElem? (i := 72) (by decide +kernel))) (by decide +kernel)
set_option maxRecDepth 20000 in
theorem t_1162 : (Jvm.Cond.instanceMethod ({ cls := "MatchTrees$Trees", name := "buildAll", desc := "(LMatchTrees$Order;I)V" } : Jvm.MethodName)) ∈ WT := WT_of (sub_tables_1_5 _ (List.mem_of_getElem? (i := 73) (by decide +kernel))) (by decide +kernel)
set_option maxRecDepth 20000 in
theorem t_1163 : (Jvm.Cond.selects "MatchTrees$Trees" ({ cls := "MatchTrees$Trees", name := "buildAll", desc := "(LMatchTrees$Order;I)V" } : Jvm.MethodName) ({ cls := "MatchTrees$Trees", name := "buildAll", desc := "(LMatchTrees$Order;I)V" } : Jvm.MethodName)) ∈ WT := WT_of (sub_tables_1_5 _ (List.mem_of_getElem? (i := 74) (by decide +kernel))) (by decide +kernel)
set_option maxRecDepth 20000 in
theorem t_1164 : (Jvm.Cond.code ({ cls := "MatchTrees$Trees", name := "buildAll", desc := "(LMatchTrees$Order;I)V" } : Jvm.MethodName) prog_12_method_18_code (3 : Nat) (Option.none : Option Jvm.ClassFile.FieldType)) ∈ WT := WT_of (sub_tables_1_5 _ (List.mem_of_getElem? (i := 75) rfl)) (by decide +kernel)
set_option maxRecDepth 20000 in
theorem t_1165 : (Jvm.Cond.methodLink "MatchTrees$Trees" (199 : Nat) ({ cls := "MatchTrees$Trees", name := "build", desc := "(LMatchTrees$Trees;III)V" } : Jvm.MethodName)) ∈ WT := WT_of (sub_tables_1_5 _ (List.mem_of_getElem? (i := 76) (by decide +kernel))) (by decide +kernel)
set_option maxRecDepth 20000 in
theorem t_1166 : (Jvm.Cond.static ({ cls := "MatchTrees$Trees", name := "build", desc := "(LMatchTrees$Trees;III)V" } : Jvm.MethodName)) ∈ WT := WT_of (sub_tables_1_5 _ (List.mem_of_getElem? (i := 77) (by decide +kernel))) (by decide +kernel)
set_option maxRecDepth 20000 in
theorem t_1167 : (Jvm.Cond.code ({ cls := "MatchTrees$Trees", name := "build", desc := "(LMatchTrees$Trees;III)V" } : Jvm.MethodName) prog_12_method_19_code (10 : Nat) (Option.none : Option Jvm.ClassFile.FieldType)) ∈ WT := WT_of (sub_tables_1_5 _ (List.mem_of_getElem? (i := 78) rfl)) (by decide +kernel)
set_option maxRecDepth 20000 in
theorem t_1168 : (Jvm.Cond.methodLink "MatchTrees$Trees" (206 : Nat) ({ cls := "MatchTrees$Trees", name := "openScope", desc := "()V" } : Jvm.MethodName)) ∈ WT := WT_of (sub_tables_1_5 _ (List.mem_of_getElem? (i := 79) (by decide +kernel))) (by decide +kernel)
set_option maxRecDepth 20000 in
theorem t_1170 : (Jvm.Cond.instanceMethod ({ cls := "MatchTrees$Trees", name := "openScope", desc := "()V" } : Jvm.MethodName)) ∈ WT := WT_of (sub_tables_1_5 _ (List.mem_of_getElem? (i := 81) (by decide +kernel))) (by decide +kernel)
set_option maxRecDepth 20000 in
theorem t_1171 : (Jvm.Cond.code ({ cls := "MatchTrees$Trees", name := "openScope", desc := "()V" } : Jvm.MethodName) prog_12_method_20_code (1 : Nat) (Option.none : Option Jvm.ClassFile.FieldType)) ∈ WT := WT_of (sub_tables_1_5 _ (List.mem_of_getElem? (i := 82) rfl)) (by decide +kernel)
set_option maxRecDepth 20000 in
theorem t_1172 : (Jvm.Cond.methodLink "MatchTrees$Trees" (209 : Nat) ({ cls := "MatchTrees$Trees", name := "shutScope", desc := "(I)V" } : Jvm.MethodName)) ∈ WT := WT_of (sub_tables_1_5 _ (List.mem_of_getElem? (i := 83) (by decide +kernel))) (by decide +kernel)
set_option maxRecDepth 20000 in
theorem t_1174 : (Jvm.Cond.instanceMethod ({ cls := "MatchTrees$Trees", name := "shutScope", desc := "(I)V" } : Jvm.MethodName)) ∈ WT := WT_of (sub_tables_1_5 _ (List.mem_of_getElem? (i := 85) (by decide +kernel))) (by decide +kernel)
set_option maxRecDepth 20000 in
theorem t_1175 : (Jvm.Cond.code ({ cls := "MatchTrees$Trees", name := "shutScope", desc := "(I)V" } : Jvm.MethodName) prog_12_method_21_code (2 : Nat) (Option.none : Option Jvm.ClassFile.FieldType)) ∈ WT := WT_of (sub_tables_1_5 _ (List.mem_of_getElem? (i := 86) rfl)) (by decide +kernel)
set_option maxRecDepth 20000 in
theorem t_1176 : (Jvm.Cond.methodLink "MatchTrees" (341 : Nat) ({ cls := "MatchTrees$Trees", name := "scopeShutAs", desc := "(I)I" } : Jvm.MethodName)) ∈ WT := WT_of (sub_tables_1_5 _ (List.mem_of_getElem? (i := 87) (by decide +kernel))) (by decide +kernel)
set_option maxRecDepth 20000 in
theorem t_1177 : (Jvm.Cond.instanceMethod ({ cls := "MatchTrees$Trees", name := "scopeShutAs", desc := "(I)I" } : Jvm.MethodName)) ∈ WT := WT_of (sub_tables_1_5 _ (List.mem_of_getElem? (i := 88) (by decide +kernel))) (by decide +kernel)
set_option maxRecDepth 20000 in
theorem t_1178 : (Jvm.Cond.selects "MatchTrees$Trees" ({ cls := "MatchTrees$Trees", name := "scopeShutAs", desc := "(I)I" } : Jvm.MethodName) ({ cls := "MatchTrees$Trees", name := "scopeShutAs", desc := "(I)I" } : Jvm.MethodName)) ∈ WT := WT_of (sub_tables_1_5 _ (List.mem_of_getElem? (i := 89) (by decide +kernel))) (by decide +kernel)
set_option maxRecDepth 20000 in
theorem t_1179 : (Jvm.Cond.code ({ cls := "MatchTrees$Trees", name := "scopeShutAs", desc := "(I)I" } : Jvm.MethodName) prog_12_method_22_code (2 : Nat) (Option.some Jvm.ClassFile.FieldType.int)) ∈ WT := WT_of (sub_tables_1_5 _ (List.mem_of_getElem? (i := 90) rfl)) (by decide +kernel)
set_option maxRecDepth 20000 in
theorem t_1180 : (Jvm.Cond.methodLink "MatchTreesLaw" (91 : Nat) ({ cls := "MatchTrees", name := "safe", desc := "(II)I" } : Jvm.MethodName)) ∈ WT := WT_of (sub_tables_1_5 _ (List.mem_of_getElem? (i := 91) (by decide +kernel))) (by decide +kernel)
set_option maxRecDepth 20000 in
theorem t_1181 : (Jvm.Cond.instanceMethod ({ cls := "MatchTrees", name := "safe", desc := "(II)I" } : Jvm.MethodName)) ∈ WT := WT_of (sub_tables_1_5 _ (List.mem_of_getElem? (i := 92) (by decide +kernel))) (by decide +kernel)
set_option maxRecDepth 20000 in
theorem t_1182 : (Jvm.Cond.selects "MatchTrees" ({ cls := "MatchTrees", name := "safe", desc := "(II)I" } : Jvm.MethodName) ({ cls := "MatchTrees", name := "safe", desc := "(II)I" } : Jvm.MethodName)) ∈ WT := WT_of (sub_tables_1_5 _ (List.mem_of_getElem? (i := 93) (by decide +kernel))) (by decide +kernel)
set_option maxRecDepth 20000 in
theorem t_1183 : (Jvm.Cond.code ({ cls := "MatchTrees", name := "safe", desc := "(II)I" } : Jvm.MethodName) prog_1_method_27_code (3 : Nat) (Option.some Jvm.ClassFile.FieldType.int)) ∈ WT := WT_of (sub_tables_1_5 _ (List.mem_of_getElem? (i := 94) rfl)) (by decide +kernel)
set_option maxRecDepth 20000 in
theorem t_1184 : (Jvm.Cond.methodLink "MatchTrees" (344 : Nat) ({ cls := "MatchTrees$Order", name := "isPlace", desc := "(I)Z" } : Jvm.MethodName)) ∈ WT := WT_of (sub_tables_1_5 _ (List.mem_of_getElem? (i := 95) (by decide +kernel))) (by decide +kernel)
set_option maxRecDepth 20000 in
theorem t_1185 : (Jvm.Cond.methodLink "MatchTrees" (347 : Nat) ({ cls := "MatchTrees$Order", name := "copy", desc := "(LMatchTrees$Order;)V" } : Jvm.MethodName)) ∈ WT := WT_of (sub_tables_1_5 _ (List.mem_of_getElem? (i := 96) (by decide +kernel))) (by decide +kernel)
set_option maxRecDepth 20000 in
theorem t_1186 : (Jvm.Cond.instanceMethod ({ cls := "MatchTrees$Order", name := "copy", desc := "(LMatchTrees$Order;)V" } : Jvm.MethodName)) ∈ WT := WT_of (sub_tables_1_5 _ (List.mem_of_getElem? (i := 97) (by decide +kernel))) (by decide +kernel)
set_option maxRecDepth 20000 in
theorem t_1187 : (Jvm.Cond.selects "MatchTrees$Order" ({ cls := "MatchTrees$Order", name := "copy", desc := "(LMatchTrees$Order;)V" } : Jvm.MethodName) ({ cls := "MatchTrees$Order", name := "copy", desc := "(LMatchTrees$Order;)V" } : Jvm.MethodName)) ∈ WT := WT_of (sub_tables_1_5 _ (List.mem_of_getElem? (i := 98) (by decide +kernel))) (by decide +kernel)
set_option maxRecDepth 20000 in
theorem t_1188 : (Jvm.Cond.code ({ cls := "MatchTrees$Order", name := "copy", desc := "(LMatchTrees$Order;)V" } : Jvm.MethodName) prog_7_method_3_code (3 : Nat) (Option.none : Option Jvm.ClassFile.FieldType)) ∈ WT := WT_of (sub_tables_1_5 _ (List.mem_of_getElem? (i := 99) rfl)) (by decide +kernel)
set_option maxRecDepth 20000 in
theorem t_1189 : (Jvm.Cond.methodLink "MatchTrees" (350 : Nat) ({ cls := "MatchTrees$Order", name := "exchange", desc := "(II)V" } : Jvm.MethodName)) ∈ WT := WT_of (sub_tables_1_5 _ (List.mem_of_getElem? (i := 100) (by decide +kernel))) (by decide +kernel)
set_option maxRecDepth 20000 in
theorem t_1190 : (Jvm.Cond.instanceMethod ({ cls := "MatchTrees$Order", name := "exchange", desc := "(II)V" } : Jvm.MethodName)) ∈ WT := WT_of (sub_tables_1_5 _ (List.mem_of_getElem? (i := 101) (by decide +kernel))) (by decide +kernel)
set_option maxRecDepth 20000 in
theorem t_1191 : (Jvm.Cond.selects "MatchTrees$Order" ({ cls := "MatchTrees$Order", name := "exchange", desc := "(II)V" } : Jvm.MethodName) ({ cls := "MatchTrees$Order", name := "exchange", desc := "(II)V" } : Jvm.MethodName)) ∈ WT := WT_of (sub_tables_1_5 _ (List.mem_of_getElem? (i := 102) (by decide +kernel))) (by decide +kernel)
set_option maxRecDepth 20000 in
theorem t_1192 : (Jvm.Cond.code ({ cls := "MatchTrees$Order", name := "exchange", desc := "(II)V" } : Jvm.MethodName) prog_7_method_6_code (4 : Nat) (Option.none : Option Jvm.ClassFile.FieldType)) ∈ WT := WT_of (sub_tables_1_5 _ (List.mem_of_getElem? (i := 103) rfl)) (by decide +kernel)
set_option maxRecDepth 20000 in
theorem t_1193 : (Jvm.Cond.methodLink "MatchTrees" (353 : Nat) ({ cls := "MatchTrees", name := "trialTakesAlike", desc := "()Z" } : Jvm.MethodName)) ∈ WT := WT_of (sub_tables_1_5 _ (List.mem_of_getElem? (i := 104) (by decide +kernel))) (by decide +kernel)
set_option maxRecDepth 20000 in
theorem t_1195 : (Jvm.Cond.instanceMethod ({ cls := "MatchTrees", name := "trialTakesAlike", desc := "()Z" } : Jvm.MethodName)) ∈ WT := WT_of (sub_tables_1_5 _ (List.mem_of_getElem? (i := 106) (by decide +kernel))) (by decide +kernel)
set_option maxRecDepth 20000 in
theorem t_1196 : (Jvm.Cond.code ({ cls := "MatchTrees", name := "trialTakesAlike", desc := "()Z" } : Jvm.MethodName) prog_1_method_28_code (3 : Nat) (Option.some Jvm.ClassFile.FieldType.boolean)) ∈ WT := WT_of (sub_tables_1_5 _ (List.mem_of_getElem? (i := 107) rfl)) (by decide +kernel)
set_option maxRecDepth 20000 in
theorem t_1197 : (Jvm.Cond.methodLink "MatchTrees" (356 : Nat) ({ cls := "MatchTrees$Order", name := "takings", desc := "(LMatchTrees$Table;I)J" } : Jvm.MethodName)) ∈ WT := WT_of (sub_tables_1_5 _ (List.mem_of_getElem? (i := 108) (by decide +kernel))) (by decide +kernel)
set_option maxRecDepth 20000 in
theorem t_1198 : (Jvm.Cond.instanceMethod ({ cls := "MatchTrees$Order", name := "takings", desc := "(LMatchTrees$Table;I)J" } : Jvm.MethodName)) ∈ WT := WT_of (sub_tables_1_5 _ (List.mem_of_getElem? (i := 109) (by decide +kernel))) (by decide +kernel)
set_option maxRecDepth 20000 in
theorem t_1199 : (Jvm.Cond.selects "MatchTrees$Order" ({ cls := "MatchTrees$Order", name := "takings", desc := "(LMatchTrees$Table;I)J" } : Jvm.MethodName) ({ cls := "MatchTrees$Order", name := "takings", desc := "(LMatchTrees$Table;I)J" } : Jvm.MethodName)) ∈ WT := WT_of (sub_tables_1_5 _ (List.mem_of_getElem? (i := 110) (by decide +kernel))) (by decide +kernel)
set_option maxRecDepth 20000 in
theorem t_1200 : (Jvm.Cond.code ({ cls := "MatchTrees$Order", name := "takings", desc := "(LMatchTrees$Table;I)J" } : Jvm.MethodName) prog_7_method_12_code (9 : Nat) (Option.some Jvm.ClassFile.FieldType.long)) ∈ WT := WT_of (sub_tables_1_5 _ (List.mem_of_getElem? (i := 111) rfl)) (by decide +kernel)
set_option maxRecDepth 20000 in
theorem t_1201 : (Jvm.Cond.constantLong "MatchTrees$Order" (48 : Nat) (13 : Int64)) ∈ WT := WT_of (sub_tables_1_5 _ (List.mem_of_getElem? (i := 112) (by decide +kernel))) (by decide +kernel)
set_option maxRecDepth 20000 in
theorem t_1202 : (Jvm.Cond.methodLink "MatchTreesLaw" (95 : Nat) ({ cls := "MatchTrees", name := "best", desc := "(I)I" } : Jvm.MethodName)) ∈ WT := WT_of (sub_tables_1_5 _ (List.mem_of_getElem? (i := 113) (by decide +kernel))) (by decide +kernel)
set_option maxRecDepth 20000 in
theorem t_1203 : (Jvm.Cond.instanceMethod ({ cls := "MatchTrees", name := "best", desc := "(I)I" } : Jvm.MethodName)) ∈ WT := WT_of (sub_tables_1_5 _ (List.mem_of_getElem? (i := 114) (by decide +kernel))) (by decide +kernel)
set_option maxRecDepth 20000 in
theorem t_1204 : (Jvm.Cond.selects "MatchTrees" ({ cls := "MatchTrees", name := "best", desc := "(I)I" } : Jvm.MethodName) ({ cls := "MatchTrees", name := "best", desc := "(I)I" } : Jvm.MethodName)) ∈ WT := WT_of (sub_tables_1_5 _ (List.mem_of_getElem? (i := 115) (by decide +kernel))) (by decide +kernel)
set_option maxRecDepth 20000 in
theorem t_1205 : (Jvm.Cond.code ({ cls := "MatchTrees", name := "best", desc := "(I)I" } : Jvm.MethodName) prog_1_method_29_code (6 : Nat) (Option.some Jvm.ClassFile.FieldType.int)) ∈ WT := WT_of (sub_tables_1_5 _ (List.mem_of_getElem? (i := 116) rfl)) (by decide +kernel)
set_option maxRecDepth 20000 in
theorem t_1206 : (Jvm.Cond.methodLink "MatchTrees" (360 : Nat) ({ cls := "MatchTrees", name := "allTests", desc := "(LMatchTrees$Order;)I" } : Jvm.MethodName)) ∈ WT := WT_of (sub_tables_1_5 _ (List.mem_of_getElem? (i := 117) (by decide +kernel))) (by decide +kernel)
set_option maxRecDepth 20000 in
theorem t_1208 : (Jvm.Cond.instanceMethod ({ cls := "MatchTrees", name := "allTests", desc := "(LMatchTrees$Order;)I" } : Jvm.MethodName)) ∈ WT := WT_of (sub_tables_1_5 _ (List.mem_of_getElem? (i := 119) (by decide +kernel))) (by decide +kernel)
set_option maxRecDepth 20000 in
theorem t_1209 : (Jvm.Cond.code ({ cls := "MatchTrees", name := "allTests", desc := "(LMatchTrees$Order;)I" } : Jvm.MethodName) prog_1_method_30_code (2 : Nat) (Option.some Jvm.ClassFile.FieldType.int)) ∈ WT := WT_of (sub_tables_1_5 _ (List.mem_of_getElem? (i := 120) rfl)) (by decide +kernel)
set_option maxRecDepth 20000 in
theorem t_1210 : (Jvm.Cond.methodLink "MatchTreesLaw" (99 : Nat) ({ cls := "MatchTrees", name := "see", desc := "()I" } : Jvm.MethodName)) ∈ WT := WT_of (sub_tables_1_5 _ (List.mem_of_getElem? (i := 121) (by decide +kernel))) (by decide +kernel)
set_option maxRecDepth 20000 in
theorem t_1211 : (Jvm.Cond.instanceMethod ({ cls := "MatchTrees", name := "see", desc := "()I" } : Jvm.MethodName)) ∈ WT := WT_of (sub_tables_1_5 _ (List.mem_of_getElem? (i := 122) (by decide +kernel))) (by decide +kernel)
set_option maxRecDepth 20000 in
theorem t_1212 : (Jvm.Cond.selects "MatchTrees" ({ cls := "MatchTrees", name := "see", desc := "()I" } : Jvm.MethodName) ({ cls := "MatchTrees", name := "see", desc := "()I" } : Jvm.MethodName)) ∈ WT := WT_of (sub_tables_1_5 _ (List.mem_of_getElem? (i := 123) (by decide +kernel))) (by decide +kernel)
set_option maxRecDepth 20000 in
theorem t_1213 : (Jvm.Cond.code ({ cls := "MatchTrees", name := "see", desc := "()I" } : Jvm.MethodName) prog_1_method_31_code (2 : Nat) (Option.some Jvm.ClassFile.FieldType.int)) ∈ WT := WT_of (sub_tables_1_5 _ (List.mem_of_getElem? (i := 124) rfl)) (by decide +kernel)
set_option maxRecDepth 20000 in
theorem t_1214 : (Jvm.Cond.methodLink "MatchTrees" (364 : Nat) ({ cls := "MatchTrees$Seen", name := "read", desc := "(LMatchTrees$Bytes;LMatchTrees$Table;LMatchTrees$Order;)Z" } : Jvm.MethodName)) ∈ WT := WT_of (sub_tables_1_5 _ (List.mem_of_getElem? (i := 125) (by decide +kernel))) (by decide +kernel)
set_option maxRecDepth 20000 in
theorem t_1215 : (Jvm.Cond.instanceMethod ({ cls := "MatchTrees$Seen", name := "read", desc := "(LMatchTrees$Bytes;LMatchTrees$Table;LMatchTrees$Order;)Z" } : Jvm.MethodName)) ∈ WT := WT_of (sub_tables_1_5 _ (List.mem_of_getElem? (i := 126) (by decide +kernel))) (by decide +kernel)
set_option maxRecDepth 20000 in
theorem t_1216 : (Jvm.Cond.selects "MatchTrees$Seen" ({ cls := "MatchTrees$Seen", name := "read", desc := "(LMatchTrees$Bytes;LMatchTrees$Table;LMatchTrees$Order;)Z" } : Jvm.MethodName) ({ cls := "MatchTrees$Seen", name := "read", desc := "(LMatchTrees$Bytes;LMatchTrees$Table;LMatchTrees$Order;)Z" } : Jvm.MethodName)) ∈ WT := WT_of (sub_tables_1_5 _ (List.mem_of_getElem? (i := 127) (by decide +kernel))) (by decide +kernel)
set_option maxRecDepth 20000 in
theorem t_1217 : (Jvm.Cond.code ({ cls := "MatchTrees$Seen", name := "read", desc := "(LMatchTrees$Bytes;LMatchTrees$Table;LMatchTrees$Order;)Z" } : Jvm.MethodName) prog_10_method_2_code (7 : Nat) (Option.some Jvm.ClassFile.FieldType.boolean)) ∈ WT := WT_of (sub_tables_1_5 _ (List.mem_of_getElem? (i := 128) rfl)) (by decide +kernel)
set_option maxRecDepth 20000 in
theorem t_1218 : (Jvm.Cond.methodLink "MatchTrees$Seen" (30 : Nat) ({ cls := "MatchTrees$Bytes", name := "byteAt", desc := "(I)I" } : Jvm.MethodName)) ∈ WT := WT_of (sub_tables_1_5 _ (List.mem_of_getElem? (i := 129) (by decide +kernel))) (by decide +kernel)
set_option maxRecDepth 20000 in
theorem t_1219 : (Jvm.Cond.methodLink "MatchTrees$Seen" (34 : Nat) ({ cls := "MatchTrees$Seen", name := "rowOn", desc := "(LMatchTrees$Bytes;I)I" } : Jvm.MethodName)) ∈ WT := WT_of (sub_tables_1_5 _ (List.mem_of_getElem? (i := 130) (by decide +kernel))) (by decide +kernel)
set_option maxRecDepth 20000 in
theorem t_1220 : (Jvm.Cond.static ({ cls := "MatchTrees$Seen", name := "rowOn", desc := "(LMatchTrees$Bytes;I)I" } : Jvm.MethodName)) ∈ WT := WT_of (sub_tables_1_5 _ (List.mem_of_getElem? (i := 131) (by decide +kernel))) (by decide +kernel)
set_option maxRecDepth 20000 in
theorem t_1221 : (Jvm.Cond.code ({ cls := "MatchTrees$Seen", name := "rowOn", desc := "(LMatchTrees$Bytes;I)I" } : Jvm.MethodName) prog_10_method_3_code (2 : Nat) (Option.some Jvm.ClassFile.FieldType.int)) ∈ WT := WT_of (sub_tables_1_5 _ (List.mem_of_getElem? (i := 132) rfl)) (by decide +kernel)
set_option maxRecDepth 20000 in
theorem t_1222 : (Jvm.Cond.methodLink "MatchTrees$Seen" (38 : Nat) ({ cls := "MatchTrees$Table", name := "isRow", desc := "(I)Z" } : Jvm.MethodName)) ∈ WT := WT_of (sub_tables_1_5 _ (List.mem_of_getElem? (i := 133) (by decide +kernel))) (by decide +kernel)
set_option maxRecDepth 20000 in
theorem t_1223 : (Jvm.Cond.methodLink "MatchTrees$Seen" (44 : Nat) ({ cls := "MatchTrees$Order", name := "isPlace", desc := "(I)Z" } : Jvm.MethodName)) ∈ WT := WT_of (sub_tables_1_5 _ (List.mem_of_getElem? (i := 134) (by decide +kernel))) (by decide +kernel)
set_option maxRecDepth 20000 in
theorem t_1224 : (Jvm.Cond.methodLink "MatchTrees$Seen" (52 : Nat) ({ cls := "MatchTrees$Order", name := "armAt", desc := "(I)I" } : Jvm.MethodName)) ∈ WT := WT_of (sub_tables_1_5 _ (List.mem_of_getElem? (i := 135) (by decide +kernel))) (by decide +kernel)
set_option maxRecDepth 20000 in
theorem t_1225 : (Jvm.Cond.methodLink "MatchTreesLaw" (103 : Nat) ({ cls := "MatchTrees", name := "sets", desc := "(I)I" } : Jvm.MethodName)) ∈ WT := WT_of (sub_tables_1_5 _ (List.mem_of_getElem? (i := 136) (by decide +kernel))) (by decide +kernel)
set_option maxRecDepth 20000 in
theorem t_1226 : (Jvm.Cond.instanceMethod ({ cls := "MatchTrees", name := "sets", desc := "(I)I" } : Jvm.MethodName)) ∈ WT := WT_of (sub_tables_1_5 _ (List.mem_of_getElem? (i := 137) (by decide +kernel))) (by decide +kernel)
set_option maxRecDepth 20000 in
theorem t_1227 : (Jvm.Cond.selects "MatchTrees" ({ cls := "MatchTrees", name := "sets", desc := "(I)I" } : Jvm.MethodName) ({ cls := "MatchTrees", name := "sets", desc := "(I)I" } : Jvm.MethodName)) ∈ WT := WT_of (sub_tables_1_5 _ (List.mem_of_getElem? (i := 138) (by decide +kernel))) (by decide +kernel)
set_option maxRecDepth 20000 in
theorem t_1228 : (Jvm.Cond.code ({ cls := "MatchTrees", name := "sets", desc := "(I)I" } : Jvm.MethodName) prog_1_method_32_code (2 : Nat) (Option.some Jvm.ClassFile.FieldType.int)) ∈ WT := WT_of (sub_tables_1_5 _ (List.mem_of_getElem? (i := 139) rfl)) (by decide +kernel)
set_option maxRecDepth 20000 in
theorem t_1229 : (Jvm.Cond.methodLink "MatchTrees" (368 : Nat) ({ cls := "MatchTrees$Seen", name := "findSets", desc := "(LMatchTrees$Table;LMatchTrees$Order;)V" } : Jvm.MethodName)) ∈ WT := WT_of (sub_tables_1_5 _ (List.mem_of_getElem? (i := 140) (by decide +kernel))) (by decide +kernel)
set_option maxRecDepth 20000 in
theorem t_1230 : (Jvm.Cond.instanceMethod ({ cls := "MatchTrees$Seen", name := "findSets", desc := "(LMatchTrees$Table;LMatchTrees$Order;)V" } : Jvm.MethodName)) ∈ WT := WT_of (sub_tables_1_5 _ (List.mem_of_getElem? (i := 141) (by decide +kernel))) (by decide +kernel)
set_option maxRecDepth 20000 in
theorem t_1231 : (Jvm.Cond.selects "MatchTrees$Seen" ({ cls := "MatchTrees$Seen", name := "findSets", desc := "(LMatchTrees$Table;LMatchTrees$Order;)V" } : Jvm.MethodName) ({ cls := "MatchTrees$Seen", name := "findSets", desc := "(LMatchTrees$Table;LMatchTrees$Order;)V" } : Jvm.MethodName)) ∈ WT := WT_of (sub_tables_1_5 _ (List.mem_of_getElem? (i := 142) (by decide +kernel))) (by decide +kernel)
set_option maxRecDepth 20000 in
theorem t_1232 : (Jvm.Cond.code ({ cls := "MatchTrees$Seen", name := "findSets", desc := "(LMatchTrees$Table;LMatchTrees$Order;)V" } : Jvm.MethodName) prog_10_method_4_code (4 : Nat) (Option.none : Option Jvm.ClassFile.FieldType)) ∈ WT := WT_of (sub_tables_1_5 _ (List.mem_of_getElem? (i := 143) rfl)) (by decide +kernel)
set_option maxRecDepth 20000 in
theorem t_1233 : (Jvm.Cond.methodLink "MatchTrees$Seen" (58 : Nat) ({ cls := "MatchTrees$Seen", name := "agrees", desc := "(LMatchTrees$Table;LMatchTrees$Order;I)Z" } : Jvm.MethodName)) ∈ WT := WT_of (sub_tables_1_5 _ (List.mem_of_getElem? (i := 144) (by decide +kernel))) (by decide +kernel)
set_option maxRecDepth 20000 in
theorem t_1235 : (Jvm.Cond.instanceMethod ({ cls := "MatchTrees$Seen", name := "agrees", desc := "(LMatchTrees$Table;LMatchTrees$Order;I)Z" } : Jvm.MethodName)) ∈ WT := WT_of (sub_tables_1_5 _ (List.mem_of_getElem? (i := 146) (by decide +kernel))) (by decide +kernel)
set_option maxRecDepth 20000 in
theorem t_1236 : (Jvm.Cond.code ({ cls := "MatchTrees$Seen", name := "agrees", desc := "(LMatchTrees$Table;LMatchTrees$Order;I)Z" } : Jvm.MethodName) prog_10_method_5_code (6 : Nat) (Option.some Jvm.ClassFile.FieldType.boolean)) ∈ WT := WT_of (sub_tables_1_5 _ (List.mem_of_getElem? (i := 147) rfl)) (by decide +kernel)
set_option maxRecDepth 20000 in
theorem t_1237 : (Jvm.Cond.methodLink "MatchTrees$Seen" (62 : Nat) ({ cls := "MatchTrees$Table", name := "armsOf", desc := "(I)I" } : Jvm.MethodName)) ∈ WT := WT_of (sub_tables_1_5 _ (List.mem_of_getElem? (i := 148) (by decide +kernel))) (by decide +kernel)
set_option maxRecDepth 20000 in
theorem t_1238 : (Jvm.Cond.methodLink "MatchTrees$Seen" (65 : Nat) ({ cls := "MatchTrees$Order", name := "placeTaking", desc := "(LMatchTrees$Table;II)I" } : Jvm.MethodName)) ∈ WT := WT_of (sub_tables_1_5 _ (List.mem_of_getElem? (i := 149) (by decide +kernel))) (by decide +kernel)
set_option maxRecDepth 20000 in
theorem t_1239 : (Jvm.Cond.methodLink "MatchTreesLaw" (107 : Nat) ({ cls := "MatchTrees", name := "tells", desc := "(I)I" } : Jvm.MethodName)) ∈ WT := WT_of (sub_tables_1_5 _ (List.mem_of_getElem? (i := 150) (by decide +kernel))) (by decide +kernel)
set_option maxRecDepth 20000 in
theorem t_1240 : (Jvm.Cond.instanceMethod ({ cls := "MatchTrees", name := "tells", desc := "(I)I" } : Jvm.MethodName)) ∈ WT := WT_of (sub_tables_1_5 _ (List.mem_of_getElem? (i := 151) (by decide +kernel))) (by decide +kernel)
set_option maxRecDepth 20000 in
theorem t_1241 : (Jvm.Cond.selects "MatchTrees" ({ cls := "MatchTrees", name := "tells", desc := "(I)I" } : Jvm.MethodName) ({ cls := "MatchTrees", name := "tells", desc := "(I)I" } : Jvm.MethodName)) ∈ WT := WT_of (sub_tables_1_5 _ (List.mem_of_getElem? (i := 152) (by decide +kernel))) (by decide +kernel)
set_option maxRecDepth 20000 in
theorem t_1242 : (Jvm.Cond.code ({ cls := "MatchTrees", name := "tells", desc := "(I)I" } : Jvm.MethodName) prog_1_method_33_code (7 : Nat) (Option.some Jvm.ClassFile.FieldType.int)) ∈ WT := WT_of (sub_tables_1_5 _ (List.mem_of_getElem? (i := 153) rfl)) (by decide +kernel)
set_option maxRecDepth 20000 in
theorem t_1243 : (Jvm.Cond.methodLink "MatchTrees" (378 : Nat) ({ cls := "MatchTrees$Marks", name := "renew", desc := "()V" } : Jvm.MethodName)) ∈ WT := WT_of (sub_tables_1_5 _ (List.mem_of_getElem? (i := 154) (by decide +kernel))) (by decide +kernel)
set_option maxRecDepth 20000 in
theorem t_1244 : (Jvm.Cond.methodLink "MatchTrees" (381 : Nat) ({ cls := "MatchTrees$Marks", name := "isNew", desc := "(I)Z" } : Jvm.MethodName)) ∈ WT := WT_of (sub_tables_1_5 _ (List.mem_of_getElem? (i := 155) (by decide +kernel))) (by decide +kernel)
set_option maxRecDepth 20000 in
theorem t_1245 : (Jvm.Cond.methodLink "MatchTrees" (384 : Nat) ({ cls := "MatchTrees$Seen", name := "mostLeft", desc := "(LMatchTrees$Table;LMatchTrees$Order;I)I" } : Jvm.MethodName)) ∈ WT := WT_of (sub_tables_1_5 _ (List.mem_of_getElem? (i := 156) (by decide +kernel))) (by decide +kernel)
set_option maxRecDepth 20000 in
theorem t_1246 : (Jvm.Cond.instanceMethod ({ cls := "MatchTrees$Seen", name := "mostLeft", desc := "(LMatchTrees$Table;LMatchTrees$Order;I)I" } : Jvm.MethodName)) ∈ WT := WT_of (sub_tables_1_5 _ (List.mem_of_getElem? (i := 157) (by decide +kernel))) (by decide +kernel)
set_option maxRecDepth 20000 in
theorem t_1247 : (Jvm.Cond.selects "MatchTrees$Seen" ({ cls := "MatchTrees$Seen", name := "mostLeft", desc := "(LMatchTrees$Table;LMatchTrees$Order;I)I" } : Jvm.MethodName) ({ cls := "MatchTrees$Seen", name := "mostLeft", desc := "(LMatchTrees$Table;LMatchTrees$Order;I)I" } : Jvm.MethodName)) ∈ WT := WT_of (sub_tables_1_5 _ (List.mem_of_getElem? (i := 158) (by decide +kernel))) (by decide +kernel)
set_option maxRecDepth 20000 in
theorem t_1248 : (Jvm.Cond.code ({ cls := "MatchTrees$Seen", name := "mostLeft", desc := "(LMatchTrees$Table;LMatchTrees$Order;I)I" } : Jvm.MethodName) prog_10_method_6_code (7 : Nat) (Option.some Jvm.ClassFile.FieldType.int)) ∈ WT := WT_of (sub_tables_1_5 _ (List.mem_of_getElem? (i := 159) rfl)) (by decide +kernel)
set_option maxRecDepth 20000 in
theorem t_1249 : (Jvm.Cond.methodLink "MatchTrees$Seen" (69 : Nat) ({ cls := "java/lang/Math", name := "max", desc := "(II)I" } : Jvm.MethodName)) ∈ WT := WT_of (sub_tables_1_5 _ (List.mem_of_getElem? (i := 160) (by decide +kernel))) (by decide +kernel)
set_option maxRecDepth 20000 in
theorem t_1250 : (Jvm.Cond.methodLink "MatchTreesLaw" (111 : Nat) ({ cls := "MatchTrees", name := "run", desc := "(I)I" } : Jvm.MethodName)) ∈ WT := WT_of (sub_tables_1_5 _ (List.mem_of_getElem? (i := 161) (by decide +kernel))) (by decide +kernel)
set_option maxRecDepth 20000 in
theorem t_1251 : (Jvm.Cond.instanceMethod ({ cls := "MatchTrees", name := "run", desc := "(I)I" } : Jvm.MethodName)) ∈ WT := WT_of (sub_tables_1_5 _ (List.mem_of_getElem? (i := 162) (by decide +kernel))) (by decide +kernel)
set_option maxRecDepth 20000 in
theorem t_1252 : (Jvm.Cond.selects "MatchTrees" ({ cls := "MatchTrees", name := "run", desc := "(I)I" } : Jvm.MethodName) ({ cls := "MatchTrees", name := "run", desc := "(I)I" } : Jvm.MethodName)) ∈ WT := WT_of (sub_tables_1_5 _ (List.mem_of_getElem? (i := 163) (by decide +kernel))) (by decide +kernel)
set_option maxRecDepth 20000 in
theorem t_1253 : (Jvm.Cond.code ({ cls := "MatchTrees", name := "run", desc := "(I)I" } : Jvm.MethodName) prog_1_method_34_code (2 : Nat) (Option.some Jvm.ClassFile.FieldType.int)) ∈ WT := WT_of (sub_tables_1_5 _ (List.mem_of_getElem? (i := 164) rfl)) (by decide +kernel)
set_option maxRecDepth 20000 in
theorem t_1254 : (Jvm.Cond.methodLink "MatchTrees" (388 : Nat) ({ cls := "MatchTrees", name := "remember", desc := "()V" } : Jvm.MethodName)) ∈ WT := WT_of (sub_tables_1_5 _ (List.mem_of_getElem? (i := 165) (by decide +kernel))) (by decide +kernel)
set_option maxRecDepth 20000 in
theorem t_1256 : (Jvm.Cond.instanceMethod ({ cls := "MatchTrees", name := "remember", desc := "()V" } : Jvm.MethodName)) ∈ WT := WT_of (sub_tables_1_5 _ (List.mem_of_getElem? (i := 167) (by decide +kernel))) (by decide +kernel)
set_option maxRecDepth 20000 in
theorem t_1257 : (Jvm.Cond.code ({ cls := "MatchTrees", name := "remember", desc := "()V" } : Jvm.MethodName) prog_1_method_43_code (1 : Nat) (Option.none : Option Jvm.ClassFile.FieldType)) ∈ WT := WT_of (sub_tables_1_5 _ (List.mem_of_getElem? (i := 168) rfl)) (by decide +kernel)
set_option maxRecDepth 20000 in
theorem t_1258 : (Jvm.Cond.methodLink "MatchTrees" (412 : Nat) ({ cls := "MatchTrees$Acts", name := "remember", desc := "(LMatchTrees$Order;)V" } : Jvm.MethodName)) ∈ WT := WT_of (sub_tables_1_5 _ (List.mem_of_getElem? (i := 169) (by decide +kernel))) (by decide +kernel)
set_option maxRecDepth 20000 in
theorem t_1259 : (Jvm.Cond.instanceMethod ({ cls := "MatchTrees$Acts", name := "remember", desc := "(LMatchTrees$Order;)V" } : Jvm.MethodName)) ∈ WT := WT_of (sub_tables_1_5 _ (List.mem_of_getElem? (i := 170) (by decide +kernel))) (by decide +kernel)
set_option maxRecDepth 20000 in
theorem t_1260 : (Jvm.Cond.selects "MatchTrees$Acts" ({ cls := "MatchTrees$Acts", name := "remember", desc := "(LMatchTrees$Order;)V" } : Jvm.MethodName) ({ cls := "MatchTrees$Acts", name := "remember", desc := "(LMatchTrees$Order;)V" } : Jvm.MethodName)) ∈ WT := WT_of (sub_tables_1_5 _ (List.mem_of_getElem? (i := 171) (by decide +kernel))) (by decide +kernel)
set_option maxRecDepth 20000 in
theorem t_1261 : (Jvm.Cond.code ({ cls := "MatchTrees$Acts", name := "remember", desc := "(LMatchTrees$Order;)V" } : Jvm.MethodName) prog_2_method_6_code (3 : Nat) (Option.none : Option Jvm.ClassFile.FieldType)) ∈ WT := WT_of (sub_tables_1_5 _ (List.mem_of_getElem? (i := 172) rfl)) (by decide +kernel)
set_option maxRecDepth 20000 in
theorem t_1262 : (Jvm.Cond.methodLink "MatchTrees$Acts" (44 : Nat) ({ cls := "java/lang/Math", name := "floorMod", desc := "(II)I" } : Jvm.MethodName)) ∈ WT := WT_of (sub_tables_1_5 _ (List.mem_of_getElem? (i := 173) (by decide +kernel))) (by decide +kernel)
set_option maxRecDepth 20000 in
theorem t_1263 : (Jvm.Cond.static ({ cls := "java/lang/Math", name := "floorMod", desc := "(II)I" } : Jvm.MethodName)) ∈ WT := WT_of (sub_tables_1_5 _ (List.mem_of_getElem? (i := 174) (by decide +kernel))) (by decide +kernel)
set_option maxRecDepth 20000 in
theorem t_1264 : (Jvm.Cond.code ({ cls := "java/lang/Math", name := "floorMod", desc := "(II)I" } : Jvm.MethodName) prog_16_method_50_code (3 : Nat) (Option.some Jvm.ClassFile.FieldType.int)) ∈ WT := WT_of (sub_tables_1_5 _ (List.mem_of_getElem? (i := 175) rfl)) (by decide +kernel)
set_option maxRecDepth 20000 in
theorem t_1265 : (Jvm.Cond.methodLink "MatchTrees$Acts" (54 : Nat) ({ cls := "MatchTrees$Order", name := "copy", desc := "(LMatchTrees$Order;)V" } : Jvm.MethodName)) ∈ WT := WT_of (sub_tables_1_5 _ (List.mem_of_getElem? (i := 176) (by decide +kernel))) (by decide +kernel)
set_option maxRecDepth 20000 in
theorem t_1266 : (Jvm.Cond.methodLink "MatchTrees" (391 : Nat) ({ cls := "MatchTrees", name := "runRow", desc := "(I)I" } : Jvm.MethodName)) ∈ WT := WT_of (sub_tables_1_5 _ (List.mem_of_getElem? (i := 177) (by decide +kernel))) (by decide +kernel)
set_option maxRecDepth 20000 in
theorem t_1268 : (Jvm.Cond.instanceMethod ({ cls := "MatchTrees", name := "runRow", desc := "(I)I" } : Jvm.MethodName)) ∈ WT := WT_of (sub_tables_1_5 _ (List.mem_of_getElem? (i := 179) (by decide +kernel))) (by decide +kernel)
set_option maxRecDepth 20000 in
theorem t_1269 : (Jvm.Cond.code ({ cls := "MatchTrees", name := "runRow", desc := "(I)I" } : Jvm.MethodName) prog_1_method_35_code (3 : Nat) (Option.some Jvm.ClassFile.FieldType.int)) ∈ WT := WT_of (sub_tables_1_5 _ (List.mem_of_getElem? (i := 180) rfl)) (by decide +kernel)
set_option maxRecDepth 20000 in
theorem t_1270 : (Jvm.Cond.methodLink "MatchTrees" (394 : Nat) ({ cls := "MatchTrees$Trees", name := "columnsAsked", desc := "(LMatchTrees$Order;I)I" } : Jvm.MethodName)) ∈ WT := WT_of (sub_tables_1_5 _ (List.mem_of_getElem? (i := 181) (by decide +kernel))) (by decide +kernel)
set_option maxRecDepth 20000 in
theorem t_1271 : (Jvm.Cond.instanceMethod ({ cls := "MatchTrees$Trees", name := "columnsAsked", desc := "(LMatchTrees$Order;I)I" } : Jvm.MethodName)) ∈ WT := WT_of (sub_tables_1_5 _ (List.mem_of_getElem? (i := 182) (by decide +kernel))) (by decide +kernel)
set_option maxRecDepth 20000 in
theorem t_1272 : (Jvm.Cond.selects "MatchTrees$Trees" ({ cls := "MatchTrees$Trees", name := "columnsAsked", desc := "(LMatchTrees$Order;I)I" } : Jvm.MethodName) ({ cls := "MatchTrees$Trees", name := "columnsAsked", desc := "(LMatchTrees$Order;I)I" } : Jvm.MethodName)) ∈ WT := WT_of (sub_tables_1_5 _ (List.mem_of_getElem? (i := 183) (by decide +kernel))) (by decide +kernel)
set_option maxRecDepth 20000 in
theorem t_1273 : (Jvm.Cond.code ({ cls := "MatchTrees$Trees", name := "columnsAsked", desc := "(LMatchTrees$Order;I)I" } : Jvm.MethodName) prog_12_method_17_code (10 : Nat) (Option.some Jvm.ClassFile.FieldType.int)) ∈ WT := WT_of (sub_tables_1_5 _ (List.mem_of_getElem? (i := 184) rfl)) (by decide +kernel)
set_option maxRecDepth 20000 in
theorem t_1274 : (Jvm.Cond.methodLink "MatchTrees$Trees" (180 : Nat) ({ cls := "MatchTrees$Table", name := "valueOf", desc := "(II)I" } : Jvm.MethodName)) ∈ WT := WT_of (sub_tables_1_5 _ (List.mem_of_getElem? (i := 185) (by decide +kernel))) (by decide +kernel)
set_option maxRecDepth 20000 in
theorem t_1275 : (Jvm.Cond.methodLink "MatchTrees" (397 : Nat) ({ cls := "MatchTrees$Acts", name := "keep", desc := "(III)V" } : Jvm.MethodName)) ∈ WT := WT_of (sub_tables_1_5 _ (List.mem_of_getElem? (i := 186) (by decide +kernel))) (by decide +kernel)
set_option maxRecDepth 20000 in
theorem t_1276 : (Jvm.Cond.instanceMethod ({ cls := "MatchTrees$Acts", name := "keep", desc := "(III)V" } : Jvm.MethodName)) ∈ WT := WT_of (sub_tables_1_5 _ (List.mem_of_getElem? (i := 187) (by decide +kernel))) (by decide +kernel)
set_option maxRecDepth 20000 in
theorem t_1277 : (Jvm.Cond.selects "MatchTrees$Acts" ({ cls := "MatchTrees$Acts", name := "keep", desc := "(III)V" } : Jvm.MethodName) ({ cls := "MatchTrees$Acts", name := "keep", desc := "(III)V" } : Jvm.MethodName)) ∈ WT := WT_of (sub_tables_1_5 _ (List.mem_of_getElem? (i := 188) (by decide +kernel))) (by decide +kernel)
set_option maxRecDepth 20000 in
theorem t_1278 : (Jvm.Cond.code ({ cls := "MatchTrees$Acts", name := "keep", desc := "(III)V" } : Jvm.MethodName) prog_2_method_4_code (5 : Nat) (Option.none : Option Jvm.ClassFile.FieldType)) ∈ WT := WT_of (sub_tables_1_5 _ (List.mem_of_getElem? (i := 189) rfl)) (by decide +kernel)
set_option maxRecDepth 20000 in
theorem t_1279 : (Jvm.Cond.methodLink "MatchTreesLaw" (115 : Nat) ({ cls := "MatchTrees", name := "chance", desc := "(I)I" } : Jvm.MethodName)) ∈ WT := WT_of (sub_tables_1_5 _ (List.mem_of_getElem? (i := 190) (by decide +kernel))) (by decide +kernel)
set_option maxRecDepth 20000 in
theorem t_1280 : (Jvm.Cond.instanceMethod ({ cls := "MatchTrees", name := "chance", desc := "(I)I" } : Jvm.MethodName)) ∈ WT := WT_of (sub_tables_1_5 _ (List.mem_of_getElem? (i := 191) (by decide +kernel))) (by decide +kernel)
set_option maxRecDepth 20000 in
theorem t_1281 : (Jvm.Cond.selects "MatchTrees" ({ cls := "MatchTrees", name := "chance", desc := "(I)I" } : Jvm.MethodName) ({ cls := "MatchTrees", name := "chance", desc := "(I)I" } : Jvm.MethodName)) ∈ WT := WT_of (sub_tables_1_5 _ (List.mem_of_getElem? (i := 192) (by decide +kernel))) (by decide +kernel)
set_option maxRecDepth 20000 in
theorem t_1282 : (Jvm.Cond.code ({ cls := "MatchTrees", name := "chance", desc := "(I)I" } : Jvm.MethodName) prog_1_method_36_code (4 : Nat) (Option.some Jvm.ClassFile.FieldType.int)) ∈ WT := WT_of (sub_tables_1_5 _ (List.mem_of_getElem? (i := 193) rfl)) (by decide +kernel)
set_option maxRecDepth 20000 in
theorem t_1283 : (Jvm.Cond.methodLink "MatchTrees" (401 : Nat) ({ cls := "MatchTrees", name := "draw", desc := "(I)I" } : Jvm.MethodName)) ∈ WT := WT_of (sub_tables_1_5 _ (List.mem_of_getElem? (i := 194) (by decide +kernel))) (by decide +kernel)
set_option maxRecDepth 20000 in
theorem t_1285 : (Jvm.Cond.instanceMethod ({ cls := "MatchTrees", name := "draw", desc := "(I)I" } : Jvm.MethodName)) ∈ WT := WT_of (sub_tables_1_5 _ (List.mem_of_getElem? (i := 196) (by decide +kernel))) (by decide +kernel)
set_option maxRecDepth 20000 in
theorem t_1286 : (Jvm.Cond.code ({ cls := "MatchTrees", name := "draw", desc := "(I)I" } : Jvm.MethodName) prog_1_method_37_code (2 : Nat) (Option.some Jvm.ClassFile.FieldType.int)) ∈ WT := WT_of (sub_tables_1_5 _ (List.mem_of_getElem? (i := 197) rfl)) (by decide +kernel)
set_option maxRecDepth 20000 in
theorem t_1287 : (Jvm.Cond.constant "MatchTrees" (404 : Nat) (1103515245 : Int32)) ∈ WT := WT_of (sub_tables_1_5 _ (List.mem_of_getElem? (i := 198) (by decide +kernel))) (by decide +kernel)
set_option maxRecDepth 20000 in
theorem t_1288 : (Jvm.Cond.constant "MatchTrees" (405 : Nat) (2147483647 : Int32)) ∈ WT := WT_of (sub_tables_1_5 _ (List.mem_of_getElem? (i := 199) (by decide +kernel))) (by decide +kernel)
set_option maxRecDepth 20000 in
theorem t_1289 : (Jvm.Cond.methodLink "MatchTreesLaw" (119 : Nat) ({ cls := "MatchTrees", name := "swap", desc := "(II)Z" } : Jvm.MethodName)) ∈ WT := WT_of (sub_tables_1_5 _ (List.mem_of_getElem? (i := 200) (by decide +kernel))) (by decide +kernel)
set_option maxRecDepth 20000 in
theorem t_1290 : (Jvm.Cond.instanceMethod ({ cls := "MatchTrees", name := "swap", desc := "(II)Z" } : Jvm.MethodName)) ∈ WT := WT_of (sub_tables_1_5 _ (List.mem_of_getElem? (i := 201) (by decide +kernel))) (by decide +kernel)
set_option maxRecDepth 20000 in
theorem t_1291 : (Jvm.Cond.selects "MatchTrees" ({ cls := "MatchTrees", name := "swap", desc := "(II)Z" } : Jvm.MethodName) ({ cls := "MatchTrees", name := "swap", desc := "(II)Z" } : Jvm.MethodName)) ∈ WT := WT_of (sub_tables_1_5 _ (List.mem_of_getElem? (i := 202) (by decide +kernel))) (by decide +kernel)
set_option maxRecDepth 20000 in
theorem t_1292 : (Jvm.Cond.code ({ cls := "MatchTrees", name := "swap", desc := "(II)Z" } : Jvm.MethodName) prog_1_method_38_code (3 : Nat) (Option.some Jvm.ClassFile.FieldType.boolean)) ∈ WT := WT_of (sub_tables_1_5 _ (List.mem_of_getElem? (i := 203) rfl)) (by decide +kernel)
set_option maxRecDepth 20000 in
theorem t_1293 : (Jvm.Cond.methodLink "MatchTreesLaw" (124 : Nat) ({ cls := "MatchTrees", name := "drop", desc := "(I)Z" } : Jvm.MethodName)) ∈ WT := WT_of (sub_tables_1_5 _ (List.mem_of_getElem? (i := 204) (by decide +kernel))) (by decide +kernel)
set_option maxRecDepth 20000 in
theorem t_1294 : (Jvm.Cond.instanceMethod ({ cls := "MatchTrees", name := "drop", desc := "(I)Z" } : Jvm.MethodName)) ∈ WT := WT_of (sub_tables_1_5 _ (List.mem_of_getElem? (i := 205) (by decide +kernel))) (by decide +kernel)
set_option maxRecDepth 20000 in
theorem t_1295 : (Jvm.Cond.selects "MatchTrees" ({ cls := "MatchTrees", name := "drop", desc := "(I)Z" } : Jvm.MethodName) ({ cls := "MatchTrees", name := "drop", desc := "(I)Z" } : Jvm.MethodName)) ∈ WT := WT_of (sub_tables_1_5 _ (List.mem_of_getElem? (i := 206) (by decide +kernel))) (by decide +kernel)
set_option maxRecDepth 20000 in
theorem t_1296 : (Jvm.Cond.code ({ cls := "MatchTrees", name := "drop", desc := "(I)Z" } : Jvm.MethodName) prog_1_method_39_code (2 : Nat) (Option.some Jvm.ClassFile.FieldType.boolean)) ∈ WT := WT_of (sub_tables_1_5 _ (List.mem_of_getElem? (i := 207) rfl)) (by decide +kernel)
set_option maxRecDepth 20000 in
theorem t_1297 : (Jvm.Cond.methodLink "MatchTrees" (406 : Nat) ({ cls := "MatchTrees$Order", name := "takeOut", desc := "(I)V" } : Jvm.MethodName)) ∈ WT := WT_of (sub_tables_1_5 _ (List.mem_of_getElem? (i := 208) (by decide +kernel))) (by decide +kernel)
set_option maxRecDepth 20000 in
theorem t_1298 : (Jvm.Cond.instanceMethod ({ cls := "MatchTrees$Order", name := "takeOut", desc := "(I)V" } : Jvm.MethodName)) ∈ WT := WT_of (sub_tables_1_5 _ (List.mem_of_getElem? (i := 209) (by decide +kernel))) (by decide +kernel)
set_option maxRecDepth 20000 in
theorem t_1299 : (Jvm.Cond.selects "MatchTrees$Order" ({ cls := "MatchTrees$Order", name := "takeOut", desc := "(I)V" } : Jvm.MethodName) ({ cls := "MatchTrees$Order", name := "takeOut", desc := "(I)V" } : Jvm.MethodName)) ∈ WT := WT_of (sub_tables_1_5 _ (List.mem_of_getElem? (i := 210) (by decide +kernel))) (by decide +kernel)
set_option maxRecDepth 20000 in
theorem t_1300 : (Jvm.Cond.code ({ cls := "MatchTrees$Order", name := "takeOut", desc := "(I)V" } : Jvm.MethodName) prog_7_method_7_code (3 : Nat) (Option.none : Option Jvm.ClassFile.FieldType)) ∈ WT := WT_of (sub_tables_1_5 _ (List.mem_of_getElem? (i := 211) rfl)) (by decide +kernel)
set_option maxRecDepth 20000 in
theorem t_1301 : (Jvm.Cond.methodLink "MatchTreesLaw" (128 : Nat) ({ cls := "MatchTrees", name := "turn", desc := "(I)I" } : Jvm.MethodName)) ∈ WT := WT_of (sub_tables_1_5 _ (List.mem_of_getElem? (i := 212) (by decide +kernel))) (by decide +kernel)
set_option maxRecDepth 20000 in
theorem t_1302 : (Jvm.Cond.instanceMethod ({ cls := "MatchTrees", name := "turn", desc := "(I)I" } : Jvm.MethodName)) ∈ WT := WT_of (sub_tables_1_5 _ (List.mem_of_getElem? (i := 213) (by decide +kernel))) (by decide +kernel)
set_option maxRecDepth 20000 in
theorem t_1303 : (Jvm.Cond.selects "MatchTrees" ({ cls := "MatchTrees", name := "turn", desc := "(I)I" } : Jvm.MethodName) ({ cls := "MatchTrees", name := "turn", desc := "(I)I" } : Jvm.MethodName)) ∈ WT := WT_of (sub_tables_1_5 _ (List.mem_of_getElem? (i := 214) (by decide +kernel))) (by decide +kernel)
set_option maxRecDepth 20000 in
theorem t_1304 : (Jvm.Cond.code ({ cls := "MatchTrees", name := "turn", desc := "(I)I" } : Jvm.MethodName) prog_1_method_40_code (2 : Nat) (Option.some Jvm.ClassFile.FieldType.int)) ∈ WT := WT_of (sub_tables_1_5 _ (List.mem_of_getElem? (i := 215) rfl)) (by decide +kernel)
set_option maxRecDepth 20000 in
theorem t_1305 : (Jvm.Cond.methodLink "MatchTreesLaw" (132 : Nat) ({ cls := "MatchTrees", name := "choose", desc := "(I)Z" } : Jvm.MethodName)) ∈ WT := WT_of (sub_tables_1_5 _ (List.mem_of_getElem? (i := 216) (by decide +kernel))) (by decide +kernel)
set_option maxRecDepth 20000 in
theorem t_1306 : (Jvm.Cond.instanceMethod ({ cls := "MatchTrees", name := "choose", desc := "(I)Z" } : Jvm.MethodName)) ∈ WT := WT_of (sub_tables_1_5 _ (List.mem_of_getElem? (i := 217) (by decide +kernel))) (by decide +kernel)
end
