/-! One list of words for every method: the tables' words that stay true while tables warm. -/
def WT : List Cond := lw_tbl.filter goodWord
theorem WT_tbl {w : Cond} (h : w ∈ WT) : w ∈ lw_tbl := (List.mem_filter.mp h).1
theorem WT_good {w : Cond} (h : w ∈ WT) : goodWord w = true := (List.mem_filter.mp h).2
theorem WT_of {w : Cond} (h : w ∈ lw_tbl) (g : goodWord w = true) : w ∈ WT := List.mem_filter.mpr ⟨h, g⟩
/-- a callee's words among WT -/
theorem gI {w : Cond} (h : w ∈ WT) : GoodIn WT (w :: WT) := fun x hx => (List.mem_cons.mp hx).elim (fun e => e ▸ ⟨h, good_of_word (WT_good h)⟩) (fun q => ⟨q, good_of_word (WT_good q)⟩)
theorem gV {own C : String} {idx : Nat} {y : MethodName} {w : Cond} (h1 : Cond.methodLink own idx y ∈ WT) (h2 : Cond.instanceMethod y ∈ WT) (h3 : Cond.selects C y y ∈ WT) (h4 : Cond.initialized C ∈ WT) (h5 : w ∈ WT) : GoodIn WT (wsV own idx C y (w :: WT)) := by
  intro x hx
  have hm : x ∈ WT := by
    rcases List.mem_append.mp hx with q | q
    · simp only [List.mem_cons, List.not_mem_nil, or_false] at q
      rcases q with rfl | rfl | rfl | rfl <;> assumption
    · rcases List.mem_cons.mp q with rfl | q
      · exact h5
      · exact q
  exact ⟨hm, good_of_word (WT_good hm)⟩
theorem gS {own : String} {idx : Nat} {y : MethodName} {w : Cond} (h1 : Cond.methodLink own idx y ∈ WT) (h2 : Cond.static y ∈ WT) (h3 : Cond.initialized own ∈ WT) (h5 : w ∈ WT) : GoodIn WT (wsS own idx y (w :: WT)) := by
  intro x hx
  have hm : x ∈ WT := by
    rcases List.mem_append.mp hx with q | q
    · simp only [List.mem_cons, List.not_mem_nil, or_false] at q
      rcases q with rfl | rfl | rfl <;> assumption
    · rcases List.mem_cons.mp q with rfl | q
      · exact h5
      · exact q
  exact ⟨hm, good_of_word (WT_good hm)⟩
theorem gT {own : String} {idx : Nat} {y : MethodName} {w : Cond} (h1 : Cond.methodLink own idx y ∈ WT) (h2 : Cond.static y ∈ WT) (h3 : Cond.initialized y.cls ∈ WT) (h5 : w ∈ WT) : GoodIn WT (va_wsS own idx y (w :: WT)) := by
  intro x hx
  have hm : x ∈ WT := by
    rcases List.mem_append.mp hx with q | q
    · simp only [List.mem_cons, List.not_mem_nil, or_false] at q
      rcases q with rfl | rfl | rfl <;> assumption
    · rcases List.mem_cons.mp q with rfl | q
      · exact h5
      · exact q
  exact ⟨hm, good_of_word (WT_good hm)⟩
theorem tb_in : ∀ w ∈ tables_1, w ∈ lw_tbl := fun w h => List.mem_append_right _ h
theorem sub_tables_1_1 : ∀ w ∈ tables_1_1, w ∈ lw_tbl := fun w h => tb_in w (List.mem_append_left _ h)
theorem sub_tables_1_2 : ∀ w ∈ tables_1_2, w ∈ lw_tbl := fun w h => tb_in w (List.mem_append_right _ (List.mem_append_left _ h))
theorem sub_tables_1_3 : ∀ w ∈ tables_1_3, w ∈ lw_tbl := fun w h => tb_in w (List.mem_append_right _ (List.mem_append_right _ (List.mem_append_left _ h)))
theorem sub_tables_1_4 : ∀ w ∈ tables_1_4, w ∈ lw_tbl := fun w h => tb_in w (List.mem_append_right _ (List.mem_append_right _ (List.mem_append_right _ (List.mem_append_left _ h))))
theorem sub_tables_1_5 : ∀ w ∈ tables_1_5, w ∈ lw_tbl := fun w h => tb_in w (List.mem_append_right _ (List.mem_append_right _ (List.mem_append_right _ (List.mem_append_right _ (List.mem_append_left _ h)))))
theorem sub_tables_1_6 : ∀ w ∈ tables_1_6, w ∈ lw_tbl := fun w h => tb_in w (List.mem_append_right _ (List.mem_append_right _ (List.mem_append_right _ (List.mem_append_right _ (List.mem_append_right _ (List.mem_append_left _ h))))))
theorem sub_tables_1_7 : ∀ w ∈ tables_1_7, w ∈ lw_tbl := fun w h => tb_in w (List.mem_append_right _ (List.mem_append_right _ (List.mem_append_right _ (List.mem_append_right _ (List.mem_append_right _ (List.mem_append_right _ (List.mem_append_left _ h)))))))
theorem sub_tables_1_8 : ∀ w ∈ tables_1_8, w ∈ lw_tbl := fun w h => tb_in w (List.mem_append_right _ (List.mem_append_right _ (List.mem_append_right _ (List.mem_append_right _ (List.mem_append_right _ (List.mem_append_right _ (List.mem_append_right _ (List.mem_append_left _ h))))))))
theorem sub_tables_1_9 : ∀ w ∈ tables_1_9, w ∈ lw_tbl := fun w h => tb_in w (List.mem_append_right _ (List.mem_append_right _ (List.mem_append_right _ (List.mem_append_right _ (List.mem_append_right _ (List.mem_append_right _ (List.mem_append_right _ (List.mem_append_right _ h))))))))
