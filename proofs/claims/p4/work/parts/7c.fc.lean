/-! Where there is no fault its place is none. -/
def FP (P : PH) : Prop := P 0 8 ≤ 0 → P 0 9 = -1
theorem FP.fr {P P1 : PH} {F : FS} (h : FP P) (hf : FrM F P P1) (hd : disF F ([8, 9], []) = true) : FP P1 := by
  unfold FP at h ⊢
  rw [disF_k hd hf (k := 8) (by decide), disF_k hd hf (k := 9) (by decide)]
  exact h
/-! A field, a column: what is told of it, one lemma a way. -/
section KG
variable {T : TT} {K : PH} {but n many of' its most p : Int}
theorem kGo_1 (h : tK T p ≠ 1 ∨ (tO T p ≠ -1 ∧ tO T p ≠ 7)) : kGo T K but n many of' its most p = 1 := by
  unfold kGo
  rw [if_neg (by omega)]
theorem kGo_6 (hw : tK T p = 1 ∧ (tO T p = -1 ∨ tO T p = 7)) (h : many ≤ n) : kGo T K but n many of' its most p = 6 := by
  unfold kGo
  rw [if_pos hw, if_pos h]
theorem kGo_3 (hw : tK T p = 1 ∧ (tO T p = -1 ∨ tO T p = 7)) (hn : n < many) (h : tO T p = -1 ∧ (kHe T K p = -1 ∨ kHe T K p = but ∨ K 3 (kHe T K p) ≤ 0)) : kGo T K but n many of' its most p = 3 := by
  unfold kGo
  rw [if_pos hw, if_neg (by omega), if_pos ⟨by omega, h.2⟩]
theorem kGo_4 (hw : tK T p = 1 ∧ (tO T p = -1 ∨ tO T p = 7)) (hn : n < many) (hk : tO T p = 7 ∨ (kHe T K p ≠ -1 ∧ kHe T K p ≠ but ∧ 1 ≤ K 3 (kHe T K p))) (h : most < of' + its * sz K (kHe T K p)) : kGo T K but n many of' its most p = 4 := by
  unfold kGo
  rw [if_pos hw, if_neg (by omega), if_neg (fun z => by omega), if_pos h]
theorem kGo_0 (hw : tK T p = 1 ∧ (tO T p = -1 ∨ tO T p = 7)) (hn : n < many) (hk : tO T p = 7 ∨ (kHe T K p ≠ -1 ∧ kHe T K p ≠ but ∧ 1 ≤ K 3 (kHe T K p))) (h : of' + its * sz K (kHe T K p) ≤ most) : kGo T K but n many of' its most p = 0 := by
  unfold kGo
  rw [if_pos hw, if_neg (by omega), if_neg (fun z => by omega), if_neg (by omega)]
theorem szk_b (h : AW K) (hk : tO T p = 7 ∨ (kHe T K p ≠ -1 ∧ kHe T K p ≠ but ∧ 1 ≤ K 3 (kHe T K p))) : 1 ≤ sz K (kHe T K p) ∧ sz K (kHe T K p) ≤ 2006 := by
  have hb := kHe_b (T := T) h p
  rcases sz_s K (kHe T K p) with q | q
  · omega
  · have q2 := h.2.1 (kHe T K p) (by omega) hb.2
    have q3 := kHe_s T K p
    omega
end KG
