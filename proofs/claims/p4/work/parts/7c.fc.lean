/-! Where there is no fault its place is none. -/
def FP (P : PH) : Prop := P 0 8 ≤ 0 → P 0 9 = -1
theorem FP.fr {P P1 : PH} {F : FS} (h : FP P) (hf : FrM F P P1) (hd : disF F ([8, 9], []) = true) : FP P1 := by
  unfold FP at h ⊢
  rw [disF_k hd hf (k := 8) (by decide), disF_k hd hf (k := 9) (by decide)]
  exact h
