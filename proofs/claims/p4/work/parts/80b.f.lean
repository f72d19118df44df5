/-! What the reference answers: X12_ahead. -/
set_option maxRecDepth 100000 in
set_option maxHeartbeats 4000000 in
theorem f_X12_ahead (G : GT) (P : PH) (T : TT) (p : Int) (hB : BdM P) (p_pp : P 0 5 = p ∧ 0 ≤ p ∧ p ≤ T.2) (z0 : MT T P) (Q : Option PV → PH → Prop) (hQ : ∀ (P1 : PH) (_ : BdM P1) (_ : FrM ([3, 4, 5, 6, 7, 12], []) P P1) (_ : (P1 0 3 = 0 ∨ P1 0 4 + 1 ≤ P1 0 5) ∧ P1 0 4 ≤ P1 0 5) (_ : P 0 5 ≤ P1 0 4) (_ : MS T p P1), Q none P1) : Ct WSM G 2 iX12_ahead [vR 0] P Q := by
  sorry
