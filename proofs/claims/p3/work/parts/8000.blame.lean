/-! What the reference answers: X12_blame. -/
set_option maxRecDepth 100000 in
set_option maxHeartbeats 4000000 in
theorem f_X12_blame (G : GT) (P : PH) (a1 : Int) (a2 : Int) (h_a1 : 0 ≤ a1 ∧ a1 ≤ 6) (h_a2 : (-1) ≤ a2 ∧ a2 ≤ 1600) (hB : BdM P) (Q : Option PV → PH → Prop) (hQ : ∀ (P1 : PH) (_ : BdM P1) (_ : FrM ([8, 9], []) P P1) (_ : 0 < P1 0 8 ∨ a1 ≤ 0) (_ : P 0 8 ≤ 0 ∨ 0 < P1 0 8) (_ : (0 < P 0 8 ∧ P1 0 8 = P 0 8 ∧ P1 0 9 = P 0 9) ∨ (P 0 8 ≤ 0 ∧ P1 0 8 = a1 ∧ P1 0 9 = a2)), Q none P1) : Ct WSM G 1 iX12_blame [vR 0, vI a1, vI a2] P Q := by
  refine Ct.of (by decide) (l0 := [(0, vR 0), (1, vI a1), (2, vI a2)]) rfl (Nat.le_of_ble_eq_true rfl) ?_
  refine g_aload_n dX12_blame_0 rfl ?_
  refine m_g8 (z := (P 0 8)) rfl dX12_blame_1 rfl ?_
  have f1 := b0_8 hB
  refine g_if_le (tgt := 8) dX12_blame_4 (by decide) ⟨by have q0 := b0_8 hB; omega, by have q0 := b0_8 hB; omega⟩ (fun k2 => ?_) (fun k2 => ?_)
  · refine g_aload_n dX12_blame_8 rfl ?_
    refine g_iload_n dX12_blame_9 rfl ?_
    refine m_p8 rfl dX12_blame_10 ?_
    have hB3 := bs_8 (z := a1) hB ⟨by omega, by omega⟩
    refine g_aload_n dX12_blame_13 rfl ?_
    refine g_iload_n dX12_blame_14 rfl ?_
    refine m_p9 rfl dX12_blame_15 ?_
    have hB4 := bs_9 (z := a2) hB3 ⟨by omega, by omega⟩
    exact g_retV dX12_blame_18 rfl (hQ _ hB4 (FrM.s (FrM.s FrM.rf rfl) rfl) (by have q0 := (((up_k (by decide)).trans up_same) : (up (up P 0 8 a1) 0 9 a2) 0 8 = a1); omega) (by have q0 := (((up_k (by decide)).trans up_same) : (up (up P 0 8 a1) 0 9 a2) 0 8 = a1); omega) (by have q0 := (((up_k (by decide)).trans up_same) : (up (up P 0 8 a1) 0 9 a2) 0 8 = a1); have q1 := (up_same : (up (up P 0 8 a1) 0 9 a2) 0 9 = a2); omega))
  · exact g_retV dX12_blame_7 rfl (hQ _ hB FrM.rf (by have q0 := b0_8 hB; omega) (by have q0 := b0_8 hB; omega) (by have q0 := b0_8 hB; have q1 := b0_9 hB; omega))
