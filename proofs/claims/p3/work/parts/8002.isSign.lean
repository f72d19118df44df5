/-! What the reference answers: X12_isSign. -/
set_option maxRecDepth 100000 in
set_option maxHeartbeats 4000000 in
theorem f_X12_isSign (G : GT) (P : PH) (T : TT) (p : Int) (a1 : Int) (h_a1 : (-2147483648) ≤ a1 ∧ a1 ≤ 2147483647) (hB : BdM P) (z0 : MS T p P) (Q : Option PV → PH → Prop) (hQ : ∀ (r : Int) (_ : 0 ≤ r ∧ r ≤ 1) (_ : r = 0 ∨ (P 0 3 = 3 ∧ P 0 6 = a1)) (_ : tK T p = 4 ∨ (r = 1 ∧ tK T p = 3 ∧ tV T p = a1) ∨ (r = 0 ∧ (tK T p ≠ 3 ∨ tV T p ≠ a1))), Q (some (vI r)) P) : Ct WSM G 1 iX12_isSign [vR 0, vI a1] P Q := by
  refine Ct.of (by decide) (l0 := [(0, vR 0), (1, vI a1)]) rfl (Nat.le_of_ble_eq_true rfl) ?_
  have ht : tK T p ≠ 4 → P 0 3 = tK T p ∧ P 0 5 = tE T p := z0.tok
  have hv : tK T p = 2 ∨ tK T p = 3 → P 0 6 = tV T p := z0.val
  refine g_aload_n dX12_isSign_0 rfl ?_
  refine m_g3 (z := (P 0 3)) rfl dX12_isSign_1 rfl ?_
  refine g_iconst dX12_isSign_4 ?_
  have f1 := b0_3 hB
  refine g_icmp_ne (tgt := 20) dX12_isSign_5 (by decide) ⟨by have q0 := b0_3 hB; omega, by have q0 := b0_3 hB; omega⟩ (by decide) (fun k2 => ?_) (fun k2 => ?_)
  · refine g_iconst dX12_isSign_20 ?_
    exact g_retZ dX12_isSign_21 rfl (by decide) (hQ 0 (by decide) (by have q0 := b0_3 hB; have q1 := b0_6 hB; omega) (by omega))
  · refine g_aload_n dX12_isSign_8 rfl ?_
    refine m_g6 (z := (P 0 6)) rfl dX12_isSign_9 rfl ?_
    refine g_iload_n dX12_isSign_12 rfl ?_
    have f3 := b0_6 hB
    refine g_icmp_ne (tgt := 20) dX12_isSign_13 (by decide) ⟨by have q0 := b0_6 hB; omega, by have q0 := b0_6 hB; omega⟩ ⟨by omega, by omega⟩ (fun k4 => ?_) (fun k4 => ?_)
    · refine g_iconst dX12_isSign_20 ?_
      exact g_retZ dX12_isSign_21 rfl (by decide) (hQ 0 (by decide) (by have q0 := b0_3 hB; have q1 := b0_6 hB; omega) (by omega))
    · refine g_iconst dX12_isSign_16 ?_
      refine g_goto (tgt := 21) dX12_isSign_17 (by decide) ?_
      exact g_retZ dX12_isSign_21 rfl (by decide) (hQ 1 (by decide) (by have q0 := b0_3 hB; have q1 := b0_6 hB; omega) (by omega))
