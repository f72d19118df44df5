/-! What the reference answers: X12_isWord. -/
set_option maxRecDepth 100000 in
set_option maxHeartbeats 4000000 in
theorem f_X12_isWord (G : GT) (P : PH) (T : TT) (p : Int) (a1 : Int) (h_a1 : (-9223372036854775808) ≤ a1 ∧ a1 ≤ 9223372036854775807) (hB : BdM P) (z0 : MS T p P) (Q : Option PV → PH → Prop) (hQ : ∀ (r : Int) (_ : 0 ≤ r ∧ r ≤ 1) (_ : r = 0 ∨ (P 0 3 = 1 ∧ P 0 7 = a1)) (_ : tK T p = 4 ∨ (r = 1 ∧ tK T p = 1 ∧ tW T p = a1) ∨ (r = 0 ∧ (tK T p ≠ 1 ∨ tW T p ≠ a1))), Q (some (vI r)) P) : Ct WSM G 1 iX12_isWord [vR 0, vL a1] P Q := by
  refine Ct.of (by decide) (l0 := [(0, vR 0), (1, vL a1)]) rfl (Nat.le_of_ble_eq_true rfl) ?_
  have ht : tK T p ≠ 4 → P 0 3 = tK T p ∧ P 0 5 = tE T p := z0.tok
  have hv : tK T p = 1 → P 0 7 = tW T p := z0.word
  refine g_aload_n dX12_isWord_0 rfl ?_
  refine m_g3 (z := (P 0 3)) rfl dX12_isWord_1 rfl ?_
  refine g_iconst dX12_isWord_4 ?_
  have f1 := b0_3 hB
  refine g_icmp_ne (tgt := 21) dX12_isWord_5 (by decide) ⟨by have q0 := b0_3 hB; omega, by have q0 := b0_3 hB; omega⟩ (by decide) (fun k2 => ?_) (fun k2 => ?_)
  · refine g_iconst dX12_isWord_21 ?_
    exact g_retZ dX12_isWord_22 rfl (by decide) (hQ 0 (by decide) (by have q0 := b0_3 hB; have q1 := b0_7 hB; omega) (by omega))
  · refine g_aload_n dX12_isWord_8 rfl ?_
    refine m_g7 (z := (P 0 7)) rfl dX12_isWord_9 rfl ?_
    refine g_lload_n dX12_isWord_12 rfl ?_
    refine g_lcmp dX12_isWord_13 ⟨by have q0 := b0_7 hB; omega, by have q0 := b0_7 hB; omega⟩ ⟨by omega, by omega⟩ ?_
    refine g_nm (fun b3 e_b3 => ?_)
    have h_b3 := lcmpv_b (P 0 7) a1
    have h0_b3 := lcmpv_0 (x := (P 0 7)) (y := a1)
    have h1_b3 := lcmpv_lt (x := (P 0 7)) (y := a1)
    have h2_b3 := lcmpv_gt (x := (P 0 7)) (y := a1)
    rw [← e_b3] at h_b3 h0_b3 h1_b3 h2_b3
    refine g_if_ne (tgt := 21) dX12_isWord_14 (by decide) ⟨by omega, by omega⟩ (fun k4 => ?_) (fun k4 => ?_)
    · refine g_iconst dX12_isWord_21 ?_
      exact g_retZ dX12_isWord_22 rfl (by decide) (hQ 0 (by decide) (by have q0 := b0_3 hB; have q1 := b0_7 hB; omega) (by omega))
    · refine g_iconst dX12_isWord_17 ?_
      refine g_goto (tgt := 22) dX12_isWord_18 (by decide) ?_
      exact g_retZ dX12_isWord_22 rfl (by decide) (hQ 1 (by decide) (by have q0 := b0_3 hB; have q1 := b0_7 hB; omega) (by omega))
