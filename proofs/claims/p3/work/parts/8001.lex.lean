/-! What the reference answers: X12_lex. -/
set_option maxRecDepth 100000 in
set_option maxHeartbeats 4000000 in
theorem f_X12_lex (G : GT) (P : PH) (T : TT) (p : Int) (hB : BdM P) (z0 : CP (P 0 8) (MS T p) P) (Q : Option PV → PH → Prop) (hQ : ∀ (P1 : PH) (_ : BdM P1) (_ : FrM ([8, 9], []) P P1) (_ : P 0 8 ≤ 0 ∨ 0 < P1 0 8) (_ : (0 < P 0 8 ∧ P1 0 8 = P 0 8 ∧ P1 0 9 = P 0 9) ∨ (P 0 8 = 0 ∧ tK T p = 4 ∧ P1 0 8 = 1 ∧ P1 0 9 = tS T p) ∨ (P 0 8 = 0 ∧ tK T p ≠ 4 ∧ P1 0 8 = P 0 8 ∧ P1 0 9 = P 0 9)), Q none P1) : Ct WSM G 2 iX12_lex [vR 0] P Q := by
  refine Ct.of (by decide) (l0 := [(0, vR 0)]) rfl (Nat.le_of_ble_eq_true rfl) ?_
  have hb8 := b0_8 hB
  have hbad : P 0 8 = 0 → (tK T p = 4 ∧ P 0 12 = tS T p ∧ P 0 12 ≠ -1) ∨ (tK T p ≠ 4 ∧ P 0 12 = -1) := fun h => (z0 h).bad
  refine g_aload_n dX12_lex_0 rfl ?_
  refine m_g12 (z := (P 0 12)) rfl dX12_lex_1 rfl ?_
  refine g_iconst dX12_lex_4 ?_
  have f1 := b0_12 hB
  refine g_icmp_eq (tgt := 17) dX12_lex_5 (by decide) ⟨by have q0 := b0_12 hB; omega, by have q0 := b0_12 hB; omega⟩ (by decide) (fun k2 => ?_) (fun k2 => ?_)
  · exact g_retV dX12_lex_17 rfl (hQ _ hB FrM.rf (by have q0 := b0_8 hB; omega) (by have q0 := b0_8 hB; have q1 := b0_9 hB; omega))
  · refine g_aload_n dX12_lex_8 rfl ?_
    refine g_iconst dX12_lex_9 ?_
    refine g_aload_n dX12_lex_10 rfl ?_
    refine m_g12 (z := (P 0 12)) rfl dX12_lex_11 rfl ?_
    refine g_vV (av := [vI 1, vI (P 0 12)]) (o := 0) (st := []) (f_X12_blame G P 1 (P 0 12) (by decide) ⟨by have q0 := b0_12 hB; omega, by have q0 := b0_12 hB; omega⟩ hB  _ (fun Pc3 hBc3 hFc3 gc3_f gc3_pe gc3_b => ⟨rfl, ?_⟩)) cf_X12_blame t_1701 rfl (by decide) rfl rfl rfl (Nat.le_of_ble_eq_true rfl) (by decide) rfl dX12_lex_14
    exact g_retV dX12_lex_17 rfl (hQ _ hBc3 (FrM.c FrM.rf hFc3 rfl) (by have q0 := b0_8 hBc3; omega) (by have q0 := b0_8 hBc3; have q1 := b0_9 hBc3; omega))
