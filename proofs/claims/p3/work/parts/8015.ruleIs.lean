/-! What the reference answers: X12_ruleIs. -/
set_option maxRecDepth 100000 in
set_option maxHeartbeats 4000000 in
theorem f_X12_ruleIs (G : GT) (P : PH) (T : TT) (K : PH) (M : PH) (p : Int) (hB : BdM P) (p_lx : (P 0 3 = 0 ∨ P 0 4 + 1 ≤ P 0 5) ∧ P 0 4 ≤ P 0 5) (p_fk : P 0 8 ≤ 0) (p_k0 : tO T p = 5) (z0 : MT T P) (z1 : MS T p P) (z2 : MM M P) (Q : Option PV → PH → Prop) (hQ : ∀ (P1 : PH) (_ : BdM P1) (_ : FrM ([3, 4, 5, 6, 7, 8, 9, 12], [15]) P P1) (_ : (P1 0 3 = 0 ∨ P1 0 4 + 1 ≤ P1 0 5) ∧ P1 0 4 ≤ P1 0 5) (_ : P 0 4 ≤ P1 0 4) (_ : P 0 8 ≤ 0 ∨ 0 < P1 0 8) (_ : P1 0 8 = (num T 0 3 (tE T p)).1 ∧ ((num T 0 3 (tE T p)).1 = 0 ∨ P1 0 9 = (num T 0 3 (tE T p)).2)) (_ : CP (num T 0 3 (tE T p)).1 (MS T (num T 0 3 (tE T p)).2) P1) (_ : CP (num T 0 3 (tE T p)).1 (MM (up M 0 3 (tV T (tE T p)))) P1), Q none P1) : Ct WSM G 4 iX12_ruleIs [vR 0] P Q := by
  refine Ct.of (by decide) (l0 := [(0, vR 0)]) rfl (Nat.le_of_ble_eq_true rfl) ?_
  have hat := z1.at.1
  have hk1 : tK T p = 1 := by have q := tO_r T p; omega
  have htk := z1.tok (by omega)
  have hte := tE_b (T := T) (p := p) (by omega)
  refine g_aload_n dX12_ruleIs_0 rfl ?_
  refine g_iconst dX12_ruleIs_1 ?_
  refine g_vI (av := [vI 0]) (o := 0) (st := []) (f_X12_isCounted G P (T) (p) 0 (by decide) hB (by have q0 := b0_3 hB; have q1 := b0_4 hB; have q2 := b0_5 hB; omega) (by omega) (z0) (z1) _ (fun rc1 hc1 Pc1 hBc1 hFc1 gc1_lx gc1_mo gc1_pe gc1_c gc1_ad gc1_n ec1_0 => ⟨rc1, rfl, ?_⟩)) cf_X12_isCounted t_1714 rfl (by decide) rfl rfl rfl (Nat.le_of_ble_eq_true rfl) (by decide) rfl dX12_ruleIs_2
  refine g_if_ne (tgt := 9) dX12_ruleIs_5 (by decide) ⟨by omega, by omega⟩ (fun k2 => ?_) (fun k2 => ?_)
  · refine g_aload_n dX12_ruleIs_9 rfl ?_
    refine m_g27 rfl dX12_ruleIs_10 ?_
    refine g_aload_n dX12_ruleIs_13 rfl ?_
    refine m_g37 (z := (P 0 37)) rfl dX12_ruleIs_14 ((hFc1.1 37 rfl).trans rfl) ?_
    refine g_aload_n dX12_ruleIs_17 rfl ?_
    refine g_iconst dX12_ruleIs_18 ?_
    refine g_iconst dX12_ruleIs_19 ?_
    refine g_vI (av := [vI 0, vI 3]) (o := 0) (st := [vI (P 0 37), vR 15]) (f_X12_number G Pc1 (T) (tE T p) 0 3 (by decide) (by decide) hBc1 (by have q0 := b0_3 hBc1; have q1 := b0_4 hBc1; have q2 := b0_5 hBc1; omega) (by have q0 := b0_8 hBc1; omega) ((MT.fr (F := ([3, 4, 5, 6, 7, 8, 9, 12], [])) z0 (FrM.c FrM.rf hFc1 rfl) rfl)) ((ec1_0 (by omega))) _ (fun rc3 hc3 Pc3 hBc3 hFc3 gc3_lx gc3_mo gc3_pe gc3_ad gc3_n gc3_v ec3_0 => ⟨rc3, rfl, ?_⟩)) cf_X12_number t_1796 rfl (by decide) rfl rfl rfl (Nat.le_of_ble_eq_true rfl) (by decide) rfl dX12_ruleIs_20
    refine m_s15 dX12_ruleIs_23 ⟨by have q0 := b0_37 hB; omega, by have q0 := b0_37 hB; omega⟩ ?_
    have hB4 := ba_15 (z := rc3) (k := (P 0 37)) hBc3 ⟨by omega, by omega⟩
    exact g_retV dX12_ruleIs_24 rfl (hQ _ hB4 (FrM.a (FrM.c (FrM.c FrM.rf hFc1 rfl) hFc3 rfl) rfl rfl) (by have q0 := (((up_o (by decide)).trans rfl) : (up Pc3 15 (P 0 37) rc3) 0 3 = (Pc3 0 3)); have q1 := b0_3 hBc3; have q2 := (((up_o (by decide)).trans rfl) : (up Pc3 15 (P 0 37) rc3) 0 4 = (Pc3 0 4)); have q3 := b0_4 hBc3; have q4 := (((up_o (by decide)).trans rfl) : (up Pc3 15 (P 0 37) rc3) 0 5 = (Pc3 0 5)); have q5 := b0_5 hBc3; omega) (by have q0 := (((up_o (by decide)).trans rfl) : (up Pc3 15 (P 0 37) rc3) 0 4 = (Pc3 0 4)); have q1 := b0_4 hBc3; omega) (by have q0 := (((up_o (by decide)).trans rfl) : (up Pc3 15 (P 0 37) rc3) 0 8 = (Pc3 0 8)); have q1 := b0_8 hBc3; omega) (by have q0 := (((up_o (by decide)).trans rfl) : (up Pc3 15 (P 0 37) rc3) 0 8 = (Pc3 0 8)); have q1 := b0_8 hBc3; have q2 := (((up_o (by decide)).trans rfl) : (up Pc3 15 (P 0 37) rc3) 0 9 = (Pc3 0 9)); have q3 := b0_9 hBc3; omega) ((fun h0 => (MS.fr (F := ([], [15])) (ec3_0 h0) (FrM.a FrM.rf rfl rfl) rfl))) (fun h0 => z2.rule ((up_o (by decide)).trans ((hFc3.1 37 rfl).trans ((hFc1.1 37 rfl).trans rfl))) (by have q := (up_same : (up Pc3 15 (P 0 37) rc3) 15 (P 0 37) = rc3); omega) (fun j => ((up_o (by decide)).trans ((congrFun (hFc3.2 14 rfl rfl) _).trans ((congrFun (hFc1.2 14 rfl rfl) _).trans rfl)))) (fun j => ((up_o (by decide)).trans ((congrFun (hFc3.2 11 rfl rfl) _).trans ((congrFun (hFc1.2 11 rfl rfl) _).trans rfl)))) (fun j => ((up_o (by decide)).trans ((congrFun (hFc3.2 12 rfl rfl) _).trans ((congrFun (hFc1.2 12 rfl rfl) _).trans rfl)))) (fun j => ((up_o (by decide)).trans ((congrFun (hFc3.2 13 rfl rfl) _).trans ((congrFun (hFc1.2 13 rfl rfl) _).trans rfl)))) (fun j => ((up_o (by decide)).trans ((congrFun (hFc3.2 16 rfl rfl) _).trans ((congrFun (hFc1.2 16 rfl rfl) _).trans rfl))))))
  · exact g_retV dX12_ruleIs_8 rfl (hQ _ hBc1 (FrM.c FrM.rf hFc1 rfl) (by have q0 := b0_3 hBc1; have q1 := b0_4 hBc1; have q2 := b0_5 hBc1; omega) (by have q0 := b0_4 hBc1; omega) (by have q0 := b0_8 hBc1; omega) (by have q0 := b0_8 hBc1; have q1 := b0_9 hBc1; omega) ((fun h0 => by first | exact (by first | (rw [show (num T 0 3 (tE T p)).2 = (tE T p) by omega]; exact (ec1_0 (by omega)))) | (exfalso; omega))) (fun h0 => by exfalso; omega))
