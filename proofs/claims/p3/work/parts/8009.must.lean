/-! What the reference answers: X12_must. -/
set_option maxRecDepth 100000 in
set_option maxHeartbeats 4000000 in
theorem f_X12_must (G : GT) (P : PH) (T : TT) (p : Int) (a1 : Int) (h_a1 : (-2147483648) ≤ a1 ∧ a1 ≤ 2147483647) (hB : BdM P) (p_lx : (P 0 3 = 0 ∨ P 0 4 + 1 ≤ P 0 5) ∧ P 0 4 ≤ P 0 5) (z0 : MT T P) (z1 : MS T p P) (Q : Option PV → PH → Prop) (hQ : ∀ (P1 : PH) (_ : BdM P1) (_ : FrM ([3, 4, 5, 6, 7, 8, 9, 12], []) P P1) (_ : (P1 0 3 = 0 ∨ P1 0 4 + 1 ≤ P1 0 5) ∧ P1 0 4 ≤ P1 0 5) (_ : P 0 4 ≤ P1 0 4) (_ : P 0 8 ≤ 0 ∨ 0 < P1 0 8) (_ : 0 < P1 0 8 ∨ P 0 4 + 1 ≤ P1 0 4) (_ : (0 < P 0 8 ∧ P1 0 8 = P 0 8 ∧ P1 0 9 = P 0 9) ∨ (P 0 8 ≤ 0 ∧ P1 0 8 = (sgn T a1 p).1 ∧ ((sgn T a1 p).1 = 0 ∨ P1 0 9 = (sgn T a1 p).2))) (_ : CP (P1 0 8) (MS T (sgn T a1 p).2) P1), Q none P1) : Ct WSM G 3 iX12_must [vR 0, vI a1] P Q := by
  refine Ct.of (by decide) (l0 := [(0, vR 0), (1, vI a1)]) rfl (Nat.le_of_ble_eq_true rfl) ?_
  have hsg := sgn_s T a1 p
  have hfh := fh_s T p
  have hat := z1.at.1
  have hb8 := b0_8 hB
  refine g_aload_n dX12_must_0 rfl ?_
  refine g_vV (av := []) (o := 0) (st := []) (f_X12_lex G P (T) (p)  hB ((fun h0 => by first | exact z1 | (exfalso; omega))) _ (fun Pc1 hBc1 hFc1 gc1_pe gc1_l => ⟨rfl, ?_⟩)) cf_X12_lex t_1697 rfl (by decide) rfl rfl rfl (Nat.le_of_ble_eq_true rfl) (by decide) rfl dX12_must_1
  refine g_aload_n dX12_must_4 rfl ?_
  refine g_iload_n dX12_must_5 rfl ?_
  refine g_vI (av := [vI a1]) (o := 0) (st := []) (f_X12_isSign G Pc1 (T) (p) a1 ⟨by omega, by omega⟩ hBc1 ((MS.fr (F := ([8, 9], [])) z1 (FrM.c FrM.rf hFc1 rfl) rfl)) _ (fun rc2 hc2 gc2_s gc2_f => ⟨rc2, rfl, ?_⟩)) cf_X12_isSign t_1772 rfl (by decide) rfl rfl rfl (Nat.le_of_ble_eq_true rfl) (by decide) rfl dX12_must_6
  have z3 : Pc1 0 3 = (P 0 3) := ((hFc1.1 3 rfl).trans rfl)
  have z4 : Pc1 0 6 = (P 0 6) := ((hFc1.1 6 rfl).trans rfl)
  refine g_if_ne (tgt := 21) dX12_must_9 (by decide) ⟨by omega, by omega⟩ (fun k5 => ?_) (fun k5 => ?_)
  · refine g_aload_n dX12_must_21 rfl ?_
    refine m_g8 (z := (Pc1 0 8)) rfl dX12_must_22 rfl ?_
    have f6 := b0_8 hBc1
    refine g_if_ne (tgt := 32) dX12_must_25 (by decide) ⟨by have q0 := b0_8 hBc1; omega, by have q0 := b0_8 hBc1; omega⟩ (fun k7 => ?_) (fun k7 => ?_)
    · exact g_retV dX12_must_32 rfl (hQ _ hBc1 (FrM.c FrM.rf hFc1 rfl) (by have q0 := (((hFc1.1 3 rfl).trans rfl) : Pc1 0 3 = (P 0 3)); have q1 := b0_3 hB; have q2 := (((hFc1.1 4 rfl).trans rfl) : Pc1 0 4 = (P 0 4)); have q3 := b0_4 hB; have q4 := (((hFc1.1 5 rfl).trans rfl) : Pc1 0 5 = (P 0 5)); have q5 := b0_5 hB; omega) (by have q0 := (((hFc1.1 4 rfl).trans rfl) : Pc1 0 4 = (P 0 4)); have q1 := b0_4 hB; omega) (by have q0 := b0_8 hBc1; omega) (by have q0 := b0_8 hBc1; have q1 := (((hFc1.1 4 rfl).trans rfl) : Pc1 0 4 = (P 0 4)); have q2 := b0_4 hB; omega) (by have q0 := b0_8 hBc1; have q1 := b0_9 hBc1; omega) ((fun h0 => by first | exact (by first | (rw [show (sgn T a1 p).2 = p by omega]; exact (MS.fr (F := ([8, 9], [])) z1 (FrM.c FrM.rf hFc1 rfl) rfl))) | (exfalso; omega))))
    · refine g_aload_n dX12_must_28 rfl ?_
      refine g_vV (av := []) (o := 0) (st := []) (f_X12_ahead G Pc1 (T) (tE T p)  hBc1 (by have q := (((hFc1.1 5 rfl).trans rfl) : Pc1 0 5 = (P 0 5)); have q2 := z1.tok (by omega); have q3 := tE_b (T := T) (p := p) (by omega); have q4 := z1.at; omega) ((MT.fr (F := ([8, 9], [])) z0 (FrM.c FrM.rf hFc1 rfl) rfl)) _ (fun Pc8 hBc8 hFc8 gc8_lx gc8_nx ec8_0 => ⟨rfl, ?_⟩)) cf_X12_ahead t_1683 rfl (by decide) rfl rfl rfl (Nat.le_of_ble_eq_true rfl) (by decide) rfl dX12_must_29
      have z9 : Pc1 0 5 = (P 0 5) := ((hFc1.1 5 rfl).trans rfl)
      exact g_retV dX12_must_32 rfl (hQ _ hBc8 (FrM.c (FrM.c FrM.rf hFc1 rfl) hFc8 rfl) (by have q0 := b0_3 hBc8; have q1 := b0_4 hBc8; have q2 := b0_5 hBc8; omega) (by have q0 := b0_4 hBc8; omega) (by have q0 := (((hFc8.1 8 rfl).trans rfl) : Pc8 0 8 = (Pc1 0 8)); have q1 := b0_8 hBc1; omega) (by have q0 := (((hFc8.1 8 rfl).trans rfl) : Pc8 0 8 = (Pc1 0 8)); have q1 := b0_8 hBc1; have q2 := b0_4 hBc8; omega) (by have q0 := (((hFc8.1 8 rfl).trans rfl) : Pc8 0 8 = (Pc1 0 8)); have q1 := b0_8 hBc1; have q2 := (((hFc8.1 9 rfl).trans rfl) : Pc8 0 9 = (Pc1 0 9)); have q3 := b0_9 hBc1; omega) ((fun h0 => by first | exact (by first | (rw [show (sgn T a1 p).2 = (tE T p) by omega]; exact ec8_0)) | (exfalso; omega))))
  · refine g_aload_n dX12_must_12 rfl ?_
    refine g_iconst dX12_must_13 ?_
    refine g_aload_n dX12_must_14 rfl ?_
    refine m_g4 (z := (P 0 4)) rfl dX12_must_15 ((hFc1.1 4 rfl).trans rfl) ?_
    have f10 := b0_4 hB
    refine g_vV (av := [vI 1, vI (P 0 4)]) (o := 0) (st := []) (f_X12_blame G Pc1 1 (P 0 4) (by decide) ⟨by have q0 := b0_4 hB; omega, by have q0 := b0_4 hB; omega⟩ hBc1  _ (fun Pc11 hBc11 hFc11 gc11_f gc11_pe gc11_b => ⟨rfl, ?_⟩)) cf_X12_blame t_1701 rfl (by decide) rfl rfl rfl (Nat.le_of_ble_eq_true rfl) (by decide) rfl dX12_must_18
    refine g_aload_n dX12_must_21 rfl ?_
    refine m_g8 (z := (Pc11 0 8)) rfl dX12_must_22 rfl ?_
    have f12 := b0_8 hBc11
    refine g_if_ne (tgt := 32) dX12_must_25 (by decide) ⟨by have q0 := b0_8 hBc11; omega, by have q0 := b0_8 hBc11; omega⟩ (fun k13 => ?_) (fun k13 => by exfalso; have q0 := b0_8 hBc11; omega)
    exact g_retV dX12_must_32 rfl (hQ _ hBc11 (FrM.c (FrM.c FrM.rf hFc1 rfl) hFc11 rfl) (by have q0 := (((hFc11.1 3 rfl).trans ((hFc1.1 3 rfl).trans rfl)) : Pc11 0 3 = (P 0 3)); have q1 := b0_3 hB; have q2 := (((hFc11.1 4 rfl).trans ((hFc1.1 4 rfl).trans rfl)) : Pc11 0 4 = (P 0 4)); have q3 := b0_4 hB; have q4 := (((hFc11.1 5 rfl).trans ((hFc1.1 5 rfl).trans rfl)) : Pc11 0 5 = (P 0 5)); have q5 := b0_5 hB; omega) (by have q0 := (((hFc11.1 4 rfl).trans ((hFc1.1 4 rfl).trans rfl)) : Pc11 0 4 = (P 0 4)); have q1 := b0_4 hB; omega) (by have q0 := b0_8 hBc11; omega) (by have q0 := b0_8 hBc11; have q1 := (((hFc11.1 4 rfl).trans ((hFc1.1 4 rfl).trans rfl)) : Pc11 0 4 = (P 0 4)); have q2 := b0_4 hB; omega) (by have q0 := b0_8 hBc11; have q1 := b0_9 hBc11; omega) ((fun h0 => by first | exact (by first | (rw [show (sgn T a1 p).2 = p by omega]; exact (MS.fr (F := ([8, 9], [])) z1 (FrM.c (FrM.c FrM.rf hFc1 rfl) hFc11 rfl) rfl))) | (exfalso; omega))))
