/-! What the reference answers: X12_isCounted. -/
set_option maxRecDepth 100000 in
set_option maxHeartbeats 4000000 in
theorem f_X12_isCounted (G : GT) (P : PH) (T : TT) (p : Int) (a1 : Int) (h_a1 : 0 ≤ a1 ∧ a1 ≤ 1) (hB : BdM P) (p_lx : (P 0 3 = 0 ∨ P 0 4 + 1 ≤ P 0 5) ∧ P 0 4 ≤ P 0 5) (p_k1 : 1 ≤ tK T p ∧ tK T p ≤ 3) (z0 : MT T P) (z1 : MS T p P) (Q : Option PV → PH → Prop) (hQ : ∀ (r : Int) (_ : 0 ≤ r ∧ r ≤ 1) (P1 : PH) (_ : BdM P1) (_ : FrM ([3, 4, 5, 6, 7, 8, 9, 12], []) P P1) (_ : (P1 0 3 = 0 ∨ P1 0 4 + 1 ≤ P1 0 5) ∧ P1 0 4 ≤ P1 0 5) (_ : P 0 4 ≤ P1 0 4) (_ : P 0 8 ≤ 0 ∨ 0 < P1 0 8) (_ : (r = 1 ∧ P1 0 8 ≤ 0 ∧ a1 = 0) ∨ (r = 0 ∧ 0 < P1 0 8)) (_ : r = 0 ∨ P 0 3 = 0 ∨ P 0 4 + 1 ≤ P1 0 4) (_ : (0 < P 0 8 ∧ P1 0 8 = P 0 8 ∧ P1 0 9 = P 0 9 ∧ r = 0) ∨ (P 0 8 ≤ 0 ∧ a1 = 1 ∧ P1 0 8 = 6 ∧ P1 0 9 = tA T p ∧ r = 0) ∨ (P 0 8 ≤ 0 ∧ a1 = 0 ∧ P1 0 8 = 0 ∧ r = 1)) (_ : CP (P1 0 8) (MS T (tE T p)) P1), Q (some (vI r)) P1) : Ct WSM G 3 iX12_isCounted [vR 0, vI a1] P Q := by
  refine Ct.of (by decide) (l0 := [(0, vR 0), (1, vI a1)]) rfl (Nat.le_of_ble_eq_true rfl) ?_
  have hat := z1.at.1
  have htk := z1.tok (by omega)
  refine g_aload_n dX12_isCounted_0 rfl ?_
  refine m_g8 (z := (P 0 8)) rfl dX12_isCounted_1 rfl ?_
  have f1 := b0_8 hB
  refine g_if_ne (tgt := 21) dX12_isCounted_4 (by decide) ⟨by have q0 := b0_8 hB; omega, by have q0 := b0_8 hB; omega⟩ (fun k2 => ?_) (fun k2 => ?_)
  · refine g_aload_n dX12_isCounted_21 rfl ?_
    refine m_g8 (z := (P 0 8)) rfl dX12_isCounted_22 rfl ?_
    refine g_if_ne (tgt := 32) dX12_isCounted_25 (by decide) ⟨by have q0 := b0_8 hB; omega, by have q0 := b0_8 hB; omega⟩ (fun k3 => ?_) (fun k3 => by exfalso; have q0 := b0_8 hB; omega)
    refine g_aload_n dX12_isCounted_32 rfl ?_
    refine m_g8 (z := (P 0 8)) rfl dX12_isCounted_33 rfl ?_
    refine g_if_ne (tgt := 43) dX12_isCounted_36 (by decide) ⟨by have q0 := b0_8 hB; omega, by have q0 := b0_8 hB; omega⟩ (fun k4 => ?_) (fun k4 => by exfalso; have q0 := b0_8 hB; omega)
    refine g_iconst dX12_isCounted_43 ?_
    exact g_retZ dX12_isCounted_44 rfl (by decide) (hQ 0 (by decide) _ hB FrM.rf (by have q0 := b0_3 hB; have q1 := b0_4 hB; have q2 := b0_5 hB; omega) (by have q0 := b0_4 hB; omega) (by have q0 := b0_8 hB; omega) (by have q0 := b0_8 hB; omega) (by have q0 := b0_3 hB; have q1 := b0_4 hB; omega) (by have q0 := b0_8 hB; have q1 := b0_9 hB; omega) ((fun h0 => by first | exact (by first | (rw [show (tE T p) = p by omega]; exact z1)) | (exfalso; omega))))
  · refine g_iload_n dX12_isCounted_7 rfl ?_
    refine g_if_eq (tgt := 21) dX12_isCounted_8 (by decide) ⟨by omega, by omega⟩ (fun k5 => ?_) (fun k5 => ?_)
    · refine g_aload_n dX12_isCounted_21 rfl ?_
      refine m_g8 (z := (P 0 8)) rfl dX12_isCounted_22 rfl ?_
      refine g_if_ne (tgt := 32) dX12_isCounted_25 (by decide) ⟨by have q0 := b0_8 hB; omega, by have q0 := b0_8 hB; omega⟩ (fun k6 => by exfalso; have q0 := b0_8 hB; omega) (fun k6 => ?_)
      refine g_aload_n dX12_isCounted_28 rfl ?_
      refine g_vV (av := []) (o := 0) (st := []) (f_X12_ahead G P (T) (tE T p)  hB (by have q := (rfl : P 0 5 = (P 0 5)); have q2 := z1.tok (by omega); have q3 := tE_b (T := T) (p := p) (by omega); have q4 := z1.at; omega) (z0) _ (fun Pc7 hBc7 hFc7 gc7_lx gc7_nx ec7_0 => ⟨rfl, ?_⟩)) cf_X12_ahead t_1683 rfl (by decide) rfl rfl rfl (Nat.le_of_ble_eq_true rfl) (by decide) rfl dX12_isCounted_29
      refine g_aload_n dX12_isCounted_32 rfl ?_
      refine m_g8 (z := (P 0 8)) rfl dX12_isCounted_33 ((hFc7.1 8 rfl).trans rfl) ?_
      refine g_if_ne (tgt := 43) dX12_isCounted_36 (by decide) ⟨by have q0 := b0_8 hB; omega, by have q0 := b0_8 hB; omega⟩ (fun k8 => by exfalso; have q0 := b0_8 hB; omega) (fun k8 => ?_)
      refine g_iconst dX12_isCounted_39 ?_
      refine g_goto (tgt := 44) dX12_isCounted_40 (by decide) ?_
      exact g_retZ dX12_isCounted_44 rfl (by decide) (hQ 1 (by decide) _ hBc7 (FrM.c FrM.rf hFc7 rfl) (by have q0 := b0_3 hBc7; have q1 := b0_4 hBc7; have q2 := b0_5 hBc7; omega) (by have q0 := b0_4 hBc7; omega) (by have q0 := (((hFc7.1 8 rfl).trans rfl) : Pc7 0 8 = (P 0 8)); have q1 := b0_8 hB; omega) (by have q0 := (((hFc7.1 8 rfl).trans rfl) : Pc7 0 8 = (P 0 8)); have q1 := b0_8 hB; omega) (by have q0 := b0_3 hBc7; have q1 := b0_4 hBc7; omega) (by have q0 := (((hFc7.1 8 rfl).trans rfl) : Pc7 0 8 = (P 0 8)); have q1 := b0_8 hB; have q2 := (((hFc7.1 9 rfl).trans rfl) : Pc7 0 9 = (P 0 9)); have q3 := b0_9 hB; omega) ((fun h0 => by first | exact ec7_0 | (exfalso; omega))))
    · refine g_aload_n dX12_isCounted_11 rfl ?_
      refine g_bipush dX12_isCounted_12 (by decide) ?_
      refine g_aload_n dX12_isCounted_14 rfl ?_
      refine m_g4 (z := (P 0 4)) rfl dX12_isCounted_15 rfl ?_
      have f9 := b0_4 hB
      refine g_vV (av := [vI 6, vI (P 0 4)]) (o := 0) (st := []) (f_X12_blame G P 6 (P 0 4) (by decide) ⟨by have q0 := b0_4 hB; omega, by have q0 := b0_4 hB; omega⟩ hB  _ (fun Pc10 hBc10 hFc10 gc10_f gc10_pe gc10_b => ⟨rfl, ?_⟩)) cf_X12_blame t_1701 rfl (by decide) rfl rfl rfl (Nat.le_of_ble_eq_true rfl) (by decide) rfl dX12_isCounted_18
      refine g_aload_n dX12_isCounted_21 rfl ?_
      refine m_g8 (z := (Pc10 0 8)) rfl dX12_isCounted_22 rfl ?_
      have f11 := b0_8 hBc10
      refine g_if_ne (tgt := 32) dX12_isCounted_25 (by decide) ⟨by have q0 := b0_8 hBc10; omega, by have q0 := b0_8 hBc10; omega⟩ (fun k12 => ?_) (fun k12 => by exfalso; have q0 := b0_8 hBc10; omega)
      refine g_aload_n dX12_isCounted_32 rfl ?_
      refine m_g8 (z := (Pc10 0 8)) rfl dX12_isCounted_33 rfl ?_
      refine g_if_ne (tgt := 43) dX12_isCounted_36 (by decide) ⟨by have q0 := b0_8 hBc10; omega, by have q0 := b0_8 hBc10; omega⟩ (fun k13 => ?_) (fun k13 => by exfalso; have q0 := b0_8 hBc10; omega)
      refine g_iconst dX12_isCounted_43 ?_
      exact g_retZ dX12_isCounted_44 rfl (by decide) (hQ 0 (by decide) _ hBc10 (FrM.c FrM.rf hFc10 rfl) (by have q0 := (((hFc10.1 3 rfl).trans rfl) : Pc10 0 3 = (P 0 3)); have q1 := b0_3 hB; have q2 := (((hFc10.1 4 rfl).trans rfl) : Pc10 0 4 = (P 0 4)); have q3 := b0_4 hB; have q4 := (((hFc10.1 5 rfl).trans rfl) : Pc10 0 5 = (P 0 5)); have q5 := b0_5 hB; omega) (by have q0 := (((hFc10.1 4 rfl).trans rfl) : Pc10 0 4 = (P 0 4)); have q1 := b0_4 hB; omega) (by have q0 := b0_8 hBc10; omega) (by have q0 := b0_8 hBc10; omega) (by have q0 := (((hFc10.1 3 rfl).trans rfl) : Pc10 0 3 = (P 0 3)); have q1 := b0_3 hB; have q2 := (((hFc10.1 4 rfl).trans rfl) : Pc10 0 4 = (P 0 4)); have q3 := b0_4 hB; omega) (by have q0 := b0_8 hBc10; have q1 := b0_9 hBc10; omega) ((fun h0 => by first | exact (by first | (rw [show (tE T p) = p by omega]; exact (MS.fr (F := ([8, 9], [])) z1 (FrM.c FrM.rf hFc10 rfl) rfl))) | (exfalso; omega))))
