/-! What the reference answers: X12_number. -/
set_option maxRecDepth 100000 in
set_option maxHeartbeats 4000000 in
theorem f_X12_number (G : GT) (P : PH) (T : TT) (p : Int) (a1 : Int) (a2 : Int) (h_a1 : (-2147483648) ≤ a1 ∧ a1 ≤ 2147483647) (h_a2 : (-2147483648) ≤ a2 ∧ a2 ≤ 2147483647) (hB : BdM P) (p_lx : (P 0 3 = 0 ∨ P 0 4 + 1 ≤ P 0 5) ∧ P 0 4 ≤ P 0 5) (p_fk : P 0 8 ≤ 0) (z0 : MT T P) (z1 : MS T p P) (Q : Option PV → PH → Prop) (hQ : ∀ (r : Int) (_ : (-2147483648) ≤ r ∧ r ≤ 2147483647) (P1 : PH) (_ : BdM P1) (_ : FrM ([3, 4, 5, 6, 7, 8, 9, 12], []) P P1) (_ : (P1 0 3 = 0 ∨ P1 0 4 + 1 ≤ P1 0 5) ∧ P1 0 4 ≤ P1 0 5) (_ : P 0 4 ≤ P1 0 4) (_ : P 0 8 ≤ 0 ∨ 0 < P1 0 8) (_ : 0 < P1 0 8 ∨ (a1 ≤ r ∧ r ≤ a2 ∧ P 0 4 + 1 ≤ P1 0 4)) (_ : P1 0 8 = (num T a1 a2 p).1 ∧ ((num T a1 a2 p).1 = 0 ∨ P1 0 9 = (num T a1 a2 p).2)) (_ : (num T a1 a2 p).1 ≠ 0 ∨ r = tV T p) (_ : CP (num T a1 a2 p).1 (MS T (num T a1 a2 p).2) P1), Q (some (vI r)) P1) : Ct WSM G 3 iX12_number [vR 0, vI a1, vI a2] P Q := by
  refine Ct.of (by decide) (l0 := [(0, vR 0), (1, vI a1), (2, vI a2)]) rfl (Nat.le_of_ble_eq_true rfl) ?_
  have hsg := num_s T a1 a2 p
  have hfh := fh_s T p
  have hat := z1.at.1
  refine g_aload_n dX12_number_0 rfl ?_
  refine g_vV (av := []) (o := 0) (st := []) (f_X12_lex G P (T) (p)  hB ((fun h0 => by first | exact z1 | (exfalso; omega))) _ (fun Pc1 hBc1 hFc1 gc1_pe gc1_l => ⟨rfl, ?_⟩)) cf_X12_lex t_1697 rfl (by decide) rfl rfl rfl (Nat.le_of_ble_eq_true rfl) (by decide) rfl dX12_number_1
  have hlx := gc1_l
  clear gc1_l
  refine g_aload_n dX12_number_4 rfl ?_
  refine m_g8 (z := (Pc1 0 8)) rfl dX12_number_5 rfl ?_
  have f2 := b0_8 hBc1
  refine g_if_le (tgt := 13) dX12_number_8 (by decide) ⟨by have q0 := b0_8 hBc1; omega, by have q0 := b0_8 hBc1; omega⟩ (fun k3 => ?_) (fun k3 => ?_)
  · have hk4 : tK T (p) ≠ 4 := by omega
    have hl8 : Pc1 0 8 = P 0 8 ∧ Pc1 0 9 = P 0 9 := by omega
    clear hlx
    have htk := z1.tok hk4
    have hv : tK T p = 2 → P 0 6 = tV T p := fun h => z1.val (Or.inl h)
    refine g_aload_n dX12_number_13 rfl ?_
    refine m_g3 (z := (P 0 3)) rfl dX12_number_14 ((hFc1.1 3 rfl).trans rfl) ?_
    refine g_iconst dX12_number_17 ?_
    have f4 := b0_3 hB
    refine g_icmp_eq (tgt := 30) dX12_number_18 (by decide) ⟨by have q0 := b0_3 hB; omega, by have q0 := b0_3 hB; omega⟩ (by decide) (fun k5 => ?_) (fun k5 => ?_)
    · refine g_aload_n dX12_number_30 rfl ?_
      refine m_g8 (z := (Pc1 0 8)) rfl dX12_number_31 rfl ?_
      refine g_if_ne (tgt := 58) dX12_number_34 (by decide) ⟨by have q0 := b0_8 hBc1; omega, by have q0 := b0_8 hBc1; omega⟩ (fun k6 => by exfalso; have q0 := b0_8 hBc1; omega) (fun k6 => ?_)
      refine g_aload_n dX12_number_37 rfl ?_
      refine m_g6 (z := (P 0 6)) rfl dX12_number_38 ((hFc1.1 6 rfl).trans rfl) ?_
      refine g_iload_n dX12_number_41 rfl ?_
      refine g_iload_n dX12_number_42 rfl ?_
      have f7 := b0_6 hB
      refine g_sI (av := [vI (P 0 6), vI a1, vI a2]) (st := []) (m_X12_is G Pc1 (P 0 6) a1 a2 ⟨by have q0 := b0_6 hB; omega, by have q0 := b0_6 hB; omega⟩ ⟨by omega, by omega⟩ ⟨by omega, by omega⟩ hBc1  _ (fun rc8 hc8 gc8_is => ⟨rc8, rfl, ?_⟩)) cf_X12_is t_1800 rfl (Nat.le_of_ble_eq_true rfl) (by decide) rfl dX12_number_43
      refine g_if_ne (tgt := 58) dX12_number_46 (by decide) ⟨by omega, by omega⟩ (fun k9 => ?_) (fun k9 => ?_)
      · refine g_aload_n dX12_number_58 rfl ?_
        refine m_g6 (z := (P 0 6)) rfl dX12_number_59 ((hFc1.1 6 rfl).trans rfl) ?_
        refine g_istore_n (l1 := [(3, vI (P 0 6)), (0, vR 0), (1, vI a1), (2, vI a2)]) dX12_number_62 (by decide) rfl ?_
        refine g_aload_n dX12_number_63 rfl ?_
        refine m_g8 (z := (Pc1 0 8)) rfl dX12_number_64 rfl ?_
        refine g_if_ne (tgt := 74) dX12_number_67 (by decide) ⟨by have q0 := b0_8 hBc1; omega, by have q0 := b0_8 hBc1; omega⟩ (fun k10 => by exfalso; have q0 := b0_8 hBc1; omega) (fun k10 => ?_)
        refine g_aload_n dX12_number_70 rfl ?_
        refine g_vV (av := []) (o := 0) (st := []) (f_X12_ahead G Pc1 (T) (tE T p)  hBc1 (by have q := (((hFc1.1 5 rfl).trans rfl) : Pc1 0 5 = (P 0 5)); have q2 := z1.tok (by omega); have q3 := tE_b (T := T) (p := p) (by omega); have q4 := z1.at; omega) ((MT.fr (F := ([8, 9], [])) z0 (FrM.c FrM.rf hFc1 rfl) rfl)) _ (fun Pc11 hBc11 hFc11 gc11_lx gc11_nx ec11_0 => ⟨rfl, ?_⟩)) cf_X12_ahead t_1683 rfl (by decide) rfl rfl rfl (Nat.le_of_ble_eq_true rfl) (by decide) rfl dX12_number_71
        have z12 : Pc1 0 5 = (P 0 5) := ((hFc1.1 5 rfl).trans rfl)
        refine g_iload_n dX12_number_74 rfl ?_
        exact g_retI dX12_number_75 rfl (hQ (P 0 6) ⟨by have q0 := b0_6 hB; omega, by have q0 := b0_6 hB; omega⟩ _ hBc11 (FrM.c (FrM.c FrM.rf hFc1 rfl) hFc11 rfl) (by have q0 := b0_6 hB; have q1 := b0_3 hBc11; have q2 := b0_4 hBc11; have q3 := b0_5 hBc11; omega) (by have q0 := b0_6 hB; have q1 := b0_4 hBc11; omega) (by have q0 := b0_6 hB; have q1 := (((hFc11.1 8 rfl).trans rfl) : Pc11 0 8 = (Pc1 0 8)); have q2 := b0_8 hBc1; omega) (by have q0 := b0_6 hB; have q1 := (((hFc11.1 8 rfl).trans rfl) : Pc11 0 8 = (Pc1 0 8)); have q2 := b0_8 hBc1; have q3 := b0_4 hBc11; omega) (by have q0 := b0_6 hB; have q1 := (((hFc11.1 8 rfl).trans rfl) : Pc11 0 8 = (Pc1 0 8)); have q2 := b0_8 hBc1; have q3 := (((hFc11.1 9 rfl).trans rfl) : Pc11 0 9 = (Pc1 0 9)); have q4 := b0_9 hBc1; omega) (by have q0 := b0_6 hB; omega) ((fun h0 => by first | exact (by first | (rw [show (num T a1 a2 p).2 = (tE T p) by omega]; exact ec11_0)) | (exfalso; omega))))
      · refine g_aload_n dX12_number_49 rfl ?_
        refine g_iconst dX12_number_50 ?_
        refine g_aload_n dX12_number_51 rfl ?_
        refine m_g4 (z := (P 0 4)) rfl dX12_number_52 ((hFc1.1 4 rfl).trans rfl) ?_
        have f13 := b0_4 hB
        refine g_vV (av := [vI 4, vI (P 0 4)]) (o := 0) (st := []) (f_X12_blame G Pc1 4 (P 0 4) (by decide) ⟨by have q0 := b0_4 hB; omega, by have q0 := b0_4 hB; omega⟩ hBc1  _ (fun Pc14 hBc14 hFc14 gc14_f gc14_pe gc14_b => ⟨rfl, ?_⟩)) cf_X12_blame t_1701 rfl (by decide) rfl rfl rfl (Nat.le_of_ble_eq_true rfl) (by decide) rfl dX12_number_55
        refine g_aload_n dX12_number_58 rfl ?_
        refine m_g6 (z := (P 0 6)) rfl dX12_number_59 ((hFc14.1 6 rfl).trans ((hFc1.1 6 rfl).trans rfl)) ?_
        refine g_istore_n (l1 := [(3, vI (P 0 6)), (0, vR 0), (1, vI a1), (2, vI a2)]) dX12_number_62 (by decide) rfl ?_
        refine g_aload_n dX12_number_63 rfl ?_
        refine m_g8 (z := (Pc14 0 8)) rfl dX12_number_64 rfl ?_
        have f15 := b0_8 hBc14
        refine g_if_ne (tgt := 74) dX12_number_67 (by decide) ⟨by have q0 := b0_8 hBc14; omega, by have q0 := b0_8 hBc14; omega⟩ (fun k16 => ?_) (fun k16 => by exfalso; have q0 := b0_8 hBc14; omega)
        refine g_iload_n dX12_number_74 rfl ?_
        exact g_retI dX12_number_75 rfl (hQ (P 0 6) ⟨by have q0 := b0_6 hB; omega, by have q0 := b0_6 hB; omega⟩ _ hBc14 (FrM.c (FrM.c FrM.rf hFc1 rfl) hFc14 rfl) (by have q0 := b0_6 hB; have q1 := (((hFc14.1 3 rfl).trans ((hFc1.1 3 rfl).trans rfl)) : Pc14 0 3 = (P 0 3)); have q2 := b0_3 hB; have q3 := (((hFc14.1 4 rfl).trans ((hFc1.1 4 rfl).trans rfl)) : Pc14 0 4 = (P 0 4)); have q4 := b0_4 hB; have q5 := (((hFc14.1 5 rfl).trans ((hFc1.1 5 rfl).trans rfl)) : Pc14 0 5 = (P 0 5)); have q6 := b0_5 hB; omega) (by have q0 := b0_6 hB; have q1 := (((hFc14.1 4 rfl).trans ((hFc1.1 4 rfl).trans rfl)) : Pc14 0 4 = (P 0 4)); have q2 := b0_4 hB; omega) (by have q0 := b0_6 hB; have q1 := b0_8 hBc14; omega) (by have q0 := b0_6 hB; have q1 := b0_8 hBc14; have q2 := (((hFc14.1 4 rfl).trans ((hFc1.1 4 rfl).trans rfl)) : Pc14 0 4 = (P 0 4)); have q3 := b0_4 hB; omega) (by have q0 := b0_6 hB; have q1 := b0_8 hBc14; have q2 := b0_9 hBc14; omega) (by have q0 := b0_6 hB; omega) ((fun h0 => by first | exact (by first | (rw [show (num T a1 a2 p).2 = p by omega]; exact (MS.fr (F := ([8, 9], [])) z1 (FrM.c (FrM.c FrM.rf hFc1 rfl) hFc14 rfl) rfl))) | (exfalso; omega))))
    · refine g_aload_n dX12_number_21 rfl ?_
      refine g_iconst dX12_number_22 ?_
      refine g_aload_n dX12_number_23 rfl ?_
      refine m_g4 (z := (P 0 4)) rfl dX12_number_24 ((hFc1.1 4 rfl).trans rfl) ?_
      have f17 := b0_4 hB
      refine g_vV (av := [vI 1, vI (P 0 4)]) (o := 0) (st := []) (f_X12_blame G Pc1 1 (P 0 4) (by decide) ⟨by have q0 := b0_4 hB; omega, by have q0 := b0_4 hB; omega⟩ hBc1  _ (fun Pc18 hBc18 hFc18 gc18_f gc18_pe gc18_b => ⟨rfl, ?_⟩)) cf_X12_blame t_1701 rfl (by decide) rfl rfl rfl (Nat.le_of_ble_eq_true rfl) (by decide) rfl dX12_number_27
      refine g_aload_n dX12_number_30 rfl ?_
      refine m_g8 (z := (Pc18 0 8)) rfl dX12_number_31 rfl ?_
      have f19 := b0_8 hBc18
      refine g_if_ne (tgt := 58) dX12_number_34 (by decide) ⟨by have q0 := b0_8 hBc18; omega, by have q0 := b0_8 hBc18; omega⟩ (fun k20 => ?_) (fun k20 => by exfalso; have q0 := b0_8 hBc18; omega)
      refine g_aload_n dX12_number_58 rfl ?_
      refine m_g6 (z := (P 0 6)) rfl dX12_number_59 ((hFc18.1 6 rfl).trans ((hFc1.1 6 rfl).trans rfl)) ?_
      refine g_istore_n (l1 := [(3, vI (P 0 6)), (0, vR 0), (1, vI a1), (2, vI a2)]) dX12_number_62 (by decide) rfl ?_
      refine g_aload_n dX12_number_63 rfl ?_
      refine m_g8 (z := (Pc18 0 8)) rfl dX12_number_64 rfl ?_
      refine g_if_ne (tgt := 74) dX12_number_67 (by decide) ⟨by have q0 := b0_8 hBc18; omega, by have q0 := b0_8 hBc18; omega⟩ (fun k21 => ?_) (fun k21 => by exfalso; have q0 := b0_8 hBc18; omega)
      refine g_iload_n dX12_number_74 rfl ?_
      exact g_retI dX12_number_75 rfl (hQ (P 0 6) ⟨by have q0 := b0_6 hB; omega, by have q0 := b0_6 hB; omega⟩ _ hBc18 (FrM.c (FrM.c FrM.rf hFc1 rfl) hFc18 rfl) (by have q0 := b0_6 hB; have q1 := (((hFc18.1 3 rfl).trans ((hFc1.1 3 rfl).trans rfl)) : Pc18 0 3 = (P 0 3)); have q2 := b0_3 hB; have q3 := (((hFc18.1 4 rfl).trans ((hFc1.1 4 rfl).trans rfl)) : Pc18 0 4 = (P 0 4)); have q4 := b0_4 hB; have q5 := (((hFc18.1 5 rfl).trans ((hFc1.1 5 rfl).trans rfl)) : Pc18 0 5 = (P 0 5)); have q6 := b0_5 hB; omega) (by have q0 := b0_6 hB; have q1 := (((hFc18.1 4 rfl).trans ((hFc1.1 4 rfl).trans rfl)) : Pc18 0 4 = (P 0 4)); have q2 := b0_4 hB; omega) (by have q0 := b0_6 hB; have q1 := b0_8 hBc18; omega) (by have q0 := b0_6 hB; have q1 := b0_8 hBc18; have q2 := (((hFc18.1 4 rfl).trans ((hFc1.1 4 rfl).trans rfl)) : Pc18 0 4 = (P 0 4)); have q3 := b0_4 hB; omega) (by have q0 := b0_6 hB; have q1 := b0_8 hBc18; have q2 := b0_9 hBc18; omega) (by have q0 := b0_6 hB; omega) ((fun h0 => by first | exact (by first | (rw [show (num T a1 a2 p).2 = p by omega]; exact (MS.fr (F := ([8, 9], [])) z1 (FrM.c (FrM.c FrM.rf hFc1 rfl) hFc18 rfl) rfl))) | (exfalso; omega))))
  · refine g_iconst dX12_number_11 ?_
    exact g_retI dX12_number_12 rfl (hQ 0 (by decide) _ hBc1 (FrM.c FrM.rf hFc1 rfl) (by have q0 := (((hFc1.1 3 rfl).trans rfl) : Pc1 0 3 = (P 0 3)); have q1 := b0_3 hB; have q2 := (((hFc1.1 4 rfl).trans rfl) : Pc1 0 4 = (P 0 4)); have q3 := b0_4 hB; have q4 := (((hFc1.1 5 rfl).trans rfl) : Pc1 0 5 = (P 0 5)); have q5 := b0_5 hB; omega) (by have q0 := (((hFc1.1 4 rfl).trans rfl) : Pc1 0 4 = (P 0 4)); have q1 := b0_4 hB; omega) (by have q0 := b0_8 hBc1; omega) (by have q0 := b0_8 hBc1; have q1 := (((hFc1.1 4 rfl).trans rfl) : Pc1 0 4 = (P 0 4)); have q2 := b0_4 hB; omega) (by have q0 := b0_8 hBc1; have q1 := b0_9 hBc1; omega) (by omega) ((fun h0 => by first | exact (by first | (rw [show (num T a1 a2 p).2 = p by omega]; exact (MS.fr (F := ([8, 9], [])) z1 (FrM.c FrM.rf hFc1 rfl) rfl))) | (exfalso; omega))))
