/-! Contracts of the reference: ma. -/
set_option maxRecDepth 100000 in
set_option maxHeartbeats 4000000 in
theorem m_X12_range (G : GT) (P : PH) (f : Int) (hB : BdM P) (p_lx : (P 0 3 = 0 ∨ P 0 4 + 1 ≤ P 0 5) ∧ P 0 4 ≤ P 0 5) (p_po : pot P ≤ 8 * P 0 4) (p_sx : SX f 0 P) (Q : Option PV → PH → Prop) (hQ : ∀ (P1 : PH) (_ : BdM P1) (_ : FrM ([3, 4, 5, 6, 7, 8, 9, 12, 36], [19, 20, 21]) P P1) (_ : (P1 0 3 = 0 ∨ P1 0 4 + 1 ≤ P1 0 5) ∧ P1 0 4 ≤ P1 0 5) (_ : P 0 4 ≤ P1 0 4) (_ : P 0 8 ≤ 0 ∨ 0 < P1 0 8) (_ : LO P P1) (_ : 0 < P1 0 8 ∨ (SX f 1 P1 ∧ pot P1 + 3 ≤ 8 * P1 0 4)) (_ : 0 < P1 0 8 ∨ P 0 4 + 1 ≤ P1 0 4), Q none P1) : Ct WSM G 4 iX12_range [vR 0] P Q := by
  refine Ct.of (by decide) (l0 := [(0, vR 0)]) rfl (Nat.le_of_ble_eq_true rfl) ?_
  have ivI_SX0 : SX f 0 P := p_sx
  have ivI_LO : LO P P := LO.rf
  refine g_aload_n dX12_range_0 rfl ?_
  refine g_iconst dX12_range_1 ?_
  refine g_bipush dX12_range_2 (by decide) ?_
  refine g_vI (av := [vI 0, vI 19]) (o := 0) (st := []) (m_X12_number G P 0 19 (by decide) (by decide) hB (by have q0 := b0_3 hB; have q1 := b0_4 hB; have q2 := b0_5 hB; omega) _ (fun rc1 hc1 Pc1 hBc1 hFc1 gc1_lx gc1_mo gc1_pe gc1_ad => ⟨rc1, rfl, ?_⟩)) cf_X12_number t_1796 rfl (by decide) rfl rfl rfl (Nat.le_of_ble_eq_true rfl) (by decide) rfl dX12_range_4
  refine g_istore_n (l1 := [(1, vI rc1), (0, vR 0)]) dX12_range_7 (by decide) rfl ?_
  refine g_aload_n dX12_range_8 rfl ?_
  refine m_g8 (z := (Pc1 0 8)) rfl dX12_range_9 rfl ?_
  have f2 := b0_8 hBc1
  refine g_if_le (tgt := 16) dX12_range_12 (by decide) ⟨by have q0 := b0_8 hBc1; omega, by have q0 := b0_8 hBc1; omega⟩ (fun k3 => ?_) (fun k3 => ?_)
  · refine g_aload_n dX12_range_16 rfl ?_
    refine g_vV (av := []) (o := 0) (st := []) (m_X12_lex G Pc1  hBc1  _ (fun Pc4 hBc4 hFc4 gc4_pe => ⟨rfl, ?_⟩)) cf_X12_lex t_1697 rfl (by decide) rfl rfl rfl (Nat.le_of_ble_eq_true rfl) (by decide) rfl dX12_range_17
    refine g_iload_n dX12_range_20 rfl ?_
    refine g_istore_n (l1 := [(2, vI rc1), (1, vI rc1), (0, vR 0)]) dX12_range_21 (by decide) rfl ?_
    refine g_aload_n dX12_range_22 rfl ?_
    refine m_g8 (z := (Pc4 0 8)) rfl dX12_range_23 rfl ?_
    have f5 := b0_8 hBc4
    refine g_if_ne (tgt := 51) dX12_range_26 (by decide) ⟨by have q0 := b0_8 hBc4; omega, by have q0 := b0_8 hBc4; omega⟩ (fun k6 => ?_) (fun k6 => ?_)
    · refine g_aload_n dX12_range_51 rfl ?_
      refine m_g8 (z := (Pc4 0 8)) rfl dX12_range_52 rfl ?_
      refine g_if_ne (tgt := 65) dX12_range_55 (by decide) ⟨by have q0 := b0_8 hBc4; omega, by have q0 := b0_8 hBc4; omega⟩ (fun k7 => ?_) (fun k7 => by exfalso; have q0 := b0_8 hBc4; omega)
      exact g_retV dX12_range_65 rfl (hQ _ hBc4 (FrM.c (FrM.c FrM.rf hFc1 rfl) hFc4 rfl) (by have q0 := (((hFc4.1 3 rfl).trans rfl) : Pc4 0 3 = (Pc1 0 3)); have q1 := b0_3 hBc1; have q2 := (((hFc4.1 4 rfl).trans rfl) : Pc4 0 4 = (Pc1 0 4)); have q3 := b0_4 hBc1; have q4 := (((hFc4.1 5 rfl).trans rfl) : Pc4 0 5 = (Pc1 0 5)); have q5 := b0_5 hBc1; omega) (by have q0 := (((hFc4.1 4 rfl).trans rfl) : Pc4 0 4 = (Pc1 0 4)); have q1 := b0_4 hBc1; omega) (by have q0 := b0_8 hBc4; omega) ((LO.fr (F := ([3, 4, 5, 6, 7, 8, 9, 12], [])) ivI_LO (FrM.c (FrM.c FrM.rf hFc1 rfl) hFc4 rfl) rfl)) (by first | (left; omega) | (right; exact ⟨hNONE, by have q4 := (((hFc4.1 4 rfl).trans rfl) : Pc4 0 4 = (Pc1 0 4)); have qp := (pot_fr (F := ([3, 4, 5, 6, 7, 8, 9, 12], [])) (FrM.c (FrM.c FrM.rf hFc1 rfl) hFc4 rfl) rfl : pot Pc4 = pot P); omega⟩)) (by have q0 := b0_8 hBc4; have q1 := (((hFc4.1 4 rfl).trans rfl) : Pc4 0 4 = (Pc1 0 4)); have q2 := b0_4 hBc1; omega))
    · refine g_aload_n dX12_range_29 rfl ?_
      refine g_ldc2 (z := 29807) dX12_range_30 t_1735 (by decide) ?_
      refine g_vI (av := [vL 29807]) (o := 0) (st := []) (m_X12_isWord G Pc4 29807 (by decide) hBc4  _ (fun rc8 hc8 gc8_w => ⟨rc8, rfl, ?_⟩)) cf_X12_isWord t_1706 rfl (by decide) rfl rfl rfl (Nat.le_of_ble_eq_true rfl) (by decide) rfl dX12_range_33
      have z9 : Pc4 0 3 = (Pc1 0 3) := ((hFc4.1 3 rfl).trans rfl)
      have z10 : Pc4 0 7 = (Pc1 0 7) := ((hFc4.1 7 rfl).trans rfl)
      refine g_if_eq (tgt := 51) dX12_range_36 (by decide) ⟨by omega, by omega⟩ (fun k11 => ?_) (fun k11 => ?_)
      · refine g_aload_n dX12_range_51 rfl ?_
        refine m_g8 (z := (Pc4 0 8)) rfl dX12_range_52 rfl ?_
        refine g_if_ne (tgt := 65) dX12_range_55 (by decide) ⟨by have q0 := b0_8 hBc4; omega, by have q0 := b0_8 hBc4; omega⟩ (fun k12 => by exfalso; have q0 := b0_8 hBc4; omega) (fun k12 => ?_)
        refine g_aload_n dX12_range_58 rfl ?_
        refine g_iconst dX12_range_59 ?_
        refine g_iload_n dX12_range_60 rfl ?_
        refine g_iload_n dX12_range_61 rfl ?_
        have hq4 := b0_4 hB
        have hsx := (SX.fr (F := ([3, 4, 5, 6, 7, 8, 9, 12], [])) ivI_SX0 (FrM.c (FrM.c FrM.rf hFc1 rfl) hFc4 rfl) rfl)
        have hlo := (LO.fr (F := ([3, 4, 5, 6, 7, 8, 9, 12], [])) ivI_LO (FrM.c (FrM.c FrM.rf hFc1 rfl) hFc4 rfl) rfl)
        have hb9 := hBc4
        have hq1 := pot_c Pc4
        have hq2 := (pot_fr (F := ([3, 4, 5, 6, 7, 8, 9, 12], [])) (FrM.c (FrM.c FrM.rf hFc1 rfl) hFc4 rfl) rfl : pot Pc4 = pot P)
        have hq3 := b0_4 hBc4
        refine g_vV (av := [vI 1, vI rc1, vI rc1]) (o := 0) (st := []) (m_X12_emits G Pc4 1 rc1 rc1 (by decide) ⟨by omega, by omega⟩ ⟨by omega, by omega⟩ hBc4 (by have q0 := (((hFc4.1 36 rfl).trans ((hFc1.1 36 rfl).trans rfl)) : Pc4 0 36 = (P 0 36)); have q1 := b0_36 hB; omega) _ (fun Pc13 hBc13 hFc13 gc13_o gc13_e => ⟨rfl, ?_⟩)) cf_X12_emits t_1788 rfl (by decide) rfl rfl rfl (Nat.le_of_ble_eq_true rfl) (by decide) rfl dX12_range_62
        have z14 : Pc4 0 36 = (P 0 36) := ((hFc4.1 36 rfl).trans ((hFc1.1 36 rfl).trans rfl))
        have hpe := pot_em gc13_e hFc13
        have iv15 : SX f 1 Pc13 := hsx.leaf hb9 gc13_e hFc13 ⟨by omega, by omega⟩
        have iv16 : LO P Pc13 := hlo.trans (gc13_e.lo hFc13 rfl (by omega))
        exact g_retV dX12_range_65 rfl (hQ _ hBc13 (FrM.c (FrM.c (FrM.c FrM.rf hFc1 rfl) hFc4 rfl) hFc13 rfl) (by have q0 := (((hFc13.1 3 rfl).trans ((hFc4.1 3 rfl).trans rfl)) : Pc13 0 3 = (Pc1 0 3)); have q1 := b0_3 hBc1; have q2 := (((hFc13.1 4 rfl).trans ((hFc4.1 4 rfl).trans rfl)) : Pc13 0 4 = (Pc1 0 4)); have q3 := b0_4 hBc1; have q4 := (((hFc13.1 5 rfl).trans ((hFc4.1 5 rfl).trans rfl)) : Pc13 0 5 = (Pc1 0 5)); have q5 := b0_5 hBc1; omega) (by have q0 := (((hFc13.1 4 rfl).trans ((hFc4.1 4 rfl).trans rfl)) : Pc13 0 4 = (Pc1 0 4)); have q1 := b0_4 hBc1; omega) (by have q0 := (((hFc13.1 8 rfl).trans rfl) : Pc13 0 8 = (Pc4 0 8)); have q1 := b0_8 hBc4; omega) (iv16) (by first | (left; omega) | (right; exact ⟨iv15, by have q4 := (((hFc13.1 4 rfl).trans ((hFc4.1 4 rfl).trans rfl)) : Pc13 0 4 = (Pc1 0 4)); have qp := trivial; omega⟩)) (by have q0 := (((hFc13.1 8 rfl).trans rfl) : Pc13 0 8 = (Pc4 0 8)); have q1 := b0_8 hBc4; have q2 := (((hFc13.1 4 rfl).trans ((hFc4.1 4 rfl).trans rfl)) : Pc13 0 4 = (Pc1 0 4)); have q3 := b0_4 hBc1; omega))
      · refine g_aload_n dX12_range_39 rfl ?_
        refine g_vV (av := []) (o := 0) (st := []) (m_X12_ahead G Pc4  hBc4  _ (fun Pc17 hBc17 hFc17 gc17_lx gc17_nx => ⟨rfl, ?_⟩)) cf_X12_ahead t_1683 rfl (by decide) rfl rfl rfl (Nat.le_of_ble_eq_true rfl) (by decide) rfl dX12_range_40
        have z18 : Pc4 0 5 = (Pc1 0 5) := ((hFc4.1 5 rfl).trans rfl)
        refine g_aload_n dX12_range_43 rfl ?_
        refine g_iload_n dX12_range_44 rfl ?_
        refine g_bipush dX12_range_45 (by decide) ?_
        refine g_vI (av := [vI rc1, vI 19]) (o := 0) (st := []) (m_X12_number G Pc17 rc1 19 ⟨by omega, by omega⟩ (by decide) hBc17 (by have q0 := b0_3 hBc17; have q1 := b0_4 hBc17; have q2 := b0_5 hBc17; omega) _ (fun rc19 hc19 Pc19 hBc19 hFc19 gc19_lx gc19_mo gc19_pe gc19_ad => ⟨rc19, rfl, ?_⟩)) cf_X12_number t_1796 rfl (by decide) rfl rfl rfl (Nat.le_of_ble_eq_true rfl) (by decide) rfl dX12_range_47
        have z20 : Pc17 0 8 = (Pc4 0 8) := ((hFc17.1 8 rfl).trans rfl)
        refine g_istore_n (l1 := [(2, vI rc19), (1, vI rc1), (0, vR 0)]) dX12_range_50 (by decide) rfl ?_
        refine g_aload_n dX12_range_51 rfl ?_
        refine m_g8 (z := (Pc19 0 8)) rfl dX12_range_52 rfl ?_
        have f21 := b0_8 hBc19
        refine g_if_ne (tgt := 65) dX12_range_55 (by decide) ⟨by have q0 := b0_8 hBc19; omega, by have q0 := b0_8 hBc19; omega⟩ (fun k22 => ?_) (fun k22 => ?_)
        · exact g_retV dX12_range_65 rfl (hQ _ hBc19 (FrM.c (FrM.c (FrM.c (FrM.c FrM.rf hFc1 rfl) hFc4 rfl) hFc17 rfl) hFc19 rfl) (by have q0 := b0_3 hBc19; have q1 := b0_4 hBc19; have q2 := b0_5 hBc19; omega) (by have q0 := b0_4 hBc19; omega) (by have q0 := b0_8 hBc19; omega) ((LO.fr (F := ([3, 4, 5, 6, 7, 8, 9, 12], [])) ivI_LO (FrM.c (FrM.c (FrM.c (FrM.c FrM.rf hFc1 rfl) hFc4 rfl) hFc17 rfl) hFc19 rfl) rfl)) (by first | (left; omega) | (right; exact ⟨hNONE, by have q4 := (rfl : Pc19 0 4 = (Pc19 0 4)); have qp := (pot_fr (F := ([3, 4, 5, 6, 7, 8, 9, 12], [])) (FrM.c (FrM.c (FrM.c (FrM.c FrM.rf hFc1 rfl) hFc4 rfl) hFc17 rfl) hFc19 rfl) rfl : pot Pc19 = pot P); omega⟩)) (by have q0 := b0_8 hBc19; have q1 := b0_4 hBc19; omega))
        · refine g_aload_n dX12_range_58 rfl ?_
          refine g_iconst dX12_range_59 ?_
          refine g_iload_n dX12_range_60 rfl ?_
          refine g_iload_n dX12_range_61 rfl ?_
          have hq4 := b0_4 hB
          have hsx := (SX.fr (F := ([3, 4, 5, 6, 7, 8, 9, 12], [])) ivI_SX0 (FrM.c (FrM.c (FrM.c (FrM.c FrM.rf hFc1 rfl) hFc4 rfl) hFc17 rfl) hFc19 rfl) rfl)
          have hlo := (LO.fr (F := ([3, 4, 5, 6, 7, 8, 9, 12], [])) ivI_LO (FrM.c (FrM.c (FrM.c (FrM.c FrM.rf hFc1 rfl) hFc4 rfl) hFc17 rfl) hFc19 rfl) rfl)
          have hb9 := hBc19
          have hq1 := pot_c Pc19
          have hq2 := (pot_fr (F := ([3, 4, 5, 6, 7, 8, 9, 12], [])) (FrM.c (FrM.c (FrM.c (FrM.c FrM.rf hFc1 rfl) hFc4 rfl) hFc17 rfl) hFc19 rfl) rfl : pot Pc19 = pot P)
          have hq3 := b0_4 hBc19
          refine g_vV (av := [vI 1, vI rc1, vI rc19]) (o := 0) (st := []) (m_X12_emits G Pc19 1 rc1 rc19 (by decide) ⟨by omega, by omega⟩ ⟨by omega, by omega⟩ hBc19 (by have q0 := (((hFc19.1 36 rfl).trans ((hFc17.1 36 rfl).trans ((hFc4.1 36 rfl).trans ((hFc1.1 36 rfl).trans rfl)))) : Pc19 0 36 = (P 0 36)); have q1 := b0_36 hB; omega) _ (fun Pc23 hBc23 hFc23 gc23_o gc23_e => ⟨rfl, ?_⟩)) cf_X12_emits t_1788 rfl (by decide) rfl rfl rfl (Nat.le_of_ble_eq_true rfl) (by decide) rfl dX12_range_62
          have z24 : Pc19 0 36 = (P 0 36) := ((hFc19.1 36 rfl).trans ((hFc17.1 36 rfl).trans ((hFc4.1 36 rfl).trans ((hFc1.1 36 rfl).trans rfl))))
          have hpe := pot_em gc23_e hFc23
          have iv25 : SX f 1 Pc23 := hsx.leaf hb9 gc23_e hFc23 ⟨by omega, by omega⟩
          have iv26 : LO P Pc23 := hlo.trans (gc23_e.lo hFc23 rfl (by omega))
          exact g_retV dX12_range_65 rfl (hQ _ hBc23 (FrM.c (FrM.c (FrM.c (FrM.c (FrM.c FrM.rf hFc1 rfl) hFc4 rfl) hFc17 rfl) hFc19 rfl) hFc23 rfl) (by have q0 := (((hFc23.1 3 rfl).trans rfl) : Pc23 0 3 = (Pc19 0 3)); have q1 := b0_3 hBc19; have q2 := (((hFc23.1 4 rfl).trans rfl) : Pc23 0 4 = (Pc19 0 4)); have q3 := b0_4 hBc19; have q4 := (((hFc23.1 5 rfl).trans rfl) : Pc23 0 5 = (Pc19 0 5)); have q5 := b0_5 hBc19; omega) (by have q0 := (((hFc23.1 4 rfl).trans rfl) : Pc23 0 4 = (Pc19 0 4)); have q1 := b0_4 hBc19; omega) (by have q0 := (((hFc23.1 8 rfl).trans rfl) : Pc23 0 8 = (Pc19 0 8)); have q1 := b0_8 hBc19; omega) (iv26) (by first | (left; omega) | (right; exact ⟨iv25, by have q4 := (((hFc23.1 4 rfl).trans rfl) : Pc23 0 4 = (Pc19 0 4)); have qp := trivial; omega⟩)) (by have q0 := (((hFc23.1 8 rfl).trans rfl) : Pc23 0 8 = (Pc19 0 8)); have q1 := b0_8 hBc19; have q2 := (((hFc23.1 4 rfl).trans rfl) : Pc23 0 4 = (Pc19 0 4)); have q3 := b0_4 hBc19; omega))
  · exact g_retV dX12_range_15 rfl (hQ _ hBc1 (FrM.c FrM.rf hFc1 rfl) (by have q0 := b0_3 hBc1; have q1 := b0_4 hBc1; have q2 := b0_5 hBc1; omega) (by have q0 := b0_4 hBc1; omega) (by have q0 := b0_8 hBc1; omega) ((LO.fr (F := ([3, 4, 5, 6, 7, 8, 9, 12], [])) ivI_LO (FrM.c FrM.rf hFc1 rfl) rfl)) (by first | (left; omega) | (right; exact ⟨hNONE, by have q4 := (rfl : Pc1 0 4 = (Pc1 0 4)); have qp := (pot_fr (F := ([3, 4, 5, 6, 7, 8, 9, 12], [])) (FrM.c FrM.rf hFc1 rfl) rfl : pot Pc1 = pot P); omega⟩)) (by have q0 := b0_8 hBc1; have q1 := b0_4 hBc1; omega))
set_option maxRecDepth 100000 in
set_option maxHeartbeats 4000000 in
theorem m_X12_fieldBegins (G : GT) (P : PH) (f : Int) (a1 : Int) (a2 : Int) (h_a1 : 0 ≤ a1 ∧ a1 ≤ 23) (h_a2 : 0 ≤ a2 ∧ a2 ≤ 1) (hB : BdM P) (p_sx : SX f 1 P) (p_cn : a1 < P 5 (P 0 37)) (p_fl : a2 < P 7 (24 * P 0 37 + a1)) (p_k : P 6 (24 * P 0 37 + a1) + P 0 43 ≤ 4) (p_co : P 0 36 ≤ 2799) (v_CF : CF P) (Q : Option PV → PH → Prop) (hQ : ∀ (P1 : PH) (_ : BdM P1) (_ : FrM ([36, 43], [19, 20, 21, 24, 25, 26, 27]) P P1) (_ : LO P P1) (_ : SX f 0 P1) (_ : (a2 = 0 ∧ pot P1 = pot P + 11) ∨ (a2 ≠ 0 ∧ pot P1 = pot P + 7)), Q none P1) : Ct WSM G 2 iX12_fieldBegins [vR 0, vI a1, vI a2] P Q := by
  refine Ct.of (by decide) (l0 := [(0, vR 0), (1, vI a1), (2, vI a2)]) rfl (Nat.le_of_ble_eq_true rfl) ?_
  refine g_aload_n dX12_fieldBegins_0 rfl ?_
  refine m_g41 rfl dX12_fieldBegins_1 ?_
  refine g_aload_n dX12_fieldBegins_4 rfl ?_
  refine m_g43 (z := (P 0 43)) rfl dX12_fieldBegins_5 rfl ?_
  refine g_iload_n dX12_fieldBegins_8 rfl ?_
  refine m_s26 dX12_fieldBegins_9 ⟨by have q0 := b0_43 hB; omega, by have q0 := b0_43 hB; omega⟩ ?_
  have hB1 := ba_26 (z := a1) (k := (P 0 43)) hB ⟨by omega, by omega⟩
  refine g_aload_n dX12_fieldBegins_10 rfl ?_
  refine m_g42 rfl dX12_fieldBegins_11 ?_
  refine g_aload_n dX12_fieldBegins_14 rfl ?_
  refine m_g43 (z := (P 0 43)) rfl dX12_fieldBegins_15 ((up_o (by decide)).trans rfl) ?_
  refine g_iload_n dX12_fieldBegins_18 rfl ?_
  refine m_s27 dX12_fieldBegins_19 ⟨by have q0 := b0_43 hB; omega, by have q0 := b0_43 hB; omega⟩ ?_
  have hB2 := ba_27 (z := a2) (k := (P 0 43)) hB1 ⟨by omega, by omega⟩
  refine g_aload_n dX12_fieldBegins_20 rfl ?_
  refine g_iconst dX12_fieldBegins_21 ?_
  refine g_iload_n dX12_fieldBegins_22 rfl ?_
  refine g_iload_n dX12_fieldBegins_23 rfl ?_
  have hb1 := hB2
  have h26q : ∀ j : Int, j ≠ P 0 43 → (up (up P 26 (P 0 43) a1) 27 (P 0 43) a2) 26 j = P 26 j := fun j hj => ((up_o (by decide)).trans ((up_k hj).trans rfl))
  have h27q : ∀ j : Int, j ≠ P 0 43 → (up (up P 26 (P 0 43) a1) 27 (P 0 43) a2) 27 j = P 27 j := fun j hj => ((up_k hj).trans ((up_o (by decide)).trans rfl))
  have h26 := (((up_o (by decide)).trans up_same) : (up (up P 26 (P 0 43) a1) 27 (P 0 43) a2) 26 (P 0 43) = a1)
  have h27 := (up_same : (up (up P 26 (P 0 43) a1) 27 (P 0 43) a2) 27 (P 0 43) = a2)
  have hf1 : FrM ([], [26, 27]) P (up (up P 26 (P 0 43) a1) 27 (P 0 43) a2) := FrM.a (P1 := up P 26 (P 0 43) a1) (FrM.a (P1 := P) FrM.rf rfl rfl) rfl rfl
  have hlo : LO P (up (up P 26 (P 0 43) a1) 27 (P 0 43) a2) := LO.rf.fr (F := ([], [26, 27])) hf1 rfl
  have q43 := p_sx.1
  refine g_vV (av := [vI 3, vI a1, vI a2]) (o := 0) (st := []) (m_X12_emits G (up (up P 26 (P 0 43) a1) 27 (P 0 43) a2) 3 a1 a2 (by decide) ⟨by omega, by omega⟩ ⟨by omega, by omega⟩ hB2 (by have q0 := (((up_o (by decide)).trans ((up_o (by decide)).trans rfl)) : (up (up P 26 (P 0 43) a1) 27 (P 0 43) a2) 0 36 = (P 0 36)); have q1 := b0_36 hB; omega) _ (fun Pc3 hBc3 hFc3 gc3_o gc3_e => ⟨rfl, ?_⟩)) cf_X12_emits t_1788 rfl (by decide) rfl rfl rfl (Nat.le_of_ble_eq_true rfl) (by decide) rfl dX12_fieldBegins_24
  have z4 : (up (up P 26 (P 0 43) a1) 27 (P 0 43) a2) 0 36 = (P 0 36) := ((up_o (by decide)).trans ((up_o (by decide)).trans rfl))
  have iv5 : LO P Pc3 := hlo.trans (gc3_e.lo hFc3 rfl (by have q := (((up_o (by decide)).trans ((up_o (by decide)).trans rfl)) : (up (up P 26 (P 0 43) a1) 27 (P 0 43) a2) 0 36 = (P 0 36)); omega))
  refine g_aload_n dX12_fieldBegins_27 rfl ?_
  refine g_aload_n dX12_fieldBegins_28 rfl ?_
  refine m_g20 rfl dX12_fieldBegins_29 ?_
  refine g_iconst dX12_fieldBegins_32 ?_
  refine g_bipush dX12_fieldBegins_33 (by decide) ?_
  refine g_aload_n dX12_fieldBegins_35 rfl ?_
  refine m_g37 (z := (P 0 37)) rfl dX12_fieldBegins_36 ((hFc3.1 37 rfl).trans ((up_o (by decide)).trans ((up_o (by decide)).trans rfl))) ?_
  refine g_imul dX12_fieldBegins_39 ?_
  refine g_iload_n dX12_fieldBegins_40 rfl ?_
  refine g_iadd dX12_fieldBegins_41 ?_
  refine g_imul dX12_fieldBegins_42 ?_
  refine g_iload_n dX12_fieldBegins_43 rfl ?_
  refine g_iadd dX12_fieldBegins_44 ?_
  refine m_l8 (z := (P 8 ((2 * ((24 * (P 0 37)) + a1)) + a2))) dX12_fieldBegins_45 ⟨by have q0 := b0_37 hB; omega, by have q0 := b0_37 hB; omega⟩ ((congrFun (hFc3.2 8 rfl rfl) _).trans ((up_o (by decide)).trans ((up_o (by decide)).trans rfl))) ?_
  have hb2 := hBc3
  have f6 := bl_8 (k := ((2 * ((24 * (P 0 37)) + a1)) + a2)) hB
  refine g_vV (av := [vI (P 8 ((2 * ((24 * (P 0 37)) + a1)) + a2))]) (o := 0) (st := []) (m_X12_opensPattern G Pc3 (P 8 ((2 * ((24 * (P 0 37)) + a1)) + a2)) ⟨by have q0 := bl_8 (k := ((2 * ((24 * (P 0 37)) + a1)) + a2)) hB; omega, by have q0 := bl_8 (k := ((2 * ((24 * (P 0 37)) + a1)) + a2)) hB; omega⟩ hBc3 (by have q0 := bl_8 (k := ((2 * ((24 * (P 0 37)) + a1)) + a2)) hB; have q1 := (((hFc3.1 43 rfl).trans ((up_o (by decide)).trans ((up_o (by decide)).trans rfl))) : Pc3 0 43 = (P 0 43)); have q2 := b0_43 hB; omega) _ (fun Pc7 hBc7 hFc7 gc7_o gc7_k gc7_z gc7_kq gc7_zq => ⟨rfl, ?_⟩)) cf_X12_opensPattern t_1780 rfl (by decide) rfl rfl rfl (Nat.le_of_ble_eq_true rfl) (by decide) rfl dX12_fieldBegins_46
  have z8 : Pc3 0 43 = (P 0 43) := ((hFc3.1 43 rfl).trans ((up_o (by decide)).trans ((up_o (by decide)).trans rfl)))
  have e43 := (((hFc3.1 43 rfl).trans ((up_o (by decide)).trans ((up_o (by decide)).trans rfl))) : Pc3 0 43 = (P 0 43))
  rw [e43] at gc7_o gc7_k gc7_z gc7_kq gc7_zq
  have hin := p_sx.into v_CF hB hb1 hb2 rfl rfl (by omega) ⟨by omega, by omega⟩ ⟨by omega, by omega⟩ rfl hf1 h26q h26 h27q h27 gc3_e hFc3 hFc7 gc7_o gc7_k gc7_kq gc7_z gc7_zq
  exact g_retV dX12_fieldBegins_49 rfl (hQ _ hBc7 (FrM.c (FrM.c (FrM.a (FrM.a FrM.rf rfl rfl) rfl rfl) hFc3 rfl) hFc7 rfl) ((LO.fr (F := ([43], [24, 25])) iv5 (FrM.c FrM.rf hFc7 rfl) rfl)) (hin.1) (hin.2))
