section
/-! Contracts of the reference: mi. -/
set_option maxRecDepth 100000 in
set_option maxHeartbeats 4000000 in
theorem m_X12_conRead (G : GT) (P : PH) (a1 : Int) (h_a1 : 0 ≤ a1 ∧ a1 ≤ 4) (hB : BdM P) (p_lx : (P 0 3 = 0 ∨ P 0 4 + 1 ≤ P 0 5) ∧ P 0 4 ≤ P 0 5) (Q : Option PV → PH → Prop) (hQ : ∀ (r : Int) (_ : 0 ≤ r ∧ r ≤ 23) (P1 : PH) (_ : BdM P1) (_ : FrM ([3, 4, 5, 6, 7, 8, 9, 12], []) P P1) (_ : (P1 0 3 = 0 ∨ P1 0 4 + 1 ≤ P1 0 5) ∧ P1 0 4 ≤ P1 0 5) (_ : P 0 4 ≤ P1 0 4) (_ : P 0 8 ≤ 0 ∨ 0 < P1 0 8) (_ : 0 < P1 0 8 ∨ (r < P 5 (P 0 13) ∧ P 6 (24 * P 0 13 + r) = a1 ∧ P 0 4 + 1 ≤ P1 0 4)), Q (some (vI r)) P1) : Ct WSM G 3 iX12_conRead [vR 0, vI a1] P Q := by
  refine Ct.of (by decide) (l0 := [(0, vR 0), (1, vI a1)]) rfl (Nat.le_of_ble_eq_true rfl) ?_
  refine g_aload_n dX12_conRead_0 rfl ?_
  refine m_g3 (z := (P 0 3)) rfl dX12_conRead_1 rfl ?_
  refine g_iconst dX12_conRead_4 ?_
  have f1 := b0_3 hB
  refine g_icmp_ne (tgt := 19) dX12_conRead_5 (by decide) ⟨by have q0 := b0_3 hB; omega, by have q0 := b0_3 hB; omega⟩ (by decide) (fun k2 => ?_) (fun k2 => ?_)
  · refine g_aload_n dX12_conRead_19 rfl ?_
    refine g_iconst dX12_conRead_20 ?_
    refine g_aload_n dX12_conRead_21 rfl ?_
    refine m_g4 (z := (P 0 4)) rfl dX12_conRead_22 rfl ?_
    have f3 := b0_4 hB
    refine g_vV (av := [vI 1, vI (P 0 4)]) (o := 0) (st := []) (m_X12_blame G P 1 (P 0 4) (by decide) ⟨by have q0 := b0_4 hB; omega, by have q0 := b0_4 hB; omega⟩ hB  _ (fun Pc4 hBc4 hFc4 gc4_f gc4_pe => ⟨rfl, ?_⟩)) cf_X12_blame t_1701 rfl (by decide) rfl rfl rfl (Nat.le_of_ble_eq_true rfl) (by decide) rfl dX12_conRead_25
    refine g_aload_n dX12_conRead_28 rfl ?_
    refine m_g8 (z := (Pc4 0 8)) rfl dX12_conRead_29 rfl ?_
    have f5 := b0_8 hBc4
    refine g_if_le (tgt := 39) dX12_conRead_32 (by decide) ⟨by have q0 := b0_8 hBc4; omega, by have q0 := b0_8 hBc4; omega⟩ (fun k6 => ?_) (fun k6 => ?_)
    · refine g_aload_n dX12_conRead_39 rfl ?_
      refine g_aload_n dX12_conRead_40 rfl ?_
      refine m_g13 (z := (P 0 13)) rfl dX12_conRead_41 ((hFc4.1 13 rfl).trans rfl) ?_
      refine g_aload_n dX12_conRead_44 rfl ?_
      refine m_g7 (z := (P 0 7)) rfl dX12_conRead_45 ((hFc4.1 7 rfl).trans rfl) ?_
      have f7 := b0_13 hB
      have f8 := b0_7 hB
      refine g_vI (av := [vI (P 0 13), vL (P 0 7)]) (o := 0) (st := []) (m_X12_conNamed G Pc4 (P 0 13) (P 0 7) ⟨by have q0 := b0_13 hB; omega, by have q0 := b0_13 hB; omega⟩ ⟨by have q0 := b0_7 hB; omega, by have q0 := b0_7 hB; omega⟩ hBc4  _ (fun rc9 hc9 gc9_k => ⟨rc9, rfl, ?_⟩)) cf_X12_conNamed t_1740 rfl (by decide) rfl rfl rfl (Nat.le_of_ble_eq_true rfl) (by decide) rfl dX12_conRead_48
      have z10 : Pc4 5 (P 0 13) = (P 5 (P 0 13)) := ((congrFun (hFc4.2 5 rfl rfl) _).trans rfl)
      refine g_istore_n (l1 := [(2, vI rc9), (0, vR 0), (1, vI a1)]) dX12_conRead_51 (by decide) rfl ?_
      refine g_aload_n dX12_conRead_52 rfl ?_
      refine m_g8 (z := (Pc4 0 8)) rfl dX12_conRead_53 rfl ?_
      refine g_if_ne (tgt := 91) dX12_conRead_56 (by decide) ⟨by have q0 := b0_8 hBc4; omega, by have q0 := b0_8 hBc4; omega⟩ (fun k11 => by exfalso; have q0 := b0_8 hBc4; omega) (fun k11 => ?_)
      refine g_iload_n dX12_conRead_59 rfl ?_
      refine g_iconst dX12_conRead_60 ?_
      refine g_icmp_eq (tgt := 82) dX12_conRead_61 (by decide) ⟨by omega, by omega⟩ (by decide) (fun k12 => ?_) (fun k12 => ?_)
      · refine g_aload_n dX12_conRead_82 rfl ?_
        refine g_iconst dX12_conRead_83 ?_
        refine g_aload_n dX12_conRead_84 rfl ?_
        refine m_g4 (z := (P 0 4)) rfl dX12_conRead_85 ((hFc4.1 4 rfl).trans rfl) ?_
        refine g_vV (av := [vI 3, vI (P 0 4)]) (o := 0) (st := []) (m_X12_blame G Pc4 3 (P 0 4) (by decide) ⟨by have q0 := b0_4 hB; omega, by have q0 := b0_4 hB; omega⟩ hBc4  _ (fun Pc13 hBc13 hFc13 gc13_f gc13_pe => ⟨rfl, ?_⟩)) cf_X12_blame t_1701 rfl (by decide) rfl rfl rfl (Nat.le_of_ble_eq_true rfl) (by decide) rfl dX12_conRead_88
        refine g_aload_n dX12_conRead_91 rfl ?_
        refine m_g8 (z := (Pc13 0 8)) rfl dX12_conRead_92 rfl ?_
        have f14 := b0_8 hBc13
        refine g_if_ne (tgt := 102) dX12_conRead_95 (by decide) ⟨by have q0 := b0_8 hBc13; omega, by have q0 := b0_8 hBc13; omega⟩ (fun k15 => ?_) (fun k15 => ?_)
        · refine g_aload_n dX12_conRead_102 rfl ?_
          refine m_g8 (z := (Pc13 0 8)) rfl dX12_conRead_103 rfl ?_
          refine g_if_le (tgt := 113) dX12_conRead_106 (by decide) ⟨by have q0 := b0_8 hBc13; omega, by have q0 := b0_8 hBc13; omega⟩ (fun k16 => by exfalso; have q0 := b0_8 hBc13; omega) (fun k16 => ?_)
          refine g_iconst dX12_conRead_109 ?_
          refine g_goto (tgt := 114) dX12_conRead_110 (by decide) ?_
          exact g_retI dX12_conRead_114 rfl (hQ 0 (by decide) _ hBc13 (FrM.c (FrM.c FrM.rf hFc4 rfl) hFc13 rfl) (by have q0 := (((hFc13.1 3 rfl).trans ((hFc4.1 3 rfl).trans rfl)) : Pc13 0 3 = (P 0 3)); have q1 := b0_3 hB; have q2 := (((hFc13.1 4 rfl).trans ((hFc4.1 4 rfl).trans rfl)) : Pc13 0 4 = (P 0 4)); have q3 := b0_4 hB; have q4 := (((hFc13.1 5 rfl).trans ((hFc4.1 5 rfl).trans rfl)) : Pc13 0 5 = (P 0 5)); have q5 := b0_5 hB; omega) (by have q0 := (((hFc13.1 4 rfl).trans ((hFc4.1 4 rfl).trans rfl)) : Pc13 0 4 = (P 0 4)); have q1 := b0_4 hB; omega) (by have q0 := b0_8 hBc13; omega) (by have q0 := b0_8 hBc13; have q1 := (((congrFun (hFc13.2 5 rfl rfl) _).trans ((congrFun (hFc4.2 5 rfl rfl) _).trans rfl)) : Pc13 5 (Pc13 0 13) = (P 5 (Pc13 0 13))); have q2 := bl_5 (k := (Pc13 0 13)) hB; have q3 := (((congrFun (hFc13.2 6 rfl rfl) _).trans ((congrFun (hFc4.2 6 rfl rfl) _).trans rfl)) : Pc13 6 (24 * Pc13 0 13 + 0) = (P 6 (24 * Pc13 0 13 + 0))); have q4 := bl_6 (k := (24 * Pc13 0 13 + 0)) hB; have q5 := (((hFc13.1 4 rfl).trans ((hFc4.1 4 rfl).trans rfl)) : Pc13 0 4 = (P 0 4)); have q6 := b0_4 hB; have q7 := ((congrArg (Pc13 5) ((hFc13.1 13 rfl).trans ((hFc4.1 13 rfl).trans rfl))).trans ((congrFun (hFc13.2 5 rfl rfl) _).trans ((congrFun (hFc4.2 5 rfl rfl) _).trans rfl)) : Pc13 5 (Pc13 0 13) = (P 5 (P 0 13))); have q8 := bl_5 (k := (P 0 13)) hB; omega))
        · refine g_aload_n dX12_conRead_98 rfl ?_
          refine g_vV (av := []) (o := 0) (st := []) (m_X12_ahead G Pc13  hBc13  _ (fun Pc17 hBc17 hFc17 gc17_lx gc17_nx => ⟨rfl, ?_⟩)) cf_X12_ahead t_1683 rfl (by decide) rfl rfl rfl (Nat.le_of_ble_eq_true rfl) (by decide) rfl dX12_conRead_99
          have z18 : Pc13 0 5 = (P 0 5) := ((hFc13.1 5 rfl).trans ((hFc4.1 5 rfl).trans rfl))
          refine g_aload_n dX12_conRead_102 rfl ?_
          refine m_g8 (z := (Pc13 0 8)) rfl dX12_conRead_103 ((hFc17.1 8 rfl).trans rfl) ?_
          refine g_if_le (tgt := 113) dX12_conRead_106 (by decide) ⟨by have q0 := b0_8 hBc13; omega, by have q0 := b0_8 hBc13; omega⟩ (fun k19 => ?_) (fun k19 => by exfalso; have q0 := b0_8 hBc13; omega)
          refine g_iload_n dX12_conRead_113 rfl ?_
          exact g_retI dX12_conRead_114 rfl (hQ rc9 ⟨by omega, by omega⟩ _ hBc17 (FrM.c (FrM.c (FrM.c FrM.rf hFc4 rfl) hFc13 rfl) hFc17 rfl) (by have q0 := b0_3 hBc17; have q1 := b0_4 hBc17; have q2 := b0_5 hBc17; omega) (by have q0 := b0_4 hBc17; omega) (by have q0 := (((hFc17.1 8 rfl).trans rfl) : Pc17 0 8 = (Pc13 0 8)); have q1 := b0_8 hBc13; omega) (by have q0 := (((hFc17.1 8 rfl).trans rfl) : Pc17 0 8 = (Pc13 0 8)); have q1 := b0_8 hBc13; have q2 := (((congrFun (hFc17.2 5 rfl rfl) _).trans ((congrFun (hFc13.2 5 rfl rfl) _).trans ((congrFun (hFc4.2 5 rfl rfl) _).trans rfl))) : Pc17 5 (Pc17 0 13) = (P 5 (Pc17 0 13))); have q3 := bl_5 (k := (Pc17 0 13)) hB; have q4 := (((congrFun (hFc17.2 6 rfl rfl) _).trans ((congrFun (hFc13.2 6 rfl rfl) _).trans ((congrFun (hFc4.2 6 rfl rfl) _).trans rfl))) : Pc17 6 (24 * Pc17 0 13 + rc9) = (P 6 (24 * Pc17 0 13 + rc9))); have q5 := bl_6 (k := (24 * Pc17 0 13 + rc9)) hB; have q6 := b0_4 hBc17; have q7 := ((congrArg (Pc17 5) ((hFc17.1 13 rfl).trans ((hFc13.1 13 rfl).trans ((hFc4.1 13 rfl).trans rfl)))).trans ((congrFun (hFc17.2 5 rfl rfl) _).trans ((congrFun (hFc13.2 5 rfl rfl) _).trans ((congrFun (hFc4.2 5 rfl rfl) _).trans rfl))) : Pc17 5 (Pc17 0 13) = (P 5 (P 0 13))); have q8 := bl_5 (k := (P 0 13)) hB; omega))
      · refine g_aload_n dX12_conRead_64 rfl ?_
        refine m_g18 rfl dX12_conRead_65 ?_
        refine g_bipush dX12_conRead_68 (by decide) ?_
        refine g_aload_n dX12_conRead_70 rfl ?_
        refine m_g13 (z := (P 0 13)) rfl dX12_conRead_71 ((hFc4.1 13 rfl).trans rfl) ?_
        refine g_imul dX12_conRead_74 ?_
        refine g_iload_n dX12_conRead_75 rfl ?_
        refine g_iadd dX12_conRead_76 ?_
        refine m_l6 (z := (P 6 ((24 * (P 0 13)) + rc9))) dX12_conRead_77 ⟨by have q0 := b0_13 hB; omega, by have q0 := b0_13 hB; omega⟩ ((congrFun (hFc4.2 6 rfl rfl) _).trans rfl) ?_
        refine g_iload_n dX12_conRead_78 rfl ?_
        have f20 := bl_6 (k := ((24 * (P 0 13)) + rc9)) hB
        refine g_icmp_eq (tgt := 91) dX12_conRead_79 (by decide) ⟨by have q0 := bl_6 (k := ((24 * (P 0 13)) + rc9)) hB; omega, by have q0 := bl_6 (k := ((24 * (P 0 13)) + rc9)) hB; omega⟩ ⟨by omega, by omega⟩ (fun k21 => ?_) (fun k21 => ?_)
        · refine g_aload_n dX12_conRead_91 rfl ?_
          refine m_g8 (z := (Pc4 0 8)) rfl dX12_conRead_92 rfl ?_
          refine g_if_ne (tgt := 102) dX12_conRead_95 (by decide) ⟨by have q0 := b0_8 hBc4; omega, by have q0 := b0_8 hBc4; omega⟩ (fun k22 => by exfalso; have q0 := b0_8 hBc4; omega) (fun k22 => ?_)
          refine g_aload_n dX12_conRead_98 rfl ?_
          refine g_vV (av := []) (o := 0) (st := []) (m_X12_ahead G Pc4  hBc4  _ (fun Pc23 hBc23 hFc23 gc23_lx gc23_nx => ⟨rfl, ?_⟩)) cf_X12_ahead t_1683 rfl (by decide) rfl rfl rfl (Nat.le_of_ble_eq_true rfl) (by decide) rfl dX12_conRead_99
          have z24 : Pc4 0 5 = (P 0 5) := ((hFc4.1 5 rfl).trans rfl)
          refine g_aload_n dX12_conRead_102 rfl ?_
          refine m_g8 (z := (Pc4 0 8)) rfl dX12_conRead_103 ((hFc23.1 8 rfl).trans rfl) ?_
          refine g_if_le (tgt := 113) dX12_conRead_106 (by decide) ⟨by have q0 := b0_8 hBc4; omega, by have q0 := b0_8 hBc4; omega⟩ (fun k25 => ?_) (fun k25 => by exfalso; have q0 := b0_8 hBc4; omega)
          refine g_iload_n dX12_conRead_113 rfl ?_
          exact g_retI dX12_conRead_114 rfl (hQ rc9 ⟨by omega, by omega⟩ _ hBc23 (FrM.c (FrM.c FrM.rf hFc4 rfl) hFc23 rfl) (by have q0 := b0_3 hBc23; have q1 := b0_4 hBc23; have q2 := b0_5 hBc23; omega) (by have q0 := b0_4 hBc23; omega) (by have q0 := (((hFc23.1 8 rfl).trans rfl) : Pc23 0 8 = (Pc4 0 8)); have q1 := b0_8 hBc4; omega) (by have q0 := (((hFc23.1 8 rfl).trans rfl) : Pc23 0 8 = (Pc4 0 8)); have q1 := b0_8 hBc4; have q2 := (((congrFun (hFc23.2 5 rfl rfl) _).trans ((congrFun (hFc4.2 5 rfl rfl) _).trans rfl)) : Pc23 5 (Pc23 0 13) = (P 5 (Pc23 0 13))); have q3 := bl_5 (k := (Pc23 0 13)) hB; have q4 := (((congrFun (hFc23.2 6 rfl rfl) _).trans ((congrFun (hFc4.2 6 rfl rfl) _).trans rfl)) : Pc23 6 (24 * Pc23 0 13 + rc9) = (P 6 (24 * Pc23 0 13 + rc9))); have q5 := bl_6 (k := (24 * Pc23 0 13 + rc9)) hB; have q6 := b0_4 hBc23; have q7 := ((congrArg (Pc23 5) ((hFc23.1 13 rfl).trans ((hFc4.1 13 rfl).trans rfl))).trans ((congrFun (hFc23.2 5 rfl rfl) _).trans ((congrFun (hFc4.2 5 rfl rfl) _).trans rfl)) : Pc23 5 (Pc23 0 13) = (P 5 (P 0 13))); have q8 := bl_5 (k := (P 0 13)) hB; omega))
        · refine g_aload_n dX12_conRead_82 rfl ?_
          refine g_iconst dX12_conRead_83 ?_
          refine g_aload_n dX12_conRead_84 rfl ?_
          refine m_g4 (z := (P 0 4)) rfl dX12_conRead_85 ((hFc4.1 4 rfl).trans rfl) ?_
          refine g_vV (av := [vI 3, vI (P 0 4)]) (o := 0) (st := []) (m_X12_blame G Pc4 3 (P 0 4) (by decide) ⟨by have q0 := b0_4 hB; omega, by have q0 := b0_4 hB; omega⟩ hBc4  _ (fun Pc26 hBc26 hFc26 gc26_f gc26_pe => ⟨rfl, ?_⟩)) cf_X12_blame t_1701 rfl (by decide) rfl rfl rfl (Nat.le_of_ble_eq_true rfl) (by decide) rfl dX12_conRead_88
          refine g_aload_n dX12_conRead_91 rfl ?_
          refine m_g8 (z := (Pc26 0 8)) rfl dX12_conRead_92 rfl ?_
          have f27 := b0_8 hBc26
          refine g_if_ne (tgt := 102) dX12_conRead_95 (by decide) ⟨by have q0 := b0_8 hBc26; omega, by have q0 := b0_8 hBc26; omega⟩ (fun k28 => ?_) (fun k28 => ?_)
          · refine g_aload_n dX12_conRead_102 rfl ?_
            refine m_g8 (z := (Pc26 0 8)) rfl dX12_conRead_103 rfl ?_
            refine g_if_le (tgt := 113) dX12_conRead_106 (by decide) ⟨by have q0 := b0_8 hBc26; omega, by have q0 := b0_8 hBc26; omega⟩ (fun k29 => by exfalso; have q0 := b0_8 hBc26; omega) (fun k29 => ?_)
            refine g_iconst dX12_conRead_109 ?_
            refine g_goto (tgt := 114) dX12_conRead_110 (by decide) ?_
            exact g_retI dX12_conRead_114 rfl (hQ 0 (by decide) _ hBc26 (FrM.c (FrM.c FrM.rf hFc4 rfl) hFc26 rfl) (by have q0 := (((hFc26.1 3 rfl).trans ((hFc4.1 3 rfl).trans rfl)) : Pc26 0 3 = (P 0 3)); have q1 := b0_3 hB; have q2 := (((hFc26.1 4 rfl).trans ((hFc4.1 4 rfl).trans rfl)) : Pc26 0 4 = (P 0 4)); have q3 := b0_4 hB; have q4 := (((hFc26.1 5 rfl).trans ((hFc4.1 5 rfl).trans rfl)) : Pc26 0 5 = (P 0 5)); have q5 := b0_5 hB; omega) (by have q0 := (((hFc26.1 4 rfl).trans ((hFc4.1 4 rfl).trans rfl)) : Pc26 0 4 = (P 0 4)); have q1 := b0_4 hB; omega) (by have q0 := b0_8 hBc26; omega) (by have q0 := b0_8 hBc26; have q1 := (((congrFun (hFc26.2 5 rfl rfl) _).trans ((congrFun (hFc4.2 5 rfl rfl) _).trans rfl)) : Pc26 5 (Pc26 0 13) = (P 5 (Pc26 0 13))); have q2 := bl_5 (k := (Pc26 0 13)) hB; have q3 := (((congrFun (hFc26.2 6 rfl rfl) _).trans ((congrFun (hFc4.2 6 rfl rfl) _).trans rfl)) : Pc26 6 (24 * Pc26 0 13 + 0) = (P 6 (24 * Pc26 0 13 + 0))); have q4 := bl_6 (k := (24 * Pc26 0 13 + 0)) hB; have q5 := (((hFc26.1 4 rfl).trans ((hFc4.1 4 rfl).trans rfl)) : Pc26 0 4 = (P 0 4)); have q6 := b0_4 hB; have q7 := ((congrArg (Pc26 5) ((hFc26.1 13 rfl).trans ((hFc4.1 13 rfl).trans rfl))).trans ((congrFun (hFc26.2 5 rfl rfl) _).trans ((congrFun (hFc4.2 5 rfl rfl) _).trans rfl)) : Pc26 5 (Pc26 0 13) = (P 5 (P 0 13))); have q8 := bl_5 (k := (P 0 13)) hB; omega))
          · refine g_aload_n dX12_conRead_98 rfl ?_
            refine g_vV (av := []) (o := 0) (st := []) (m_X12_ahead G Pc26  hBc26  _ (fun Pc30 hBc30 hFc30 gc30_lx gc30_nx => ⟨rfl, ?_⟩)) cf_X12_ahead t_1683 rfl (by decide) rfl rfl rfl (Nat.le_of_ble_eq_true rfl) (by decide) rfl dX12_conRead_99
            have z31 : Pc26 0 5 = (P 0 5) := ((hFc26.1 5 rfl).trans ((hFc4.1 5 rfl).trans rfl))
            refine g_aload_n dX12_conRead_102 rfl ?_
            refine m_g8 (z := (Pc26 0 8)) rfl dX12_conRead_103 ((hFc30.1 8 rfl).trans rfl) ?_
            refine g_if_le (tgt := 113) dX12_conRead_106 (by decide) ⟨by have q0 := b0_8 hBc26; omega, by have q0 := b0_8 hBc26; omega⟩ (fun k32 => ?_) (fun k32 => by exfalso; have q0 := b0_8 hBc26; omega)
            refine g_iload_n dX12_conRead_113 rfl ?_
            exact g_retI dX12_conRead_114 rfl (hQ rc9 ⟨by omega, by omega⟩ _ hBc30 (FrM.c (FrM.c (FrM.c FrM.rf hFc4 rfl) hFc26 rfl) hFc30 rfl) (by have q0 := b0_3 hBc30; have q1 := b0_4 hBc30; have q2 := b0_5 hBc30; omega) (by have q0 := b0_4 hBc30; omega) (by have q0 := (((hFc30.1 8 rfl).trans rfl) : Pc30 0 8 = (Pc26 0 8)); have q1 := b0_8 hBc26; omega) (by have q0 := (((hFc30.1 8 rfl).trans rfl) : Pc30 0 8 = (Pc26 0 8)); have q1 := b0_8 hBc26; have q2 := (((congrFun (hFc30.2 5 rfl rfl) _).trans ((congrFun (hFc26.2 5 rfl rfl) _).trans ((congrFun (hFc4.2 5 rfl rfl) _).trans rfl))) : Pc30 5 (Pc30 0 13) = (P 5 (Pc30 0 13))); have q3 := bl_5 (k := (Pc30 0 13)) hB; have q4 := (((congrFun (hFc30.2 6 rfl rfl) _).trans ((congrFun (hFc26.2 6 rfl rfl) _).trans ((congrFun (hFc4.2 6 rfl rfl) _).trans rfl))) : Pc30 6 (24 * Pc30 0 13 + rc9) = (P 6 (24 * Pc30 0 13 + rc9))); have q5 := bl_6 (k := (24 * Pc30 0 13 + rc9)) hB; have q6 := b0_4 hBc30; have q7 := ((congrArg (Pc30 5) ((hFc30.1 13 rfl).trans ((hFc26.1 13 rfl).trans ((hFc4.1 13 rfl).trans rfl)))).trans ((congrFun (hFc30.2 5 rfl rfl) _).trans ((congrFun (hFc26.2 5 rfl rfl) _).trans ((congrFun (hFc4.2 5 rfl rfl) _).trans rfl))) : Pc30 5 (Pc30 0 13) = (P 5 (P 0 13))); have q8 := bl_5 (k := (P 0 13)) hB; omega))
    · refine g_iconst dX12_conRead_35 ?_
      refine g_goto (tgt := 51) dX12_conRead_36 (by decide) ?_
      refine g_istore_n (l1 := [(2, vI 0), (0, vR 0), (1, vI a1)]) dX12_conRead_51 (by decide) rfl ?_
      refine g_aload_n dX12_conRead_52 rfl ?_
      refine m_g8 (z := (Pc4 0 8)) rfl dX12_conRead_53 rfl ?_
      refine g_if_ne (tgt := 91) dX12_conRead_56 (by decide) ⟨by have q0 := b0_8 hBc4; omega, by have q0 := b0_8 hBc4; omega⟩ (fun k33 => ?_) (fun k33 => by exfalso; have q0 := b0_8 hBc4; omega)
      refine g_aload_n dX12_conRead_91 rfl ?_
      refine m_g8 (z := (Pc4 0 8)) rfl dX12_conRead_92 rfl ?_
      refine g_if_ne (tgt := 102) dX12_conRead_95 (by decide) ⟨by have q0 := b0_8 hBc4; omega, by have q0 := b0_8 hBc4; omega⟩ (fun k34 => ?_) (fun k34 => by exfalso; have q0 := b0_8 hBc4; omega)
      refine g_aload_n dX12_conRead_102 rfl ?_
      refine m_g8 (z := (Pc4 0 8)) rfl dX12_conRead_103 rfl ?_
      refine g_if_le (tgt := 113) dX12_conRead_106 (by decide) ⟨by have q0 := b0_8 hBc4; omega, by have q0 := b0_8 hBc4; omega⟩ (fun k35 => by exfalso; have q0 := b0_8 hBc4; omega) (fun k35 => ?_)
      refine g_iconst dX12_conRead_109 ?_
      refine g_goto (tgt := 114) dX12_conRead_110 (by decide) ?_
      exact g_retI dX12_conRead_114 rfl (hQ 0 (by decide) _ hBc4 (FrM.c FrM.rf hFc4 rfl) (by have q0 := (((hFc4.1 3 rfl).trans rfl) : Pc4 0 3 = (P 0 3)); have q1 := b0_3 hB; have q2 := (((hFc4.1 4 rfl).trans rfl) : Pc4 0 4 = (P 0 4)); have q3 := b0_4 hB; have q4 := (((hFc4.1 5 rfl).trans rfl) : Pc4 0 5 = (P 0 5)); have q5 := b0_5 hB; omega) (by have q0 := (((hFc4.1 4 rfl).trans rfl) : Pc4 0 4 = (P 0 4)); have q1 := b0_4 hB; omega) (by have q0 := b0_8 hBc4; omega) (by have q0 := b0_8 hBc4; have q1 := (((congrFun (hFc4.2 5 rfl rfl) _).trans rfl) : Pc4 5 (Pc4 0 13) = (P 5 (Pc4 0 13))); have q2 := bl_5 (k := (Pc4 0 13)) hB; have q3 := (((congrFun (hFc4.2 6 rfl rfl) _).trans rfl) : Pc4 6 (24 * Pc4 0 13 + 0) = (P 6 (24 * Pc4 0 13 + 0))); have q4 := bl_6 (k := (24 * Pc4 0 13 + 0)) hB; have q5 := (((hFc4.1 4 rfl).trans rfl) : Pc4 0 4 = (P 0 4)); have q6 := b0_4 hB; have q7 := ((congrArg (Pc4 5) ((hFc4.1 13 rfl).trans rfl)).trans ((congrFun (hFc4.2 5 rfl rfl) _).trans rfl) : Pc4 5 (Pc4 0 13) = (P 5 (P 0 13))); have q8 := bl_5 (k := (P 0 13)) hB; omega))
  · refine g_aload_n dX12_conRead_8 rfl ?_
    refine g_aload_n dX12_conRead_9 rfl ?_
    refine m_g7 (z := (P 0 7)) rfl dX12_conRead_10 rfl ?_
    have f36 := b0_7 hB
    refine g_vI (av := [vL (P 0 7)]) (o := 0) (st := []) (m_X12_isOwn G P (P 0 7) ⟨by have q0 := b0_7 hB; omega, by have q0 := b0_7 hB; omega⟩ hB  _ (fun rc37 hc37 => ⟨rc37, rfl, ?_⟩)) cf_X12_isOwn t_1722 rfl (by decide) rfl rfl rfl (Nat.le_of_ble_eq_true rfl) (by decide) rfl dX12_conRead_13
    refine g_if_eq (tgt := 28) dX12_conRead_16 (by decide) ⟨by omega, by omega⟩ (fun k38 => ?_) (fun k38 => ?_)
    · refine g_aload_n dX12_conRead_28 rfl ?_
      refine m_g8 (z := (P 0 8)) rfl dX12_conRead_29 rfl ?_
      have f39 := b0_8 hB
      refine g_if_le (tgt := 39) dX12_conRead_32 (by decide) ⟨by have q0 := b0_8 hB; omega, by have q0 := b0_8 hB; omega⟩ (fun k40 => ?_) (fun k40 => ?_)
      · refine g_aload_n dX12_conRead_39 rfl ?_
        refine g_aload_n dX12_conRead_40 rfl ?_
        refine m_g13 (z := (P 0 13)) rfl dX12_conRead_41 rfl ?_
        refine g_aload_n dX12_conRead_44 rfl ?_
        refine m_g7 (z := (P 0 7)) rfl dX12_conRead_45 rfl ?_
        have f41 := b0_13 hB
        refine g_vI (av := [vI (P 0 13), vL (P 0 7)]) (o := 0) (st := []) (m_X12_conNamed G P (P 0 13) (P 0 7) ⟨by have q0 := b0_13 hB; omega, by have q0 := b0_13 hB; omega⟩ ⟨by have q0 := b0_7 hB; omega, by have q0 := b0_7 hB; omega⟩ hB  _ (fun rc42 hc42 gc42_k => ⟨rc42, rfl, ?_⟩)) cf_X12_conNamed t_1740 rfl (by decide) rfl rfl rfl (Nat.le_of_ble_eq_true rfl) (by decide) rfl dX12_conRead_48
        refine g_istore_n (l1 := [(2, vI rc42), (0, vR 0), (1, vI a1)]) dX12_conRead_51 (by decide) rfl ?_
        refine g_aload_n dX12_conRead_52 rfl ?_
        refine m_g8 (z := (P 0 8)) rfl dX12_conRead_53 rfl ?_
        refine g_if_ne (tgt := 91) dX12_conRead_56 (by decide) ⟨by have q0 := b0_8 hB; omega, by have q0 := b0_8 hB; omega⟩ (fun k43 => by exfalso; have q0 := b0_8 hB; omega) (fun k43 => ?_)
        refine g_iload_n dX12_conRead_59 rfl ?_
        refine g_iconst dX12_conRead_60 ?_
        refine g_icmp_eq (tgt := 82) dX12_conRead_61 (by decide) ⟨by omega, by omega⟩ (by decide) (fun k44 => ?_) (fun k44 => ?_)
        · refine g_aload_n dX12_conRead_82 rfl ?_
          refine g_iconst dX12_conRead_83 ?_
          refine g_aload_n dX12_conRead_84 rfl ?_
          refine m_g4 (z := (P 0 4)) rfl dX12_conRead_85 rfl ?_
          have f45 := b0_4 hB
          refine g_vV (av := [vI 3, vI (P 0 4)]) (o := 0) (st := []) (m_X12_blame G P 3 (P 0 4) (by decide) ⟨by have q0 := b0_4 hB; omega, by have q0 := b0_4 hB; omega⟩ hB  _ (fun Pc46 hBc46 hFc46 gc46_f gc46_pe => ⟨rfl, ?_⟩)) cf_X12_blame t_1701 rfl (by decide) rfl rfl rfl (Nat.le_of_ble_eq_true rfl) (by decide) rfl dX12_conRead_88
          refine g_aload_n dX12_conRead_91 rfl ?_
          refine m_g8 (z := (Pc46 0 8)) rfl dX12_conRead_92 rfl ?_
          have f47 := b0_8 hBc46
          refine g_if_ne (tgt := 102) dX12_conRead_95 (by decide) ⟨by have q0 := b0_8 hBc46; omega, by have q0 := b0_8 hBc46; omega⟩ (fun k48 => ?_) (fun k48 => ?_)
          · refine g_aload_n dX12_conRead_102 rfl ?_
            refine m_g8 (z := (Pc46 0 8)) rfl dX12_conRead_103 rfl ?_
            refine g_if_le (tgt := 113) dX12_conRead_106 (by decide) ⟨by have q0 := b0_8 hBc46; omega, by have q0 := b0_8 hBc46; omega⟩ (fun k49 => by exfalso; have q0 := b0_8 hBc46; omega) (fun k49 => ?_)
            refine g_iconst dX12_conRead_109 ?_
            refine g_goto (tgt := 114) dX12_conRead_110 (by decide) ?_
            exact g_retI dX12_conRead_114 rfl (hQ 0 (by decide) _ hBc46 (FrM.c FrM.rf hFc46 rfl) (by have q0 := (((hFc46.1 3 rfl).trans rfl) : Pc46 0 3 = (P 0 3)); have q1 := b0_3 hB; have q2 := (((hFc46.1 4 rfl).trans rfl) : Pc46 0 4 = (P 0 4)); have q3 := b0_4 hB; have q4 := (((hFc46.1 5 rfl).trans rfl) : Pc46 0 5 = (P 0 5)); have q5 := b0_5 hB; omega) (by have q0 := (((hFc46.1 4 rfl).trans rfl) : Pc46 0 4 = (P 0 4)); have q1 := b0_4 hB; omega) (by have q0 := b0_8 hBc46; omega) (by have q0 := b0_8 hBc46; have q1 := (((congrFun (hFc46.2 5 rfl rfl) _).trans rfl) : Pc46 5 (Pc46 0 13) = (P 5 (Pc46 0 13))); have q2 := bl_5 (k := (Pc46 0 13)) hB; have q3 := (((congrFun (hFc46.2 6 rfl rfl) _).trans rfl) : Pc46 6 (24 * Pc46 0 13 + 0) = (P 6 (24 * Pc46 0 13 + 0))); have q4 := bl_6 (k := (24 * Pc46 0 13 + 0)) hB; have q5 := (((hFc46.1 4 rfl).trans rfl) : Pc46 0 4 = (P 0 4)); have q6 := b0_4 hB; have q7 := ((congrArg (Pc46 5) ((hFc46.1 13 rfl).trans rfl)).trans ((congrFun (hFc46.2 5 rfl rfl) _).trans rfl) : Pc46 5 (Pc46 0 13) = (P 5 (P 0 13))); have q8 := bl_5 (k := (P 0 13)) hB; omega))
          · refine g_aload_n dX12_conRead_98 rfl ?_
            refine g_vV (av := []) (o := 0) (st := []) (m_X12_ahead G Pc46  hBc46  _ (fun Pc50 hBc50 hFc50 gc50_lx gc50_nx => ⟨rfl, ?_⟩)) cf_X12_ahead t_1683 rfl (by decide) rfl rfl rfl (Nat.le_of_ble_eq_true rfl) (by decide) rfl dX12_conRead_99
            have z51 : Pc46 0 5 = (P 0 5) := ((hFc46.1 5 rfl).trans rfl)
            refine g_aload_n dX12_conRead_102 rfl ?_
            refine m_g8 (z := (Pc46 0 8)) rfl dX12_conRead_103 ((hFc50.1 8 rfl).trans rfl) ?_
            refine g_if_le (tgt := 113) dX12_conRead_106 (by decide) ⟨by have q0 := b0_8 hBc46; omega, by have q0 := b0_8 hBc46; omega⟩ (fun k52 => ?_) (fun k52 => by exfalso; have q0 := b0_8 hBc46; omega)
            refine g_iload_n dX12_conRead_113 rfl ?_
            exact g_retI dX12_conRead_114 rfl (hQ rc42 ⟨by omega, by omega⟩ _ hBc50 (FrM.c (FrM.c FrM.rf hFc46 rfl) hFc50 rfl) (by have q0 := b0_3 hBc50; have q1 := b0_4 hBc50; have q2 := b0_5 hBc50; omega) (by have q0 := b0_4 hBc50; omega) (by have q0 := (((hFc50.1 8 rfl).trans rfl) : Pc50 0 8 = (Pc46 0 8)); have q1 := b0_8 hBc46; omega) (by have q0 := (((hFc50.1 8 rfl).trans rfl) : Pc50 0 8 = (Pc46 0 8)); have q1 := b0_8 hBc46; have q2 := (((congrFun (hFc50.2 5 rfl rfl) _).trans ((congrFun (hFc46.2 5 rfl rfl) _).trans rfl)) : Pc50 5 (Pc50 0 13) = (P 5 (Pc50 0 13))); have q3 := bl_5 (k := (Pc50 0 13)) hB; have q4 := (((congrFun (hFc50.2 6 rfl rfl) _).trans ((congrFun (hFc46.2 6 rfl rfl) _).trans rfl)) : Pc50 6 (24 * Pc50 0 13 + rc42) = (P 6 (24 * Pc50 0 13 + rc42))); have q5 := bl_6 (k := (24 * Pc50 0 13 + rc42)) hB; have q6 := b0_4 hBc50; have q7 := ((congrArg (Pc50 5) ((hFc50.1 13 rfl).trans ((hFc46.1 13 rfl).trans rfl))).trans ((congrFun (hFc50.2 5 rfl rfl) _).trans ((congrFun (hFc46.2 5 rfl rfl) _).trans rfl)) : Pc50 5 (Pc50 0 13) = (P 5 (P 0 13))); have q8 := bl_5 (k := (P 0 13)) hB; omega))
        · refine g_aload_n dX12_conRead_64 rfl ?_
          refine m_g18 rfl dX12_conRead_65 ?_
          refine g_bipush dX12_conRead_68 (by decide) ?_
          refine g_aload_n dX12_conRead_70 rfl ?_
          refine m_g13 (z := (P 0 13)) rfl dX12_conRead_71 rfl ?_
          refine g_imul dX12_conRead_74 ?_
          refine g_iload_n dX12_conRead_75 rfl ?_
          refine g_iadd dX12_conRead_76 ?_
          refine m_l6 (z := (P 6 ((24 * (P 0 13)) + rc42))) dX12_conRead_77 ⟨by have q0 := b0_13 hB; omega, by have q0 := b0_13 hB; omega⟩ rfl ?_
          refine g_iload_n dX12_conRead_78 rfl ?_
          have f53 := bl_6 (k := ((24 * (P 0 13)) + rc42)) hB
          refine g_icmp_eq (tgt := 91) dX12_conRead_79 (by decide) ⟨by have q0 := bl_6 (k := ((24 * (P 0 13)) + rc42)) hB; omega, by have q0 := bl_6 (k := ((24 * (P 0 13)) + rc42)) hB; omega⟩ ⟨by omega, by omega⟩ (fun k54 => ?_) (fun k54 => ?_)
          · refine g_aload_n dX12_conRead_91 rfl ?_
            refine m_g8 (z := (P 0 8)) rfl dX12_conRead_92 rfl ?_
            refine g_if_ne (tgt := 102) dX12_conRead_95 (by decide) ⟨by have q0 := b0_8 hB; omega, by have q0 := b0_8 hB; omega⟩ (fun k55 => by exfalso; have q0 := b0_8 hB; omega) (fun k55 => ?_)
            refine g_aload_n dX12_conRead_98 rfl ?_
            refine g_vV (av := []) (o := 0) (st := []) (m_X12_ahead G P  hB  _ (fun Pc56 hBc56 hFc56 gc56_lx gc56_nx => ⟨rfl, ?_⟩)) cf_X12_ahead t_1683 rfl (by decide) rfl rfl rfl (Nat.le_of_ble_eq_true rfl) (by decide) rfl dX12_conRead_99
            refine g_aload_n dX12_conRead_102 rfl ?_
            refine m_g8 (z := (P 0 8)) rfl dX12_conRead_103 ((hFc56.1 8 rfl).trans rfl) ?_
            refine g_if_le (tgt := 113) dX12_conRead_106 (by decide) ⟨by have q0 := b0_8 hB; omega, by have q0 := b0_8 hB; omega⟩ (fun k57 => ?_) (fun k57 => by exfalso; have q0 := b0_8 hB; omega)
            refine g_iload_n dX12_conRead_113 rfl ?_
            exact g_retI dX12_conRead_114 rfl (hQ rc42 ⟨by omega, by omega⟩ _ hBc56 (FrM.c FrM.rf hFc56 rfl) (by have q0 := b0_3 hBc56; have q1 := b0_4 hBc56; have q2 := b0_5 hBc56; omega) (by have q0 := b0_4 hBc56; omega) (by have q0 := (((hFc56.1 8 rfl).trans rfl) : Pc56 0 8 = (P 0 8)); have q1 := b0_8 hB; omega) (by have q0 := (((hFc56.1 8 rfl).trans rfl) : Pc56 0 8 = (P 0 8)); have q1 := b0_8 hB; have q2 := (((congrFun (hFc56.2 5 rfl rfl) _).trans rfl) : Pc56 5 (Pc56 0 13) = (P 5 (Pc56 0 13))); have q3 := bl_5 (k := (Pc56 0 13)) hB; have q4 := (((congrFun (hFc56.2 6 rfl rfl) _).trans rfl) : Pc56 6 (24 * Pc56 0 13 + rc42) = (P 6 (24 * Pc56 0 13 + rc42))); have q5 := bl_6 (k := (24 * Pc56 0 13 + rc42)) hB; have q6 := b0_4 hBc56; have q7 := ((congrArg (Pc56 5) ((hFc56.1 13 rfl).trans rfl)).trans ((congrFun (hFc56.2 5 rfl rfl) _).trans rfl) : Pc56 5 (Pc56 0 13) = (P 5 (P 0 13))); have q8 := bl_5 (k := (P 0 13)) hB; omega))
          · refine g_aload_n dX12_conRead_82 rfl ?_
            refine g_iconst dX12_conRead_83 ?_
            refine g_aload_n dX12_conRead_84 rfl ?_
            refine m_g4 (z := (P 0 4)) rfl dX12_conRead_85 rfl ?_
            have f58 := b0_4 hB
            refine g_vV (av := [vI 3, vI (P 0 4)]) (o := 0) (st := []) (m_X12_blame G P 3 (P 0 4) (by decide) ⟨by have q0 := b0_4 hB; omega, by have q0 := b0_4 hB; omega⟩ hB  _ (fun Pc59 hBc59 hFc59 gc59_f gc59_pe => ⟨rfl, ?_⟩)) cf_X12_blame t_1701 rfl (by decide) rfl rfl rfl (Nat.le_of_ble_eq_true rfl) (by decide) rfl dX12_conRead_88
            refine g_aload_n dX12_conRead_91 rfl ?_
            refine m_g8 (z := (Pc59 0 8)) rfl dX12_conRead_92 rfl ?_
            have f60 := b0_8 hBc59
            refine g_if_ne (tgt := 102) dX12_conRead_95 (by decide) ⟨by have q0 := b0_8 hBc59; omega, by have q0 := b0_8 hBc59; omega⟩ (fun k61 => ?_) (fun k61 => ?_)
            · refine g_aload_n dX12_conRead_102 rfl ?_
              refine m_g8 (z := (Pc59 0 8)) rfl dX12_conRead_103 rfl ?_
              refine g_if_le (tgt := 113) dX12_conRead_106 (by decide) ⟨by have q0 := b0_8 hBc59; omega, by have q0 := b0_8 hBc59; omega⟩ (fun k62 => by exfalso; have q0 := b0_8 hBc59; omega) (fun k62 => ?_)
              refine g_iconst dX12_conRead_109 ?_
              refine g_goto (tgt := 114) dX12_conRead_110 (by decide) ?_
              exact g_retI dX12_conRead_114 rfl (hQ 0 (by decide) _ hBc59 (FrM.c FrM.rf hFc59 rfl) (by have q0 := (((hFc59.1 3 rfl).trans rfl) : Pc59 0 3 = (P 0 3)); have q1 := b0_3 hB; have q2 := (((hFc59.1 4 rfl).trans rfl) : Pc59 0 4 = (P 0 4)); have q3 := b0_4 hB; have q4 := (((hFc59.1 5 rfl).trans rfl) : Pc59 0 5 = (P 0 5)); have q5 := b0_5 hB; omega) (by have q0 := (((hFc59.1 4 rfl).trans rfl) : Pc59 0 4 = (P 0 4)); have q1 := b0_4 hB; omega) (by have q0 := b0_8 hBc59; omega) (by have q0 := b0_8 hBc59; have q1 := (((congrFun (hFc59.2 5 rfl rfl) _).trans rfl) : Pc59 5 (Pc59 0 13) = (P 5 (Pc59 0 13))); have q2 := bl_5 (k := (Pc59 0 13)) hB; have q3 := (((congrFun (hFc59.2 6 rfl rfl) _).trans rfl) : Pc59 6 (24 * Pc59 0 13 + 0) = (P 6 (24 * Pc59 0 13 + 0))); have q4 := bl_6 (k := (24 * Pc59 0 13 + 0)) hB; have q5 := (((hFc59.1 4 rfl).trans rfl) : Pc59 0 4 = (P 0 4)); have q6 := b0_4 hB; have q7 := ((congrArg (Pc59 5) ((hFc59.1 13 rfl).trans rfl)).trans ((congrFun (hFc59.2 5 rfl rfl) _).trans rfl) : Pc59 5 (Pc59 0 13) = (P 5 (P 0 13))); have q8 := bl_5 (k := (P 0 13)) hB; omega))
            · refine g_aload_n dX12_conRead_98 rfl ?_
              refine g_vV (av := []) (o := 0) (st := []) (m_X12_ahead G Pc59  hBc59  _ (fun Pc63 hBc63 hFc63 gc63_lx gc63_nx => ⟨rfl, ?_⟩)) cf_X12_ahead t_1683 rfl (by decide) rfl rfl rfl (Nat.le_of_ble_eq_true rfl) (by decide) rfl dX12_conRead_99
              have z64 : Pc59 0 5 = (P 0 5) := ((hFc59.1 5 rfl).trans rfl)
              refine g_aload_n dX12_conRead_102 rfl ?_
              refine m_g8 (z := (Pc59 0 8)) rfl dX12_conRead_103 ((hFc63.1 8 rfl).trans rfl) ?_
              refine g_if_le (tgt := 113) dX12_conRead_106 (by decide) ⟨by have q0 := b0_8 hBc59; omega, by have q0 := b0_8 hBc59; omega⟩ (fun k65 => ?_) (fun k65 => by exfalso; have q0 := b0_8 hBc59; omega)
              refine g_iload_n dX12_conRead_113 rfl ?_
              exact g_retI dX12_conRead_114 rfl (hQ rc42 ⟨by omega, by omega⟩ _ hBc63 (FrM.c (FrM.c FrM.rf hFc59 rfl) hFc63 rfl) (by have q0 := b0_3 hBc63; have q1 := b0_4 hBc63; have q2 := b0_5 hBc63; omega) (by have q0 := b0_4 hBc63; omega) (by have q0 := (((hFc63.1 8 rfl).trans rfl) : Pc63 0 8 = (Pc59 0 8)); have q1 := b0_8 hBc59; omega) (by have q0 := (((hFc63.1 8 rfl).trans rfl) : Pc63 0 8 = (Pc59 0 8)); have q1 := b0_8 hBc59; have q2 := (((congrFun (hFc63.2 5 rfl rfl) _).trans ((congrFun (hFc59.2 5 rfl rfl) _).trans rfl)) : Pc63 5 (Pc63 0 13) = (P 5 (Pc63 0 13))); have q3 := bl_5 (k := (Pc63 0 13)) hB; have q4 := (((congrFun (hFc63.2 6 rfl rfl) _).trans ((congrFun (hFc59.2 6 rfl rfl) _).trans rfl)) : Pc63 6 (24 * Pc63 0 13 + rc42) = (P 6 (24 * Pc63 0 13 + rc42))); have q5 := bl_6 (k := (24 * Pc63 0 13 + rc42)) hB; have q6 := b0_4 hBc63; have q7 := ((congrArg (Pc63 5) ((hFc63.1 13 rfl).trans ((hFc59.1 13 rfl).trans rfl))).trans ((congrFun (hFc63.2 5 rfl rfl) _).trans ((congrFun (hFc59.2 5 rfl rfl) _).trans rfl)) : Pc63 5 (Pc63 0 13) = (P 5 (P 0 13))); have q8 := bl_5 (k := (P 0 13)) hB; omega))
      · refine g_iconst dX12_conRead_35 ?_
        refine g_goto (tgt := 51) dX12_conRead_36 (by decide) ?_
        refine g_istore_n (l1 := [(2, vI 0), (0, vR 0), (1, vI a1)]) dX12_conRead_51 (by decide) rfl ?_
        refine g_aload_n dX12_conRead_52 rfl ?_
        refine m_g8 (z := (P 0 8)) rfl dX12_conRead_53 rfl ?_
        refine g_if_ne (tgt := 91) dX12_conRead_56 (by decide) ⟨by have q0 := b0_8 hB; omega, by have q0 := b0_8 hB; omega⟩ (fun k66 => ?_) (fun k66 => by exfalso; have q0 := b0_8 hB; omega)
        refine g_aload_n dX12_conRead_91 rfl ?_
        refine m_g8 (z := (P 0 8)) rfl dX12_conRead_92 rfl ?_
        refine g_if_ne (tgt := 102) dX12_conRead_95 (by decide) ⟨by have q0 := b0_8 hB; omega, by have q0 := b0_8 hB; omega⟩ (fun k67 => ?_) (fun k67 => by exfalso; have q0 := b0_8 hB; omega)
        refine g_aload_n dX12_conRead_102 rfl ?_
        refine m_g8 (z := (P 0 8)) rfl dX12_conRead_103 rfl ?_
        refine g_if_le (tgt := 113) dX12_conRead_106 (by decide) ⟨by have q0 := b0_8 hB; omega, by have q0 := b0_8 hB; omega⟩ (fun k68 => by exfalso; have q0 := b0_8 hB; omega) (fun k68 => ?_)
        refine g_iconst dX12_conRead_109 ?_
        refine g_goto (tgt := 114) dX12_conRead_110 (by decide) ?_
        exact g_retI dX12_conRead_114 rfl (hQ 0 (by decide) _ hB FrM.rf (by have q0 := b0_3 hB; have q1 := b0_4 hB; have q2 := b0_5 hB; omega) (by have q0 := b0_4 hB; omega) (by have q0 := b0_8 hB; omega) (by have q0 := b0_8 hB; have q1 := bl_5 (k := (P 0 13)) hB; have q2 := bl_6 (k := (24 * P 0 13 + 0)) hB; have q3 := b0_4 hB; omega))
    · refine g_aload_n dX12_conRead_19 rfl ?_
      refine g_iconst dX12_conRead_20 ?_
      refine g_aload_n dX12_conRead_21 rfl ?_
      refine m_g4 (z := (P 0 4)) rfl dX12_conRead_22 rfl ?_
      have f69 := b0_4 hB
      refine g_vV (av := [vI 1, vI (P 0 4)]) (o := 0) (st := []) (m_X12_blame G P 1 (P 0 4) (by decide) ⟨by have q0 := b0_4 hB; omega, by have q0 := b0_4 hB; omega⟩ hB  _ (fun Pc70 hBc70 hFc70 gc70_f gc70_pe => ⟨rfl, ?_⟩)) cf_X12_blame t_1701 rfl (by decide) rfl rfl rfl (Nat.le_of_ble_eq_true rfl) (by decide) rfl dX12_conRead_25
      refine g_aload_n dX12_conRead_28 rfl ?_
      refine m_g8 (z := (Pc70 0 8)) rfl dX12_conRead_29 rfl ?_
      have f71 := b0_8 hBc70
      refine g_if_le (tgt := 39) dX12_conRead_32 (by decide) ⟨by have q0 := b0_8 hBc70; omega, by have q0 := b0_8 hBc70; omega⟩ (fun k72 => ?_) (fun k72 => ?_)
      · refine g_aload_n dX12_conRead_39 rfl ?_
        refine g_aload_n dX12_conRead_40 rfl ?_
        refine m_g13 (z := (P 0 13)) rfl dX12_conRead_41 ((hFc70.1 13 rfl).trans rfl) ?_
        refine g_aload_n dX12_conRead_44 rfl ?_
        refine m_g7 (z := (P 0 7)) rfl dX12_conRead_45 ((hFc70.1 7 rfl).trans rfl) ?_
        have f73 := b0_13 hB
        refine g_vI (av := [vI (P 0 13), vL (P 0 7)]) (o := 0) (st := []) (m_X12_conNamed G Pc70 (P 0 13) (P 0 7) ⟨by have q0 := b0_13 hB; omega, by have q0 := b0_13 hB; omega⟩ ⟨by have q0 := b0_7 hB; omega, by have q0 := b0_7 hB; omega⟩ hBc70  _ (fun rc74 hc74 gc74_k => ⟨rc74, rfl, ?_⟩)) cf_X12_conNamed t_1740 rfl (by decide) rfl rfl rfl (Nat.le_of_ble_eq_true rfl) (by decide) rfl dX12_conRead_48
        have z75 : Pc70 5 (P 0 13) = (P 5 (P 0 13)) := ((congrFun (hFc70.2 5 rfl rfl) _).trans rfl)
        refine g_istore_n (l1 := [(2, vI rc74), (0, vR 0), (1, vI a1)]) dX12_conRead_51 (by decide) rfl ?_
        refine g_aload_n dX12_conRead_52 rfl ?_
        refine m_g8 (z := (Pc70 0 8)) rfl dX12_conRead_53 rfl ?_
        refine g_if_ne (tgt := 91) dX12_conRead_56 (by decide) ⟨by have q0 := b0_8 hBc70; omega, by have q0 := b0_8 hBc70; omega⟩ (fun k76 => by exfalso; have q0 := b0_8 hBc70; omega) (fun k76 => ?_)
        refine g_iload_n dX12_conRead_59 rfl ?_
        refine g_iconst dX12_conRead_60 ?_
        refine g_icmp_eq (tgt := 82) dX12_conRead_61 (by decide) ⟨by omega, by omega⟩ (by decide) (fun k77 => ?_) (fun k77 => ?_)
        · refine g_aload_n dX12_conRead_82 rfl ?_
          refine g_iconst dX12_conRead_83 ?_
          refine g_aload_n dX12_conRead_84 rfl ?_
          refine m_g4 (z := (P 0 4)) rfl dX12_conRead_85 ((hFc70.1 4 rfl).trans rfl) ?_
          refine g_vV (av := [vI 3, vI (P 0 4)]) (o := 0) (st := []) (m_X12_blame G Pc70 3 (P 0 4) (by decide) ⟨by have q0 := b0_4 hB; omega, by have q0 := b0_4 hB; omega⟩ hBc70  _ (fun Pc78 hBc78 hFc78 gc78_f gc78_pe => ⟨rfl, ?_⟩)) cf_X12_blame t_1701 rfl (by decide) rfl rfl rfl (Nat.le_of_ble_eq_true rfl) (by decide) rfl dX12_conRead_88
          refine g_aload_n dX12_conRead_91 rfl ?_
          refine m_g8 (z := (Pc78 0 8)) rfl dX12_conRead_92 rfl ?_
          have f79 := b0_8 hBc78
          refine g_if_ne (tgt := 102) dX12_conRead_95 (by decide) ⟨by have q0 := b0_8 hBc78; omega, by have q0 := b0_8 hBc78; omega⟩ (fun k80 => ?_) (fun k80 => ?_)
          · refine g_aload_n dX12_conRead_102 rfl ?_
            refine m_g8 (z := (Pc78 0 8)) rfl dX12_conRead_103 rfl ?_
            refine g_if_le (tgt := 113) dX12_conRead_106 (by decide) ⟨by have q0 := b0_8 hBc78; omega, by have q0 := b0_8 hBc78; omega⟩ (fun k81 => by exfalso; have q0 := b0_8 hBc78; omega) (fun k81 => ?_)
            refine g_iconst dX12_conRead_109 ?_
            refine g_goto (tgt := 114) dX12_conRead_110 (by decide) ?_
            exact g_retI dX12_conRead_114 rfl (hQ 0 (by decide) _ hBc78 (FrM.c (FrM.c FrM.rf hFc70 rfl) hFc78 rfl) (by have q0 := (((hFc78.1 3 rfl).trans ((hFc70.1 3 rfl).trans rfl)) : Pc78 0 3 = (P 0 3)); have q1 := b0_3 hB; have q2 := (((hFc78.1 4 rfl).trans ((hFc70.1 4 rfl).trans rfl)) : Pc78 0 4 = (P 0 4)); have q3 := b0_4 hB; have q4 := (((hFc78.1 5 rfl).trans ((hFc70.1 5 rfl).trans rfl)) : Pc78 0 5 = (P 0 5)); have q5 := b0_5 hB; omega) (by have q0 := (((hFc78.1 4 rfl).trans ((hFc70.1 4 rfl).trans rfl)) : Pc78 0 4 = (P 0 4)); have q1 := b0_4 hB; omega) (by have q0 := b0_8 hBc78; omega) (by have q0 := b0_8 hBc78; have q1 := (((congrFun (hFc78.2 5 rfl rfl) _).trans ((congrFun (hFc70.2 5 rfl rfl) _).trans rfl)) : Pc78 5 (Pc78 0 13) = (P 5 (Pc78 0 13))); have q2 := bl_5 (k := (Pc78 0 13)) hB; have q3 := (((congrFun (hFc78.2 6 rfl rfl) _).trans ((congrFun (hFc70.2 6 rfl rfl) _).trans rfl)) : Pc78 6 (24 * Pc78 0 13 + 0) = (P 6 (24 * Pc78 0 13 + 0))); have q4 := bl_6 (k := (24 * Pc78 0 13 + 0)) hB; have q5 := (((hFc78.1 4 rfl).trans ((hFc70.1 4 rfl).trans rfl)) : Pc78 0 4 = (P 0 4)); have q6 := b0_4 hB; have q7 := ((congrArg (Pc78 5) ((hFc78.1 13 rfl).trans ((hFc70.1 13 rfl).trans rfl))).trans ((congrFun (hFc78.2 5 rfl rfl) _).trans ((congrFun (hFc70.2 5 rfl rfl) _).trans rfl)) : Pc78 5 (Pc78 0 13) = (P 5 (P 0 13))); have q8 := bl_5 (k := (P 0 13)) hB; omega))
          · refine g_aload_n dX12_conRead_98 rfl ?_
            refine g_vV (av := []) (o := 0) (st := []) (m_X12_ahead G Pc78  hBc78  _ (fun Pc82 hBc82 hFc82 gc82_lx gc82_nx => ⟨rfl, ?_⟩)) cf_X12_ahead t_1683 rfl (by decide) rfl rfl rfl (Nat.le_of_ble_eq_true rfl) (by decide) rfl dX12_conRead_99
            have z83 : Pc78 0 5 = (P 0 5) := ((hFc78.1 5 rfl).trans ((hFc70.1 5 rfl).trans rfl))
            refine g_aload_n dX12_conRead_102 rfl ?_
            refine m_g8 (z := (Pc78 0 8)) rfl dX12_conRead_103 ((hFc82.1 8 rfl).trans rfl) ?_
            refine g_if_le (tgt := 113) dX12_conRead_106 (by decide) ⟨by have q0 := b0_8 hBc78; omega, by have q0 := b0_8 hBc78; omega⟩ (fun k84 => ?_) (fun k84 => by exfalso; have q0 := b0_8 hBc78; omega)
            refine g_iload_n dX12_conRead_113 rfl ?_
            exact g_retI dX12_conRead_114 rfl (hQ rc74 ⟨by omega, by omega⟩ _ hBc82 (FrM.c (FrM.c (FrM.c FrM.rf hFc70 rfl) hFc78 rfl) hFc82 rfl) (by have q0 := b0_3 hBc82; have q1 := b0_4 hBc82; have q2 := b0_5 hBc82; omega) (by have q0 := b0_4 hBc82; omega) (by have q0 := (((hFc82.1 8 rfl).trans rfl) : Pc82 0 8 = (Pc78 0 8)); have q1 := b0_8 hBc78; omega) (by have q0 := (((hFc82.1 8 rfl).trans rfl) : Pc82 0 8 = (Pc78 0 8)); have q1 := b0_8 hBc78; have q2 := (((congrFun (hFc82.2 5 rfl rfl) _).trans ((congrFun (hFc78.2 5 rfl rfl) _).trans ((congrFun (hFc70.2 5 rfl rfl) _).trans rfl))) : Pc82 5 (Pc82 0 13) = (P 5 (Pc82 0 13))); have q3 := bl_5 (k := (Pc82 0 13)) hB; have q4 := (((congrFun (hFc82.2 6 rfl rfl) _).trans ((congrFun (hFc78.2 6 rfl rfl) _).trans ((congrFun (hFc70.2 6 rfl rfl) _).trans rfl))) : Pc82 6 (24 * Pc82 0 13 + rc74) = (P 6 (24 * Pc82 0 13 + rc74))); have q5 := bl_6 (k := (24 * Pc82 0 13 + rc74)) hB; have q6 := b0_4 hBc82; have q7 := ((congrArg (Pc82 5) ((hFc82.1 13 rfl).trans ((hFc78.1 13 rfl).trans ((hFc70.1 13 rfl).trans rfl)))).trans ((congrFun (hFc82.2 5 rfl rfl) _).trans ((congrFun (hFc78.2 5 rfl rfl) _).trans ((congrFun (hFc70.2 5 rfl rfl) _).trans rfl))) : Pc82 5 (Pc82 0 13) = (P 5 (P 0 13))); have q8 := bl_5 (k := (P 0 13)) hB; omega))
        · refine g_aload_n dX12_conRead_64 rfl ?_
          refine m_g18 rfl dX12_conRead_65 ?_
          refine g_bipush dX12_conRead_68 (by decide) ?_
          refine g_aload_n dX12_conRead_70 rfl ?_
          refine m_g13 (z := (P 0 13)) rfl dX12_conRead_71 ((hFc70.1 13 rfl).trans rfl) ?_
          refine g_imul dX12_conRead_74 ?_
          refine g_iload_n dX12_conRead_75 rfl ?_
          refine g_iadd dX12_conRead_76 ?_
          refine m_l6 (z := (P 6 ((24 * (P 0 13)) + rc74))) dX12_conRead_77 ⟨by have q0 := b0_13 hB; omega, by have q0 := b0_13 hB; omega⟩ ((congrFun (hFc70.2 6 rfl rfl) _).trans rfl) ?_
          refine g_iload_n dX12_conRead_78 rfl ?_
          have f85 := bl_6 (k := ((24 * (P 0 13)) + rc74)) hB
          refine g_icmp_eq (tgt := 91) dX12_conRead_79 (by decide) ⟨by have q0 := bl_6 (k := ((24 * (P 0 13)) + rc74)) hB; omega, by have q0 := bl_6 (k := ((24 * (P 0 13)) + rc74)) hB; omega⟩ ⟨by omega, by omega⟩ (fun k86 => ?_) (fun k86 => ?_)
          · refine g_aload_n dX12_conRead_91 rfl ?_
            refine m_g8 (z := (Pc70 0 8)) rfl dX12_conRead_92 rfl ?_
            refine g_if_ne (tgt := 102) dX12_conRead_95 (by decide) ⟨by have q0 := b0_8 hBc70; omega, by have q0 := b0_8 hBc70; omega⟩ (fun k87 => by exfalso; have q0 := b0_8 hBc70; omega) (fun k87 => ?_)
            refine g_aload_n dX12_conRead_98 rfl ?_
            refine g_vV (av := []) (o := 0) (st := []) (m_X12_ahead G Pc70  hBc70  _ (fun Pc88 hBc88 hFc88 gc88_lx gc88_nx => ⟨rfl, ?_⟩)) cf_X12_ahead t_1683 rfl (by decide) rfl rfl rfl (Nat.le_of_ble_eq_true rfl) (by decide) rfl dX12_conRead_99
            have z89 : Pc70 0 5 = (P 0 5) := ((hFc70.1 5 rfl).trans rfl)
            refine g_aload_n dX12_conRead_102 rfl ?_
            refine m_g8 (z := (Pc70 0 8)) rfl dX12_conRead_103 ((hFc88.1 8 rfl).trans rfl) ?_
            refine g_if_le (tgt := 113) dX12_conRead_106 (by decide) ⟨by have q0 := b0_8 hBc70; omega, by have q0 := b0_8 hBc70; omega⟩ (fun k90 => ?_) (fun k90 => by exfalso; have q0 := b0_8 hBc70; omega)
            refine g_iload_n dX12_conRead_113 rfl ?_
            exact g_retI dX12_conRead_114 rfl (hQ rc74 ⟨by omega, by omega⟩ _ hBc88 (FrM.c (FrM.c FrM.rf hFc70 rfl) hFc88 rfl) (by have q0 := b0_3 hBc88; have q1 := b0_4 hBc88; have q2 := b0_5 hBc88; omega) (by have q0 := b0_4 hBc88; omega) (by have q0 := (((hFc88.1 8 rfl).trans rfl) : Pc88 0 8 = (Pc70 0 8)); have q1 := b0_8 hBc70; omega) (by have q0 := (((hFc88.1 8 rfl).trans rfl) : Pc88 0 8 = (Pc70 0 8)); have q1 := b0_8 hBc70; have q2 := (((congrFun (hFc88.2 5 rfl rfl) _).trans ((congrFun (hFc70.2 5 rfl rfl) _).trans rfl)) : Pc88 5 (Pc88 0 13) = (P 5 (Pc88 0 13))); have q3 := bl_5 (k := (Pc88 0 13)) hB; have q4 := (((congrFun (hFc88.2 6 rfl rfl) _).trans ((congrFun (hFc70.2 6 rfl rfl) _).trans rfl)) : Pc88 6 (24 * Pc88 0 13 + rc74) = (P 6 (24 * Pc88 0 13 + rc74))); have q5 := bl_6 (k := (24 * Pc88 0 13 + rc74)) hB; have q6 := b0_4 hBc88; have q7 := ((congrArg (Pc88 5) ((hFc88.1 13 rfl).trans ((hFc70.1 13 rfl).trans rfl))).trans ((congrFun (hFc88.2 5 rfl rfl) _).trans ((congrFun (hFc70.2 5 rfl rfl) _).trans rfl)) : Pc88 5 (Pc88 0 13) = (P 5 (P 0 13))); have q8 := bl_5 (k := (P 0 13)) hB; omega))
          · refine g_aload_n dX12_conRead_82 rfl ?_
            refine g_iconst dX12_conRead_83 ?_
            refine g_aload_n dX12_conRead_84 rfl ?_
            refine m_g4 (z := (P 0 4)) rfl dX12_conRead_85 ((hFc70.1 4 rfl).trans rfl) ?_
            refine g_vV (av := [vI 3, vI (P 0 4)]) (o := 0) (st := []) (m_X12_blame G Pc70 3 (P 0 4) (by decide) ⟨by have q0 := b0_4 hB; omega, by have q0 := b0_4 hB; omega⟩ hBc70  _ (fun Pc91 hBc91 hFc91 gc91_f gc91_pe => ⟨rfl, ?_⟩)) cf_X12_blame t_1701 rfl (by decide) rfl rfl rfl (Nat.le_of_ble_eq_true rfl) (by decide) rfl dX12_conRead_88
            refine g_aload_n dX12_conRead_91 rfl ?_
            refine m_g8 (z := (Pc91 0 8)) rfl dX12_conRead_92 rfl ?_
            have f92 := b0_8 hBc91
            refine g_if_ne (tgt := 102) dX12_conRead_95 (by decide) ⟨by have q0 := b0_8 hBc91; omega, by have q0 := b0_8 hBc91; omega⟩ (fun k93 => ?_) (fun k93 => ?_)
            · refine g_aload_n dX12_conRead_102 rfl ?_
              refine m_g8 (z := (Pc91 0 8)) rfl dX12_conRead_103 rfl ?_
              refine g_if_le (tgt := 113) dX12_conRead_106 (by decide) ⟨by have q0 := b0_8 hBc91; omega, by have q0 := b0_8 hBc91; omega⟩ (fun k94 => by exfalso; have q0 := b0_8 hBc91; omega) (fun k94 => ?_)
              refine g_iconst dX12_conRead_109 ?_
              refine g_goto (tgt := 114) dX12_conRead_110 (by decide) ?_
              exact g_retI dX12_conRead_114 rfl (hQ 0 (by decide) _ hBc91 (FrM.c (FrM.c FrM.rf hFc70 rfl) hFc91 rfl) (by have q0 := (((hFc91.1 3 rfl).trans ((hFc70.1 3 rfl).trans rfl)) : Pc91 0 3 = (P 0 3)); have q1 := b0_3 hB; have q2 := (((hFc91.1 4 rfl).trans ((hFc70.1 4 rfl).trans rfl)) : Pc91 0 4 = (P 0 4)); have q3 := b0_4 hB; have q4 := (((hFc91.1 5 rfl).trans ((hFc70.1 5 rfl).trans rfl)) : Pc91 0 5 = (P 0 5)); have q5 := b0_5 hB; omega) (by have q0 := (((hFc91.1 4 rfl).trans ((hFc70.1 4 rfl).trans rfl)) : Pc91 0 4 = (P 0 4)); have q1 := b0_4 hB; omega) (by have q0 := b0_8 hBc91; omega) (by have q0 := b0_8 hBc91; have q1 := (((congrFun (hFc91.2 5 rfl rfl) _).trans ((congrFun (hFc70.2 5 rfl rfl) _).trans rfl)) : Pc91 5 (Pc91 0 13) = (P 5 (Pc91 0 13))); have q2 := bl_5 (k := (Pc91 0 13)) hB; have q3 := (((congrFun (hFc91.2 6 rfl rfl) _).trans ((congrFun (hFc70.2 6 rfl rfl) _).trans rfl)) : Pc91 6 (24 * Pc91 0 13 + 0) = (P 6 (24 * Pc91 0 13 + 0))); have q4 := bl_6 (k := (24 * Pc91 0 13 + 0)) hB; have q5 := (((hFc91.1 4 rfl).trans ((hFc70.1 4 rfl).trans rfl)) : Pc91 0 4 = (P 0 4)); have q6 := b0_4 hB; have q7 := ((congrArg (Pc91 5) ((hFc91.1 13 rfl).trans ((hFc70.1 13 rfl).trans rfl))).trans ((congrFun (hFc91.2 5 rfl rfl) _).trans ((congrFun (hFc70.2 5 rfl rfl) _).trans rfl)) : Pc91 5 (Pc91 0 13) = (P 5 (P 0 13))); have q8 := bl_5 (k := (P 0 13)) hB; omega))
            · refine g_aload_n dX12_conRead_98 rfl ?_
              refine g_vV (av := []) (o := 0) (st := []) (m_X12_ahead G Pc91  hBc91  _ (fun Pc95 hBc95 hFc95 gc95_lx gc95_nx => ⟨rfl, ?_⟩)) cf_X12_ahead t_1683 rfl (by decide) rfl rfl rfl (Nat.le_of_ble_eq_true rfl) (by decide) rfl dX12_conRead_99
              have z96 : Pc91 0 5 = (P 0 5) := ((hFc91.1 5 rfl).trans ((hFc70.1 5 rfl).trans rfl))
              refine g_aload_n dX12_conRead_102 rfl ?_
              refine m_g8 (z := (Pc91 0 8)) rfl dX12_conRead_103 ((hFc95.1 8 rfl).trans rfl) ?_
              refine g_if_le (tgt := 113) dX12_conRead_106 (by decide) ⟨by have q0 := b0_8 hBc91; omega, by have q0 := b0_8 hBc91; omega⟩ (fun k97 => ?_) (fun k97 => by exfalso; have q0 := b0_8 hBc91; omega)
              refine g_iload_n dX12_conRead_113 rfl ?_
              exact g_retI dX12_conRead_114 rfl (hQ rc74 ⟨by omega, by omega⟩ _ hBc95 (FrM.c (FrM.c (FrM.c FrM.rf hFc70 rfl) hFc91 rfl) hFc95 rfl) (by have q0 := b0_3 hBc95; have q1 := b0_4 hBc95; have q2 := b0_5 hBc95; omega) (by have q0 := b0_4 hBc95; omega) (by have q0 := (((hFc95.1 8 rfl).trans rfl) : Pc95 0 8 = (Pc91 0 8)); have q1 := b0_8 hBc91; omega) (by have q0 := (((hFc95.1 8 rfl).trans rfl) : Pc95 0 8 = (Pc91 0 8)); have q1 := b0_8 hBc91; have q2 := (((congrFun (hFc95.2 5 rfl rfl) _).trans ((congrFun (hFc91.2 5 rfl rfl) _).trans ((congrFun (hFc70.2 5 rfl rfl) _).trans rfl))) : Pc95 5 (Pc95 0 13) = (P 5 (Pc95 0 13))); have q3 := bl_5 (k := (Pc95 0 13)) hB; have q4 := (((congrFun (hFc95.2 6 rfl rfl) _).trans ((congrFun (hFc91.2 6 rfl rfl) _).trans ((congrFun (hFc70.2 6 rfl rfl) _).trans rfl))) : Pc95 6 (24 * Pc95 0 13 + rc74) = (P 6 (24 * Pc95 0 13 + rc74))); have q5 := bl_6 (k := (24 * Pc95 0 13 + rc74)) hB; have q6 := b0_4 hBc95; have q7 := ((congrArg (Pc95 5) ((hFc95.1 13 rfl).trans ((hFc91.1 13 rfl).trans ((hFc70.1 13 rfl).trans rfl)))).trans ((congrFun (hFc95.2 5 rfl rfl) _).trans ((congrFun (hFc91.2 5 rfl rfl) _).trans ((congrFun (hFc70.2 5 rfl rfl) _).trans rfl))) : Pc95 5 (Pc95 0 13) = (P 5 (P 0 13))); have q8 := bl_5 (k := (P 0 13)) hB; omega))
      · refine g_iconst dX12_conRead_35 ?_
        refine g_goto (tgt := 51) dX12_conRead_36 (by decide) ?_
        refine g_istore_n (l1 := [(2, vI 0), (0, vR 0), (1, vI a1)]) dX12_conRead_51 (by decide) rfl ?_
        refine g_aload_n dX12_conRead_52 rfl ?_
        refine m_g8 (z := (Pc70 0 8)) rfl dX12_conRead_53 rfl ?_
        refine g_if_ne (tgt := 91) dX12_conRead_56 (by decide) ⟨by have q0 := b0_8 hBc70; omega, by have q0 := b0_8 hBc70; omega⟩ (fun k98 => ?_) (fun k98 => by exfalso; have q0 := b0_8 hBc70; omega)
        refine g_aload_n dX12_conRead_91 rfl ?_
        refine m_g8 (z := (Pc70 0 8)) rfl dX12_conRead_92 rfl ?_
        refine g_if_ne (tgt := 102) dX12_conRead_95 (by decide) ⟨by have q0 := b0_8 hBc70; omega, by have q0 := b0_8 hBc70; omega⟩ (fun k99 => ?_) (fun k99 => by exfalso; have q0 := b0_8 hBc70; omega)
        refine g_aload_n dX12_conRead_102 rfl ?_
        refine m_g8 (z := (Pc70 0 8)) rfl dX12_conRead_103 rfl ?_
        refine g_if_le (tgt := 113) dX12_conRead_106 (by decide) ⟨by have q0 := b0_8 hBc70; omega, by have q0 := b0_8 hBc70; omega⟩ (fun k100 => by exfalso; have q0 := b0_8 hBc70; omega) (fun k100 => ?_)
        refine g_iconst dX12_conRead_109 ?_
        refine g_goto (tgt := 114) dX12_conRead_110 (by decide) ?_
        exact g_retI dX12_conRead_114 rfl (hQ 0 (by decide) _ hBc70 (FrM.c FrM.rf hFc70 rfl) (by have q0 := (((hFc70.1 3 rfl).trans rfl) : Pc70 0 3 = (P 0 3)); have q1 := b0_3 hB; have q2 := (((hFc70.1 4 rfl).trans rfl) : Pc70 0 4 = (P 0 4)); have q3 := b0_4 hB; have q4 := (((hFc70.1 5 rfl).trans rfl) : Pc70 0 5 = (P 0 5)); have q5 := b0_5 hB; omega) (by have q0 := (((hFc70.1 4 rfl).trans rfl) : Pc70 0 4 = (P 0 4)); have q1 := b0_4 hB; omega) (by have q0 := b0_8 hBc70; omega) (by have q0 := b0_8 hBc70; have q1 := (((congrFun (hFc70.2 5 rfl rfl) _).trans rfl) : Pc70 5 (Pc70 0 13) = (P 5 (Pc70 0 13))); have q2 := bl_5 (k := (Pc70 0 13)) hB; have q3 := (((congrFun (hFc70.2 6 rfl rfl) _).trans rfl) : Pc70 6 (24 * Pc70 0 13 + 0) = (P 6 (24 * Pc70 0 13 + 0))); have q4 := bl_6 (k := (24 * Pc70 0 13 + 0)) hB; have q5 := (((hFc70.1 4 rfl).trans rfl) : Pc70 0 4 = (P 0 4)); have q6 := b0_4 hB; have q7 := ((congrArg (Pc70 5) ((hFc70.1 13 rfl).trans rfl)).trans ((congrFun (hFc70.2 5 rfl rfl) _).trans rfl) : Pc70 5 (Pc70 0 13) = (P 5 (P 0 13))); have q8 := bl_5 (k := (P 0 13)) hB; omega))
set_option maxRecDepth 100000 in
set_option maxHeartbeats 4000000 in
theorem m_X12_isMoreOf (G : GT) (P : PH) (a1 : Int) (h_a1 : (-2147483648) ≤ a1 ∧ a1 ≤ 2147483647) (hB : BdM P) (p_lx : (P 0 3 = 0 ∨ P 0 4 + 1 ≤ P 0 5) ∧ P 0 4 ≤ P 0 5) (p_sr : SR P) (v_CF : CF P) (Q : Option PV → PH → Prop) (hQ : ∀ (r : Int) (_ : 0 ≤ r ∧ r ≤ 1) (P1 : PH) (_ : BdM P1) (_ : FrM ([3, 4, 5, 6, 7, 8, 9, 12, 43], [24, 25, 27]) P P1) (_ : (P1 0 3 = 0 ∨ P1 0 4 + 1 ≤ P1 0 5) ∧ P1 0 4 ≤ P1 0 5) (_ : P 0 4 ≤ P1 0 4) (_ : P 0 8 ≤ 0 ∨ 0 < P1 0 8) (_ : (r = 1 ∧ SR P1) ∨ r = 0), Q (some (vI r)) P1) : Ct WSM G 4 iX12_isMoreOf [vR 0, vI a1] P Q := by
  refine Ct.of (by decide) (l0 := [(0, vR 0), (1, vI a1)]) rfl (Nat.le_of_ble_eq_true rfl) ?_
  have ivI_SR : SR P := p_sr
  refine g_iload_n dX12_isMoreOf_0 rfl ?_
  refine g_istore_n (l1 := [(2, vI a1), (0, vR 0), (1, vI a1)]) dX12_isMoreOf_1 (by decide) rfl ?_
  have L2_0 : ∀ (n2_0 : Nat) (x2_2_0 : Int) (h_x2_2_0 : (-2147483648) ≤ x2_2_0 ∧ x2_2_0 ≤ 2147483647) (H2_0 : PH) (hB2_0 : BdM H2_0) (hE2_0 : FrM ([3, 4, 5, 6, 7, 8, 9, 12, 43], [25]) P H2_0) (i2_0_0 : P 0 8 ≤ 0 ∨ 0 < H2_0 0 8) (i2_1_0 : P 0 4 ≤ H2_0 0 4) (i2_2_0 : (H2_0 0 3 = 0 ∨ H2_0 0 4 + 1 ≤ H2_0 0 5) ∧ H2_0 0 4 ≤ H2_0 0 5) (w2_SR_0 : SR H2_0) (hm2_0 : (H2_0 0 43 : Int).toNat < n2_0), Go WSM G 4 iX12_isMoreOf 2 [(0, vR 0), (2, vI x2_2_0)] [] H2_0 Q := by
    intro n2_0
    induction n2_0 with
    | zero => intro x2_2_0 h_x2_2_0 H2_0 hB2_0 hE2_0 i2_0_0 i2_1_0 i2_2_0 w2_SR_0 hm2_0; exact absurd hm2_0 (Nat.not_lt_zero _)
    | succ n2_0 ih2_0 =>
    intro x2_2_0 h_x2_2_0 H2_0 hB2_0 hE2_0 i2_0_0 i2_1_0 i2_2_0 w2_SR_0 hm2_0
    refine g_aload_n dX12_isMoreOf_2 rfl ?_
    refine m_g8 (z := (H2_0 0 8)) rfl dX12_isMoreOf_3 rfl ?_
    have f114 := b0_8 hB2_0
    refine g_if_ne (tgt := 181) dX12_isMoreOf_6 (by decide) ⟨by have q0 := b0_8 hB2_0; omega, by have q0 := b0_8 hB2_0; omega⟩ (fun k115 => ?_) (fun k115 => ?_)
    · refine g_iconst dX12_isMoreOf_181 ?_
      exact g_retZ dX12_isMoreOf_182 rfl (by decide) (hQ 0 (by decide) _ hB2_0 (FrM.c FrM.rf hE2_0 rfl) (by have q0 := b0_3 hB2_0; have q1 := b0_4 hB2_0; have q2 := b0_5 hB2_0; omega) (by have q0 := b0_4 hB2_0; omega) (by have q0 := b0_8 hB2_0; omega) (by first | exact Or.inl ⟨rfl, w2_SR_0⟩ | exact Or.inr rfl))
    · obtain ⟨z, hz⟩ : ∃ z, z = (H2_0 0 43) := ⟨_, rfl⟩
      have hsr := w2_SR_0
      have hz43 := (rfl : H2_0 0 43 = (H2_0 0 43))
      have k13 : (13 : Int) ≠ 43 := by decide
      have hz13 := (((hE2_0.1 13 rfl).trans rfl) : H2_0 0 13 = (P 0 13))
      have hsr1 := hsr.1
      have r6a : ∀ j, H2_0 6 j = P 6 j := fun j => ((congrFun (hE2_0.2 6 rfl rfl) _).trans rfl)
      have r7a : ∀ j, H2_0 7 j = P 7 j := fun j => ((congrFun (hE2_0.2 7 rfl rfl) _).trans rfl)
      have r26a : ∀ j, H2_0 26 j = P 26 j := fun j => ((congrFun (hE2_0.2 26 rfl rfl) _).trans rfl)
      have r27a : ∀ j, H2_0 27 j = P 27 j := fun j => ((congrFun (hE2_0.2 27 rfl rfl) _).trans rfl)
      refine g_aload_n dX12_isMoreOf_9 rfl ?_
      refine g_dup dX12_isMoreOf_10 rfl ?_
      refine m_g43 (z := (H2_0 0 43)) rfl dX12_isMoreOf_11 rfl ?_
      refine g_iconst dX12_isMoreOf_14 ?_
      refine g_isub dX12_isMoreOf_15 ?_
      refine m_p43 rfl dX12_isMoreOf_16 ?_
      have hB116 := bs_43 (z := ((H2_0 0 43) - 1)) hB2_0 ⟨by have q0 := b0_43 hB2_0; omega, by have q0 := b0_43 hB2_0; omega⟩
      refine g_aload_n dX12_isMoreOf_19 rfl ?_
      refine m_g43 (z := ((H2_0 0 43) - 1)) rfl dX12_isMoreOf_20 up_same ?_
      have f117 := b0_43 hB2_0
      refine g_if_ne (tgt := 35) dX12_isMoreOf_23 (by decide) ⟨by have q0 := b0_43 hB2_0; omega, by have q0 := b0_43 hB2_0; omega⟩ (fun k118 => ?_) (fun k118 => ?_)
      · have hlv := hsr.2.2 (z - 1) (by omega) (by omega)
        unfold levR at hlv
        simp only [hz13, r6a, r7a, r26a, r27a] at hlv
        have iv119 : SR (up H2_0 0 43 ((H2_0 0 43) - 1)) := hsr.pop (z := z) (by omega) (by omega) (by have q := (up_same : (up H2_0 0 43 ((H2_0 0 43) - 1)) 0 43 = ((H2_0 0 43) - 1)); omega) ((up_k k13).trans rfl) (fun j => ((up_o (by decide)).trans rfl)) (fun j => ((up_o (by decide)).trans rfl)) (fun j => ((up_o (by decide)).trans rfl)) (fun j => ((up_o (by decide)).trans rfl)) (fun j => ((up_o (by decide)).trans rfl))
        refine g_bipush dX12_isMoreOf_35 (by decide) ?_
        refine g_aload_n dX12_isMoreOf_37 rfl ?_
        refine m_g13 (z := (P 0 13)) rfl dX12_isMoreOf_38 ((up_k (by decide)).trans ((hE2_0.1 13 rfl).trans rfl)) ?_
        refine g_imul dX12_isMoreOf_41 ?_
        refine g_aload_n dX12_isMoreOf_42 rfl ?_
        refine m_g41 rfl dX12_isMoreOf_43 ?_
        refine g_aload_n dX12_isMoreOf_46 rfl ?_
        refine m_g43 (z := ((H2_0 0 43) - 1)) rfl dX12_isMoreOf_47 up_same ?_
        refine m_l26 (z := (P 26 ((H2_0 0 43) - 1))) dX12_isMoreOf_50 ⟨by have q0 := b0_43 hB2_0; omega, by have q0 := b0_43 hB2_0; omega⟩ ((up_o (by decide)).trans ((congrFun (hE2_0.2 26 rfl rfl) _).trans rfl)) ?_
        refine g_iadd dX12_isMoreOf_51 ?_
        have h26v : ((24 * (P 0 13)) + (P 26 ((H2_0 0 43) - 1))) = 24 * P 0 13 + P 26 (z - 1) := by rw [hz]
        refine g_istore_n (l1 := [(3, vI ((24 * (P 0 13)) + (P 26 ((H2_0 0 43) - 1)))), (0, vR 0), (2, vI x2_2_0)]) dX12_isMoreOf_52 (by decide) rfl ?_
        refine g_aload_n dX12_isMoreOf_53 rfl ?_
        refine m_g42 rfl dX12_isMoreOf_54 ?_
        refine g_aload_n dX12_isMoreOf_57 rfl ?_
        refine m_g43 (z := ((H2_0 0 43) - 1)) rfl dX12_isMoreOf_58 up_same ?_
        refine m_l27 (z := (P 27 ((H2_0 0 43) - 1))) dX12_isMoreOf_61 ⟨by have q0 := b0_43 hB2_0; omega, by have q0 := b0_43 hB2_0; omega⟩ ((up_o (by decide)).trans ((congrFun (hE2_0.2 27 rfl rfl) _).trans rfl)) ?_
        have h27v : (P 27 ((H2_0 0 43) - 1)) = P 27 (z - 1) := by rw [hz]
        refine g_istore (l1 := [(4, vI (P 27 ((H2_0 0 43) - 1))), (3, vI ((24 * (P 0 13)) + (P 26 ((H2_0 0 43) - 1)))), (0, vR 0), (2, vI x2_2_0)]) dX12_isMoreOf_62 (by decide) rfl ?_
        refine g_aload_n dX12_isMoreOf_64 rfl ?_
        refine m_g40 rfl dX12_isMoreOf_65 ?_
        refine g_aload_n dX12_isMoreOf_68 rfl ?_
        refine m_g43 (z := ((H2_0 0 43) - 1)) rfl dX12_isMoreOf_69 up_same ?_
        refine g_aload_n dX12_isMoreOf_72 rfl ?_
        refine m_g40 rfl dX12_isMoreOf_73 ?_
        refine g_aload_n dX12_isMoreOf_76 rfl ?_
        refine m_g43 (z := ((H2_0 0 43) - 1)) rfl dX12_isMoreOf_77 up_same ?_
        refine m_l25 (z := (H2_0 25 ((H2_0 0 43) - 1))) dX12_isMoreOf_80 ⟨by have q0 := b0_43 hB2_0; omega, by have q0 := b0_43 hB2_0; omega⟩ ((up_o (by decide)).trans rfl) ?_
        refine g_aload_n dX12_isMoreOf_81 rfl ?_
        refine g_aload_n dX12_isMoreOf_82 rfl ?_
        refine m_g13 (z := (P 0 13)) rfl dX12_isMoreOf_83 ((up_k (by decide)).trans ((hE2_0.1 13 rfl).trans rfl)) ?_
        refine g_aload_n dX12_isMoreOf_86 rfl ?_
        refine m_g20 rfl dX12_isMoreOf_87 ?_
        refine g_iconst dX12_isMoreOf_90 ?_
        refine g_iload_n dX12_isMoreOf_91 rfl ?_
        refine g_imul dX12_isMoreOf_92 ?_
        refine g_iload dX12_isMoreOf_93 rfl ?_
        refine g_iadd dX12_isMoreOf_95 ?_
        refine m_l8 (z := (P 8 ((2 * ((24 * (P 0 13)) + (P 26 ((H2_0 0 43) - 1)))) + (P 27 ((H2_0 0 43) - 1))))) dX12_isMoreOf_96 ⟨by have q0 := b0_13 hB; have q1 := bl_26 (k := ((H2_0 0 43) - 1)) hB; have q2 := bl_27 (k := ((H2_0 0 43) - 1)) hB; omega, by have q0 := b0_13 hB; have q1 := bl_26 (k := ((H2_0 0 43) - 1)) hB; have q2 := bl_27 (k := ((H2_0 0 43) - 1)) hB; omega⟩ ((up_o (by decide)).trans ((congrFun (hE2_0.2 8 rfl rfl) _).trans rfl)) ?_
        have f120 := b0_13 hB
        have f121 := bl_8 (k := ((2 * ((24 * (P 0 13)) + (P 26 ((H2_0 0 43) - 1)))) + (P 27 ((H2_0 0 43) - 1)))) hB
        refine g_vI (av := [vI (P 0 13), vI (P 8 ((2 * ((24 * (P 0 13)) + (P 26 ((H2_0 0 43) - 1)))) + (P 27 ((H2_0 0 43) - 1))))]) (o := 0) (st := [vI (H2_0 25 ((H2_0 0 43) - 1)), vI ((H2_0 0 43) - 1), vR 25]) (m_X12_valuesOf G (up H2_0 0 43 ((H2_0 0 43) - 1)) (P 0 13) (P 8 ((2 * ((24 * (P 0 13)) + (P 26 ((H2_0 0 43) - 1)))) + (P 27 ((H2_0 0 43) - 1)))) ⟨by have q0 := b0_13 hB; omega, by have q0 := b0_13 hB; omega⟩ ⟨by have q0 := bl_8 (k := ((2 * ((24 * (P 0 13)) + (P 26 ((H2_0 0 43) - 1)))) + (P 27 ((H2_0 0 43) - 1)))) hB; omega, by have q0 := bl_8 (k := ((2 * ((24 * (P 0 13)) + (P 26 ((H2_0 0 43) - 1)))) + (P 27 ((H2_0 0 43) - 1)))) hB; omega⟩ hB116  _ (fun rc122 hc122 gc122_v => ⟨rc122, rfl, ?_⟩)) cf_X12_valuesOf t_1756 rfl (by decide) rfl rfl rfl (Nat.le_of_ble_eq_true rfl) (by decide) rfl dX12_isMoreOf_97
        refine g_imul dX12_isMoreOf_100 ?_
        refine g_norm (fun r123 h_r123 e_r123 => ?_)
        refine g_iload_n dX12_isMoreOf_101 rfl ?_
        refine g_iadd dX12_isMoreOf_102 ?_
        refine g_norm (fun r124 h_r124 e_r124 => ?_)
        refine m_s25 dX12_isMoreOf_103 ⟨by have q0 := b0_43 hB2_0; omega, by have q0 := b0_43 hB2_0; omega⟩ ?_
        have hB125 := ba_25 (z := r124) (k := ((H2_0 0 43) - 1)) hB116 ⟨by omega, by omega⟩
        refine g_iload dX12_isMoreOf_104 rfl ?_
        refine g_iconst dX12_isMoreOf_106 ?_
        refine g_iadd dX12_isMoreOf_107 ?_
        refine g_aload_n dX12_isMoreOf_108 rfl ?_
        refine m_g19 rfl dX12_isMoreOf_109 ?_
        refine g_iload_n dX12_isMoreOf_112 rfl ?_
        refine m_l7 (z := (P 7 ((24 * (P 0 13)) + (P 26 ((H2_0 0 43) - 1))))) dX12_isMoreOf_113 ⟨by have q0 := b0_13 hB; have q1 := bl_26 (k := ((H2_0 0 43) - 1)) hB; omega, by have q0 := b0_13 hB; have q1 := bl_26 (k := ((H2_0 0 43) - 1)) hB; omega⟩ ((up_o (by decide)).trans ((up_o (by decide)).trans ((congrFun (hE2_0.2 7 rfl rfl) _).trans rfl))) ?_
        have f126 := bl_27 (k := ((H2_0 0 43) - 1)) hB
        have f127 := bl_7 (k := ((24 * (P 0 13)) + (P 26 ((H2_0 0 43) - 1)))) hB
        refine g_icmp_ge (tgt := 155) dX12_isMoreOf_114 (by decide) ⟨by have q0 := bl_27 (k := ((H2_0 0 43) - 1)) hB; omega, by have q0 := bl_27 (k := ((H2_0 0 43) - 1)) hB; omega⟩ ⟨by have q0 := bl_7 (k := ((24 * (P 0 13)) + (P 26 ((H2_0 0 43) - 1)))) hB; omega, by have q0 := bl_7 (k := ((24 * (P 0 13)) + (P 26 ((H2_0 0 43) - 1)))) hB; omega⟩ (fun k128 => ?_) (fun k128 => ?_)
        · refine g_aload_n dX12_isMoreOf_155 rfl ?_
          refine g_bipush dX12_isMoreOf_156 (by decide) ?_
          refine g_vV (av := [vI 41]) (o := 0) (st := []) (m_X12_must G (up (up H2_0 0 43 ((H2_0 0 43) - 1)) 25 ((H2_0 0 43) - 1) r124) 41 (by decide) hB125 (by have q0 := (((up_o (by decide)).trans ((up_k (by decide)).trans rfl)) : (up (up H2_0 0 43 ((H2_0 0 43) - 1)) 25 ((H2_0 0 43) - 1) r124) 0 3 = (H2_0 0 3)); have q1 := b0_3 hB2_0; have q2 := (((up_o (by decide)).trans ((up_k (by decide)).trans rfl)) : (up (up H2_0 0 43 ((H2_0 0 43) - 1)) 25 ((H2_0 0 43) - 1) r124) 0 4 = (H2_0 0 4)); have q3 := b0_4 hB2_0; have q4 := (((up_o (by decide)).trans ((up_k (by decide)).trans rfl)) : (up (up H2_0 0 43 ((H2_0 0 43) - 1)) 25 ((H2_0 0 43) - 1) r124) 0 5 = (H2_0 0 5)); have q5 := b0_5 hB2_0; omega) _ (fun Pc129 hBc129 hFc129 gc129_lx gc129_mo gc129_pe gc129_ad => ⟨rfl, ?_⟩)) cf_X12_must t_1768 rfl (by decide) rfl rfl rfl (Nat.le_of_ble_eq_true rfl) (by decide) rfl dX12_isMoreOf_158
          have z130 : (up (up H2_0 0 43 ((H2_0 0 43) - 1)) 25 ((H2_0 0 43) - 1) r124) 0 4 = (H2_0 0 4) := ((up_o (by decide)).trans ((up_k (by decide)).trans rfl))
          have z131 : (up (up H2_0 0 43 ((H2_0 0 43) - 1)) 25 ((H2_0 0 43) - 1) r124) 0 8 = (H2_0 0 8) := ((up_o (by decide)).trans ((up_k (by decide)).trans rfl))
          refine g_aload_n dX12_isMoreOf_161 rfl ?_
          refine m_g21 rfl dX12_isMoreOf_162 ?_
          refine g_iload_n dX12_isMoreOf_165 rfl ?_
          refine m_l9 (z := (P 9 ((24 * (P 0 13)) + (P 26 ((H2_0 0 43) - 1))))) dX12_isMoreOf_166 ⟨by have q0 := b0_13 hB; have q1 := bl_26 (k := ((H2_0 0 43) - 1)) hB; omega, by have q0 := b0_13 hB; have q1 := bl_26 (k := ((H2_0 0 43) - 1)) hB; omega⟩ ((congrFun (hFc129.2 9 rfl rfl) _).trans ((up_o (by decide)).trans ((up_o (by decide)).trans ((congrFun (hE2_0.2 9 rfl rfl) _).trans rfl)))) ?_
          refine g_aload_n dX12_isMoreOf_167 rfl ?_
          refine m_g40 rfl dX12_isMoreOf_168 ?_
          refine g_aload_n dX12_isMoreOf_171 rfl ?_
          refine m_g43 (z := ((H2_0 0 43) - 1)) rfl dX12_isMoreOf_172 ((hFc129.1 43 rfl).trans ((up_o (by decide)).trans up_same)) ?_
          refine m_l25 (z := r124) dX12_isMoreOf_175 ⟨by have q0 := b0_43 hB2_0; omega, by have q0 := b0_43 hB2_0; omega⟩ ((congrFun (hFc129.2 25 rfl rfl) _).trans up_same) ?_
          refine g_iadd dX12_isMoreOf_176 ?_
          refine g_norm (fun r132 h_r132 e_r132 => ?_)
          refine g_istore_n (l1 := [(2, vI r132), (4, vI (P 27 ((H2_0 0 43) - 1))), (3, vI ((24 * (P 0 13)) + (P 26 ((H2_0 0 43) - 1)))), (0, vR 0)]) dX12_isMoreOf_177 (by decide) rfl ?_
          refine g_goto (tgt := 2) dX12_isMoreOf_178 (by decide) ?_
          refine g_forget (l1 := [(0, vR 0), (2, vI r132)]) (by intro q hq; simp only [List.mem_cons, List.not_mem_nil, or_false] at hq ⊢; rcases hq with rfl | rfl <;> simp) ?_
          exact ih2_0 r132 ⟨by omega, by omega⟩ _ hBc129 (FrM.c (FrM.a (FrM.s (FrM.c FrM.rf hE2_0 rfl) rfl) rfl rfl) hFc129 rfl) (by have q0 := b0_8 hBc129; omega) (by have q0 := b0_4 hBc129; omega) (by have q0 := b0_3 hBc129; have q1 := b0_4 hBc129; have q2 := b0_5 hBc129; omega) (SR.fr (F := ([3, 4, 5, 6, 7, 8, 9, 12], [25])) iv119 (FrM.c (FrM.a FrM.rf rfl rfl) hFc129 rfl) rfl) (by have q0 := (((hFc129.1 43 rfl).trans ((up_o (by decide)).trans up_same)) : Pc129 0 43 = ((H2_0 0 43) - 1)); have q1 := b0_43 hB2_0; omega)
        · refine g_aload_n dX12_isMoreOf_117 rfl ?_
          refine g_bipush dX12_isMoreOf_118 (by decide) ?_
          refine g_vV (av := [vI 44]) (o := 0) (st := []) (m_X12_must G (up (up H2_0 0 43 ((H2_0 0 43) - 1)) 25 ((H2_0 0 43) - 1) r124) 44 (by decide) hB125 (by have q0 := (((up_o (by decide)).trans ((up_k (by decide)).trans rfl)) : (up (up H2_0 0 43 ((H2_0 0 43) - 1)) 25 ((H2_0 0 43) - 1) r124) 0 3 = (H2_0 0 3)); have q1 := b0_3 hB2_0; have q2 := (((up_o (by decide)).trans ((up_k (by decide)).trans rfl)) : (up (up H2_0 0 43 ((H2_0 0 43) - 1)) 25 ((H2_0 0 43) - 1) r124) 0 4 = (H2_0 0 4)); have q3 := b0_4 hB2_0; have q4 := (((up_o (by decide)).trans ((up_k (by decide)).trans rfl)) : (up (up H2_0 0 43 ((H2_0 0 43) - 1)) 25 ((H2_0 0 43) - 1) r124) 0 5 = (H2_0 0 5)); have q5 := b0_5 hB2_0; omega) _ (fun Pc133 hBc133 hFc133 gc133_lx gc133_mo gc133_pe gc133_ad => ⟨rfl, ?_⟩)) cf_X12_must t_1768 rfl (by decide) rfl rfl rfl (Nat.le_of_ble_eq_true rfl) (by decide) rfl dX12_isMoreOf_120
          have z134 : (up (up H2_0 0 43 ((H2_0 0 43) - 1)) 25 ((H2_0 0 43) - 1) r124) 0 4 = (H2_0 0 4) := ((up_o (by decide)).trans ((up_k (by decide)).trans rfl))
          have z135 : (up (up H2_0 0 43 ((H2_0 0 43) - 1)) 25 ((H2_0 0 43) - 1) r124) 0 8 = (H2_0 0 8) := ((up_o (by decide)).trans ((up_k (by decide)).trans rfl))
          have hsr3 := (SR.fr (F := ([3, 4, 5, 6, 7, 8, 9, 12], [25])) iv119 (FrM.c (FrM.a FrM.rf rfl rfl) hFc133 rfl) rfl)
          have hcf3 := (CF.fr (F := ([3, 4, 5, 6, 7, 8, 9, 12, 43], [25])) v_CF (FrM.c (FrM.a (FrM.s (FrM.c FrM.rf hE2_0 rfl) rfl) rfl rfl) hFc133 rfl) rfl)
          have h43c := (((hFc133.1 43 rfl).trans ((up_o (by decide)).trans up_same)) : Pc133 0 43 = ((H2_0 0 43) - 1))
          have h13c := (((hFc133.1 13 rfl).trans ((up_o (by decide)).trans ((up_k (by decide)).trans ((hE2_0.1 13 rfl).trans rfl)))) : Pc133 0 13 = (P 0 13))
          have r6c : ∀ j, Pc133 6 j = P 6 j := fun j => ((congrFun (hFc133.2 6 rfl rfl) _).trans ((up_o (by decide)).trans ((up_o (by decide)).trans ((congrFun (hE2_0.2 6 rfl rfl) _).trans rfl))))
          have r7c : ∀ j, Pc133 7 j = P 7 j := fun j => ((congrFun (hFc133.2 7 rfl rfl) _).trans ((up_o (by decide)).trans ((up_o (by decide)).trans ((congrFun (hE2_0.2 7 rfl rfl) _).trans rfl))))
          have r8c : ∀ j, Pc133 8 j = P 8 j := fun j => ((congrFun (hFc133.2 8 rfl rfl) _).trans ((up_o (by decide)).trans ((up_o (by decide)).trans ((congrFun (hE2_0.2 8 rfl rfl) _).trans rfl))))
          refine g_aload_n dX12_isMoreOf_123 rfl ?_
          refine m_g42 rfl dX12_isMoreOf_124 ?_
          refine g_aload_n dX12_isMoreOf_127 rfl ?_
          refine m_g43 (z := ((H2_0 0 43) - 1)) rfl dX12_isMoreOf_128 ((hFc133.1 43 rfl).trans ((up_o (by decide)).trans up_same)) ?_
          refine g_iload dX12_isMoreOf_131 rfl ?_
          refine g_iconst dX12_isMoreOf_133 ?_
          refine g_iadd dX12_isMoreOf_134 ?_
          refine m_s27 dX12_isMoreOf_135 ⟨by have q0 := b0_43 hB2_0; omega, by have q0 := b0_43 hB2_0; omega⟩ ?_
          have hB136 := ba_27 (z := ((P 27 ((H2_0 0 43) - 1)) + 1)) (k := ((H2_0 0 43) - 1)) hBc133 ⟨by have q0 := bl_27 (k := ((H2_0 0 43) - 1)) hB; omega, by have q0 := bl_27 (k := ((H2_0 0 43) - 1)) hB; omega⟩
          refine g_aload_n dX12_isMoreOf_136 rfl ?_
          refine g_aload_n dX12_isMoreOf_137 rfl ?_
          refine m_g20 rfl dX12_isMoreOf_138 ?_
          refine g_iconst dX12_isMoreOf_141 ?_
          refine g_iload_n dX12_isMoreOf_142 rfl ?_
          refine g_imul dX12_isMoreOf_143 ?_
          refine g_iload dX12_isMoreOf_144 rfl ?_
          refine g_iadd dX12_isMoreOf_146 ?_
          refine g_iconst dX12_isMoreOf_147 ?_
          refine g_iadd dX12_isMoreOf_148 ?_
          refine m_l8 (z := (P 8 (((2 * ((24 * (P 0 13)) + (P 26 ((H2_0 0 43) - 1)))) + (P 27 ((H2_0 0 43) - 1))) + 1))) dX12_isMoreOf_149 ⟨by have q0 := b0_13 hB; have q1 := bl_26 (k := ((H2_0 0 43) - 1)) hB; have q2 := bl_27 (k := ((H2_0 0 43) - 1)) hB; omega, by have q0 := b0_13 hB; have q1 := bl_26 (k := ((H2_0 0 43) - 1)) hB; have q2 := bl_27 (k := ((H2_0 0 43) - 1)) hB; omega⟩ ((up_o (by decide)).trans ((congrFun (hFc133.2 8 rfl rfl) _).trans ((up_o (by decide)).trans ((up_o (by decide)).trans ((congrFun (hE2_0.2 8 rfl rfl) _).trans rfl))))) ?_
          have hf1 : FrM ([3, 4, 5, 6, 7, 8, 9, 12], [25, 26, 27]) _ (up Pc133 27 ((H2_0 0 43) - 1) ((P 27 ((H2_0 0 43) - 1)) + 1)) := FrM.a FrM.rf rfl rfl
          have h26d : (up Pc133 27 ((H2_0 0 43) - 1) ((P 27 ((H2_0 0 43) - 1)) + 1)) 26 (z - 1) = P 26 (z - 1) := ((up_o (by decide)).trans ((congrFun (hFc133.2 26 rfl rfl) _).trans ((up_o (by decide)).trans ((up_o (by decide)).trans ((congrFun (hE2_0.2 26 rfl rfl) _).trans rfl)))))
          have h27d : (up Pc133 27 ((H2_0 0 43) - 1) ((P 27 ((H2_0 0 43) - 1)) + 1)) 27 (z - 1) = (P 27 ((H2_0 0 43) - 1)) + 1 := by rw [show z - 1 = ((H2_0 0 43) - 1) by omega]; exact up_same
          have o26d : ∀ j : Int, j ≠ z - 1 → (up Pc133 27 ((H2_0 0 43) - 1) ((P 27 ((H2_0 0 43) - 1)) + 1)) 26 j = _ := fun j _ => ((up_o (by decide)).trans rfl)
          have o27d : ∀ j : Int, j ≠ z - 1 → (up Pc133 27 ((H2_0 0 43) - 1) ((P 27 ((H2_0 0 43) - 1)) + 1)) 27 j = _ := fun j hj9 => (by have hj : j ≠ ((H2_0 0 43) - 1) := (by omega); exact ((up_k hj).trans rfl))
          have q6d := bl_6 (k := 24 * P 0 13 + P 26 (z - 1)) hB
          have q27d := bl_27 (k := z - 1) hB
          have f137 := bl_8 (k := (((2 * ((24 * (P 0 13)) + (P 26 ((H2_0 0 43) - 1)))) + (P 27 ((H2_0 0 43) - 1))) + 1)) hB
          refine g_vV (av := [vI (P 8 (((2 * ((24 * (P 0 13)) + (P 26 ((H2_0 0 43) - 1)))) + (P 27 ((H2_0 0 43) - 1))) + 1))]) (o := 0) (st := []) (m_X12_opensPattern G (up Pc133 27 ((H2_0 0 43) - 1) ((P 27 ((H2_0 0 43) - 1)) + 1)) (P 8 (((2 * ((24 * (P 0 13)) + (P 26 ((H2_0 0 43) - 1)))) + (P 27 ((H2_0 0 43) - 1))) + 1)) ⟨by have q0 := bl_8 (k := (((2 * ((24 * (P 0 13)) + (P 26 ((H2_0 0 43) - 1)))) + (P 27 ((H2_0 0 43) - 1))) + 1)) hB; omega, by have q0 := bl_8 (k := (((2 * ((24 * (P 0 13)) + (P 26 ((H2_0 0 43) - 1)))) + (P 27 ((H2_0 0 43) - 1))) + 1)) hB; omega⟩ hB136 (by have q0 := bl_8 (k := (((2 * ((24 * (P 0 13)) + (P 26 ((H2_0 0 43) - 1)))) + (P 27 ((H2_0 0 43) - 1))) + 1)) hB; have q1 := (((up_o (by decide)).trans ((hFc133.1 43 rfl).trans ((up_o (by decide)).trans up_same))) : (up Pc133 27 ((H2_0 0 43) - 1) ((P 27 ((H2_0 0 43) - 1)) + 1)) 0 43 = ((H2_0 0 43) - 1)); have q2 := b0_43 hB2_0; omega) _ (fun Pc138 hBc138 hFc138 gc138_o gc138_k gc138_z gc138_kq gc138_zq => ⟨rfl, ?_⟩)) cf_X12_opensPattern t_1780 rfl (by decide) rfl rfl rfl (Nat.le_of_ble_eq_true rfl) (by decide) rfl dX12_isMoreOf_150
          have z139 : (up Pc133 27 ((H2_0 0 43) - 1) ((P 27 ((H2_0 0 43) - 1)) + 1)) 0 43 = ((H2_0 0 43) - 1) := ((up_o (by decide)).trans ((hFc133.1 43 rfl).trans ((up_o (by decide)).trans up_same)))
          have e43p := (((up_o (by decide)).trans ((hFc133.1 43 rfl).trans ((up_o (by decide)).trans up_same))) : (up Pc133 27 ((H2_0 0 43) - 1) ((P 27 ((H2_0 0 43) - 1)) + 1)) 0 43 = ((H2_0 0 43) - 1))
          rw [e43p, ← hz] at gc138_o gc138_k gc138_kq
          have hsrN := hsr3.push (z := z - 1) (b := P 0 13) (con := P 26 (z - 1)) (fld := (P 27 ((H2_0 0 43) - 1)) + 1) hcf3 (by omega) h13c hf1 o26d h26d o27d h27d ⟨by omega, by rw [r7c, ← h26v]; omega⟩ (by rw [r6c]; omega) (by rw [r6c]; omega) (Eq.trans (congrArg (P 8) (by rw [← h26v]; omega)) (r8c _).symm) hFc138 gc138_o gc138_k gc138_kq
          have iv140 : SR Pc138 := hsrN
          refine g_iconst dX12_isMoreOf_153 ?_
          exact g_retZ dX12_isMoreOf_154 rfl (by decide) (hQ 1 (by decide) _ hBc138 (FrM.c (FrM.a (FrM.c (FrM.a (FrM.s (FrM.c FrM.rf hE2_0 rfl) rfl) rfl rfl) hFc133 rfl) rfl rfl) hFc138 rfl) (by have q0 := (((hFc138.1 3 rfl).trans ((up_o (by decide)).trans rfl)) : Pc138 0 3 = (Pc133 0 3)); have q1 := b0_3 hBc133; have q2 := (((hFc138.1 4 rfl).trans ((up_o (by decide)).trans rfl)) : Pc138 0 4 = (Pc133 0 4)); have q3 := b0_4 hBc133; have q4 := (((hFc138.1 5 rfl).trans ((up_o (by decide)).trans rfl)) : Pc138 0 5 = (Pc133 0 5)); have q5 := b0_5 hBc133; omega) (by have q0 := (((hFc138.1 4 rfl).trans ((up_o (by decide)).trans rfl)) : Pc138 0 4 = (Pc133 0 4)); have q1 := b0_4 hBc133; omega) (by have q0 := (((hFc138.1 8 rfl).trans ((up_o (by decide)).trans rfl)) : Pc138 0 8 = (Pc133 0 8)); have q1 := b0_8 hBc133; omega) (by first | exact Or.inl ⟨rfl, iv140⟩ | exact Or.inr rfl))
      · refine g_aload_n dX12_isMoreOf_26 rfl ?_
        refine m_g40 rfl dX12_isMoreOf_27 ?_
        refine g_iconst dX12_isMoreOf_30 ?_
        refine g_iload_n dX12_isMoreOf_31 rfl ?_
        refine m_s25 dX12_isMoreOf_32 (by decide) ?_
        have hB141 := ba_25 (z := x2_2_0) (k := 0) hB116 ⟨by omega, by omega⟩
        refine g_iconst dX12_isMoreOf_33 ?_
        exact g_retZ dX12_isMoreOf_34 rfl (by decide) (hQ 0 (by decide) _ hB141 (FrM.a (FrM.s (FrM.c FrM.rf hE2_0 rfl) rfl) rfl rfl) (by have q0 := (((up_o (by decide)).trans ((up_k (by decide)).trans rfl)) : (up (up H2_0 0 43 ((H2_0 0 43) - 1)) 25 0 x2_2_0) 0 3 = (H2_0 0 3)); have q1 := b0_3 hB2_0; have q2 := (((up_o (by decide)).trans ((up_k (by decide)).trans rfl)) : (up (up H2_0 0 43 ((H2_0 0 43) - 1)) 25 0 x2_2_0) 0 4 = (H2_0 0 4)); have q3 := b0_4 hB2_0; have q4 := (((up_o (by decide)).trans ((up_k (by decide)).trans rfl)) : (up (up H2_0 0 43 ((H2_0 0 43) - 1)) 25 0 x2_2_0) 0 5 = (H2_0 0 5)); have q5 := b0_5 hB2_0; omega) (by have q0 := (((up_o (by decide)).trans ((up_k (by decide)).trans rfl)) : (up (up H2_0 0 43 ((H2_0 0 43) - 1)) 25 0 x2_2_0) 0 4 = (H2_0 0 4)); have q1 := b0_4 hB2_0; omega) (by have q0 := (((up_o (by decide)).trans ((up_k (by decide)).trans rfl)) : (up (up H2_0 0 43 ((H2_0 0 43) - 1)) 25 0 x2_2_0) 0 8 = (H2_0 0 8)); have q1 := b0_8 hB2_0; omega) (by first | exact Or.inl ⟨rfl, hNONE⟩ | exact Or.inr rfl))
  refine g_forget (l1 := [(0, vR 0), (2, vI a1)]) (by intro q hq; simp only [List.mem_cons, List.not_mem_nil, or_false] at hq ⊢; rcases hq with rfl | rfl <;> simp) ?_
  exact L2_0 _ a1 ⟨by omega, by omega⟩ _ hB FrM.rf (by have q0 := b0_8 hB; omega) (by have q0 := b0_4 hB; omega) (by have q0 := b0_3 hB; have q1 := b0_4 hB; have q2 := b0_5 hB; omega) ivI_SR (Nat.lt_succ_self _)
set_option maxRecDepth 100000 in
set_option maxHeartbeats 4000000 in
theorem m_X12_valueRead (G : GT) (P : PH) (a1 : Int) (h_a1 : 0 ≤ a1 ∧ a1 ≤ 4) (hB : BdM P) (p_lx : (P 0 3 = 0 ∨ P 0 4 + 1 ≤ P 0 5) ∧ P 0 4 ≤ P 0 5) (v_CF : CF P) (Q : Option PV → PH → Prop) (hQ : ∀ (r : Int) (_ : (-2147483648) ≤ r ∧ r ≤ 2147483647) (P1 : PH) (_ : BdM P1) (_ : FrM ([3, 4, 5, 6, 7, 8, 9, 12, 43], [24, 25, 26, 27]) P P1) (_ : (P1 0 3 = 0 ∨ P1 0 4 + 1 ≤ P1 0 5) ∧ P1 0 4 ≤ P1 0 5) (_ : P 0 4 ≤ P1 0 4) (_ : P 0 8 ≤ 0 ∨ 0 < P1 0 8), Q (some (vI r)) P1) : Ct WSM G 5 iX12_valueRead [vR 0, vI a1] P Q := by
  refine Ct.of (by decide) (l0 := [(0, vR 0), (1, vI a1)]) rfl (Nat.le_of_ble_eq_true rfl) ?_
  refine g_aload_n dX12_valueRead_0 rfl ?_
  refine g_iconst dX12_valueRead_1 ?_
  refine m_p43 rfl dX12_valueRead_2 ?_
  have hB1 := bs_43 (z := 0) hB (by decide)
  refine g_aload_n dX12_valueRead_5 rfl ?_
  refine g_iload_n dX12_valueRead_6 rfl ?_
  refine g_vV (av := [vI a1]) (o := 0) (st := []) (m_X12_opensPattern G (up P 0 43 0) a1 ⟨by omega, by omega⟩ hB1 (by have q0 := (up_same : (up P 0 43 0) 0 43 = 0); omega) _ (fun Pc2 hBc2 hFc2 gc2_o gc2_k gc2_z gc2_kq gc2_zq => ⟨rfl, ?_⟩)) cf_X12_opensPattern t_1780 rfl (by decide) rfl rfl rfl (Nat.le_of_ble_eq_true rfl) (by decide) rfl dX12_valueRead_7
  have z3 : (up P 0 43 0) 0 43 = 0 := up_same
  have e43 := (up_same : (up P 0 43 0) 0 43 = 0)
  rw [e43] at gc2_o gc2_k
  have iv4 : SR Pc2 := SR.start (kd := a1) (by omega) gc2_k (by omega)
  refine g_iconst dX12_valueRead_10 ?_
  refine g_istore_n (l1 := [(2, vI 0), (0, vR 0), (1, vI a1)]) dX12_valueRead_11 (by decide) rfl ?_
  refine g_iconst dX12_valueRead_12 ?_
  refine g_istore_n (l1 := [(3, vI 1), (2, vI 0), (0, vR 0), (1, vI a1)]) dX12_valueRead_13 (by decide) rfl ?_
  have L14_4 : ∀ (n14_4 : Nat) (x14_3_4 : Int) (h_x14_3_4 : 0 ≤ x14_3_4 ∧ x14_3_4 ≤ 1) (H14_4 : PH) (hB14_4 : BdM H14_4) (hE14_4 : FrM ([3, 4, 5, 6, 7, 8, 9, 12, 43], [24, 25, 26, 27]) Pc2 H14_4) (i14_0_4 : (x14_3_4 = 1 ∧ SR H14_4) ∨ x14_3_4 = 0) (i14_1_4 : P 0 8 ≤ 0 ∨ 0 < H14_4 0 8) (i14_2_4 : P 0 4 ≤ H14_4 0 4) (i14_3_4 : (H14_4 0 3 = 0 ∨ H14_4 0 4 + 1 ≤ H14_4 0 5) ∧ H14_4 0 4 ≤ H14_4 0 5) (hm14_4 : (1602 - H14_4 0 4 - 2000 * H14_4 0 8 : Int).toNat < n14_4), Go WSM G 5 iX12_valueRead 14 [(0, vR 0), (3, vI x14_3_4)] [] H14_4 Q := by
    intro n14_4
    induction n14_4 with
    | zero => intro x14_3_4 h_x14_3_4 H14_4 hB14_4 hE14_4 i14_0_4 i14_1_4 i14_2_4 i14_3_4 hm14_4; exact absurd hm14_4 (Nat.not_lt_zero _)
    | succ n14_4 ih14_4 =>
    intro x14_3_4 h_x14_3_4 H14_4 hB14_4 hE14_4 i14_0_4 i14_1_4 i14_2_4 i14_3_4 hm14_4
    refine g_iload_n dX12_valueRead_14 rfl ?_
    refine g_if_eq (tgt := 194) dX12_valueRead_15 (by decide) ⟨by omega, by omega⟩ (fun k123 => ?_) (fun k123 => ?_)
    · refine g_aload_n dX12_valueRead_194 rfl ?_
      refine m_g40 rfl dX12_valueRead_195 ?_
      refine g_iconst dX12_valueRead_198 ?_
      refine m_l25 (z := (H14_4 25 0)) dX12_valueRead_199 (by decide) rfl ?_
      exact g_retI dX12_valueRead_200 rfl (hQ (H14_4 25 0) ⟨by have q0 := bl_25 (k := 0) hB14_4; omega, by have q0 := bl_25 (k := 0) hB14_4; omega⟩ _ hB14_4 (FrM.c (FrM.c (FrM.s FrM.rf rfl) hFc2 rfl) hE14_4 rfl) (by have q0 := bl_25 (k := 0) hB14_4; have q1 := b0_3 hB14_4; have q2 := b0_4 hB14_4; have q3 := b0_5 hB14_4; omega) (by have q0 := bl_25 (k := 0) hB14_4; have q1 := b0_4 hB14_4; omega) (by have q0 := bl_25 (k := 0) hB14_4; have q1 := b0_8 hB14_4; omega))
    · refine g_aload_n dX12_valueRead_18 rfl ?_
      refine m_g8 (z := (H14_4 0 8)) rfl dX12_valueRead_19 rfl ?_
      have f124 := b0_8 hB14_4
      refine g_if_ne (tgt := 194) dX12_valueRead_22 (by decide) ⟨by have q0 := b0_8 hB14_4; omega, by have q0 := b0_8 hB14_4; omega⟩ (fun k125 => ?_) (fun k125 => ?_)
      · refine g_aload_n dX12_valueRead_194 rfl ?_
        refine m_g40 rfl dX12_valueRead_195 ?_
        refine g_iconst dX12_valueRead_198 ?_
        refine m_l25 (z := (H14_4 25 0)) dX12_valueRead_199 (by decide) rfl ?_
        exact g_retI dX12_valueRead_200 rfl (hQ (H14_4 25 0) ⟨by have q0 := bl_25 (k := 0) hB14_4; omega, by have q0 := bl_25 (k := 0) hB14_4; omega⟩ _ hB14_4 (FrM.c (FrM.c (FrM.s FrM.rf rfl) hFc2 rfl) hE14_4 rfl) (by have q0 := bl_25 (k := 0) hB14_4; have q1 := b0_3 hB14_4; have q2 := b0_4 hB14_4; have q3 := b0_5 hB14_4; omega) (by have q0 := bl_25 (k := 0) hB14_4; have q1 := b0_4 hB14_4; omega) (by have q0 := bl_25 (k := 0) hB14_4; have q1 := b0_8 hB14_4; omega))
      · have iv126 : SR H14_4 := (i14_0_4.resolve_right (by omega)).2
        refine g_aload_n dX12_valueRead_25 rfl ?_
        refine g_vV (av := []) (o := 0) (st := []) (m_X12_lex G H14_4  hB14_4  _ (fun Pc127 hBc127 hFc127 gc127_pe => ⟨rfl, ?_⟩)) cf_X12_lex t_1697 rfl (by decide) rfl rfl rfl (Nat.le_of_ble_eq_true rfl) (by decide) rfl dX12_valueRead_26
        refine g_aload_n dX12_valueRead_29 rfl ?_
        refine m_g8 (z := (Pc127 0 8)) rfl dX12_valueRead_30 rfl ?_
        have f128 := b0_8 hBc127
        refine g_if_le (tgt := 38) dX12_valueRead_33 (by decide) ⟨by have q0 := b0_8 hBc127; omega, by have q0 := b0_8 hBc127; omega⟩ (fun k129 => ?_) (fun k129 => ?_)
        · obtain ⟨z, hz⟩ : ∃ z, z = (H14_4 0 43) := ⟨_, rfl⟩
          have hsr0 := (SR.fr (F := ([8, 9], [])) iv126 (FrM.c FrM.rf hFc127 rfl) rfl)
          have h43a := (((hFc127.1 43 rfl).trans rfl) : Pc127 0 43 = (H14_4 0 43))
          have hsr01 := hsr0.1
          have hst := hsr0.2.1 ((H14_4 0 43)) (by omega) (by omega)
          have q24 : ∀ j, Pc127 24 j = _ := fun j => ((congrFun (hFc127.2 24 rfl rfl) _).trans rfl)
          rw [q24] at hst
          refine g_aload_n dX12_valueRead_38 rfl ?_
          refine m_g39 rfl dX12_valueRead_39 ?_
          refine g_aload_n dX12_valueRead_42 rfl ?_
          refine m_g43 (z := (H14_4 0 43)) rfl dX12_valueRead_43 ((hFc127.1 43 rfl).trans rfl) ?_
          refine m_l24 (z := (H14_4 24 (H14_4 0 43))) dX12_valueRead_46 ⟨by have q0 := b0_43 hB14_4; omega, by have q0 := b0_43 hB14_4; omega⟩ ((congrFun (hFc127.2 24 rfl rfl) _).trans rfl) ?_
          refine g_iconst dX12_valueRead_47 ?_
          have f130 := bl_24 (k := (H14_4 0 43)) hB14_4
          refine g_icmp_ne (tgt := 68) dX12_valueRead_48 (by decide) ⟨by have q0 := bl_24 (k := (H14_4 0 43)) hB14_4; omega, by have q0 := bl_24 (k := (H14_4 0 43)) hB14_4; omega⟩ (by decide) (fun k131 => ?_) (fun k131 => ?_)
          · refine g_aload_n dX12_valueRead_68 rfl ?_
            refine g_aload_n dX12_valueRead_69 rfl ?_
            refine m_g39 rfl dX12_valueRead_70 ?_
            refine g_aload_n dX12_valueRead_73 rfl ?_
            refine m_g43 (z := (H14_4 0 43)) rfl dX12_valueRead_74 ((hFc127.1 43 rfl).trans rfl) ?_
            refine m_l24 (z := (H14_4 24 (H14_4 0 43))) dX12_valueRead_77 ⟨by have q0 := b0_43 hB14_4; omega, by have q0 := b0_43 hB14_4; omega⟩ ((congrFun (hFc127.2 24 rfl rfl) _).trans rfl) ?_
            have r6p : ∀ j, Pc127 6 j = P 6 j := fun j => ((congrFun (hFc127.2 6 rfl rfl) _).trans ((congrFun (hE14_4.2 6 rfl rfl) _).trans ((congrFun (hFc2.2 6 rfl rfl) _).trans ((up_o (by decide)).trans rfl))))
            have r5p : ∀ j, Pc127 5 j = P 5 j := fun j => ((congrFun (hFc127.2 5 rfl rfl) _).trans ((congrFun (hE14_4.2 5 rfl rfl) _).trans ((congrFun (hFc2.2 5 rfl rfl) _).trans ((up_o (by decide)).trans rfl))))
            refine g_vI (av := [vI (H14_4 24 (H14_4 0 43))]) (o := 0) (st := []) (m_X12_conRead G Pc127 (H14_4 24 (H14_4 0 43)) ⟨by have q0 := bl_24 (k := (H14_4 0 43)) hB14_4; omega, by have q0 := bl_24 (k := (H14_4 0 43)) hB14_4; omega⟩ hBc127 (by have q0 := bl_24 (k := (H14_4 0 43)) hB14_4; have q1 := (((hFc127.1 3 rfl).trans rfl) : Pc127 0 3 = (H14_4 0 3)); have q2 := b0_3 hB14_4; have q3 := (((hFc127.1 4 rfl).trans rfl) : Pc127 0 4 = (H14_4 0 4)); have q4 := b0_4 hB14_4; have q5 := (((hFc127.1 5 rfl).trans rfl) : Pc127 0 5 = (H14_4 0 5)); have q6 := b0_5 hB14_4; omega) _ (fun rc132 hc132 Pc132 hBc132 hFc132 gc132_lx gc132_mo gc132_pe gc132_c => ⟨rc132, rfl, ?_⟩)) cf_X12_conRead t_1962 rfl (by decide) rfl rfl rfl (Nat.le_of_ble_eq_true rfl) (by decide) rfl dX12_valueRead_78
            have z133 : Pc127 0 4 = (H14_4 0 4) := ((hFc127.1 4 rfl).trans rfl)
            have z134 : Pc127 0 13 = (P 0 13) := ((hFc127.1 13 rfl).trans ((hE14_4.1 13 rfl).trans ((hFc2.1 13 rfl).trans ((up_k (by decide)).trans rfl))))
            have e13p := (((hFc127.1 13 rfl).trans ((hE14_4.1 13 rfl).trans ((hFc2.1 13 rfl).trans ((up_k (by decide)).trans rfl)))) : Pc127 0 13 = (P 0 13))
            have hcr := gc132_c
            simp only [e13p, r6p, r5p] at hcr
            refine g_istore (l1 := [(4, vI rc132), (0, vR 0), (3, vI x14_3_4)]) dX12_valueRead_81 (by decide) rfl ?_
            refine g_aload_n dX12_valueRead_83 rfl ?_
            refine m_g8 (z := (Pc132 0 8)) rfl dX12_valueRead_84 rfl ?_
            have f135 := b0_8 hBc132
            refine g_if_le (tgt := 92) dX12_valueRead_87 (by decide) ⟨by have q0 := b0_8 hBc132; omega, by have q0 := b0_8 hBc132; omega⟩ (fun k136 => ?_) (fun k136 => ?_)
            · refine g_aload_n dX12_valueRead_92 rfl ?_
              refine m_g19 rfl dX12_valueRead_93 ?_
              refine g_bipush dX12_valueRead_96 (by decide) ?_
              refine g_aload_n dX12_valueRead_98 rfl ?_
              refine m_g13 (z := (P 0 13)) rfl dX12_valueRead_99 ((hFc132.1 13 rfl).trans ((hFc127.1 13 rfl).trans ((hE14_4.1 13 rfl).trans ((hFc2.1 13 rfl).trans ((up_k (by decide)).trans rfl))))) ?_
              refine g_imul dX12_valueRead_102 ?_
              refine g_iload dX12_valueRead_103 rfl ?_
              refine g_iadd dX12_valueRead_105 ?_
              refine m_l7 (z := (P 7 ((24 * (P 0 13)) + rc132))) dX12_valueRead_106 ⟨by have q0 := b0_13 hB; omega, by have q0 := b0_13 hB; omega⟩ ((congrFun (hFc132.2 7 rfl rfl) _).trans ((congrFun (hFc127.2 7 rfl rfl) _).trans ((congrFun (hE14_4.2 7 rfl rfl) _).trans ((congrFun (hFc2.2 7 rfl rfl) _).trans ((up_o (by decide)).trans rfl))))) ?_
              have f137 := bl_7 (k := ((24 * (P 0 13)) + rc132)) hB
              refine g_if_ne (tgt := 133) dX12_valueRead_107 (by decide) ⟨by have q0 := bl_7 (k := ((24 * (P 0 13)) + rc132)) hB; omega, by have q0 := bl_7 (k := ((24 * (P 0 13)) + rc132)) hB; omega⟩ (fun k138 => ?_) (fun k138 => ?_)
              · refine g_aload_n dX12_valueRead_133 rfl ?_
                refine g_bipush dX12_valueRead_134 (by decide) ?_
                refine g_vV (av := [vI 40]) (o := 0) (st := []) (m_X12_must G Pc132 40 (by decide) hBc132 (by have q0 := b0_3 hBc132; have q1 := b0_4 hBc132; have q2 := b0_5 hBc132; omega) _ (fun Pc139 hBc139 hFc139 gc139_lx gc139_mo gc139_pe gc139_ad => ⟨rfl, ?_⟩)) cf_X12_must t_1768 rfl (by decide) rfl rfl rfl (Nat.le_of_ble_eq_true rfl) (by decide) rfl dX12_valueRead_136
                have hsr3 := (SR.fr (F := ([3, 4, 5, 6, 7, 8, 9, 12], [])) iv126 (FrM.c (FrM.c (FrM.c FrM.rf hFc127 rfl) hFc132 rfl) hFc139 rfl) rfl)
                have hcf3 := (CF.fr (F := ([3, 4, 5, 6, 7, 8, 9, 12, 43], [24, 25, 26, 27])) v_CF (FrM.c (FrM.c (FrM.c (FrM.c (FrM.c (FrM.s FrM.rf rfl) hFc2 rfl) hE14_4 rfl) hFc127 rfl) hFc132 rfl) hFc139 rfl) rfl)
                have h43c := (((hFc139.1 43 rfl).trans ((hFc132.1 43 rfl).trans ((hFc127.1 43 rfl).trans rfl))) : Pc139 0 43 = (H14_4 0 43))
                have h13c := (((hFc139.1 13 rfl).trans ((hFc132.1 13 rfl).trans ((hFc127.1 13 rfl).trans ((hE14_4.1 13 rfl).trans ((hFc2.1 13 rfl).trans ((up_k (by decide)).trans rfl)))))) : Pc139 0 13 = (P 0 13))
                have r6c : ∀ j, Pc139 6 j = P 6 j := fun j => ((congrFun (hFc139.2 6 rfl rfl) _).trans ((congrFun (hFc132.2 6 rfl rfl) _).trans ((congrFun (hFc127.2 6 rfl rfl) _).trans ((congrFun (hE14_4.2 6 rfl rfl) _).trans ((congrFun (hFc2.2 6 rfl rfl) _).trans ((up_o (by decide)).trans rfl))))))
                have r7c : ∀ j, Pc139 7 j = P 7 j := fun j => ((congrFun (hFc139.2 7 rfl rfl) _).trans ((congrFun (hFc132.2 7 rfl rfl) _).trans ((congrFun (hFc127.2 7 rfl rfl) _).trans ((congrFun (hE14_4.2 7 rfl rfl) _).trans ((congrFun (hFc2.2 7 rfl rfl) _).trans ((up_o (by decide)).trans rfl))))))
                have r8c : ∀ j, Pc139 8 j = P 8 j := fun j => ((congrFun (hFc139.2 8 rfl rfl) _).trans ((congrFun (hFc132.2 8 rfl rfl) _).trans ((congrFun (hFc127.2 8 rfl rfl) _).trans ((congrFun (hE14_4.2 8 rfl rfl) _).trans ((congrFun (hFc2.2 8 rfl rfl) _).trans ((up_o (by decide)).trans rfl))))))
                refine g_aload_n dX12_valueRead_139 rfl ?_
                refine m_g41 rfl dX12_valueRead_140 ?_
                refine g_aload_n dX12_valueRead_143 rfl ?_
                refine m_g43 (z := (H14_4 0 43)) rfl dX12_valueRead_144 ((hFc139.1 43 rfl).trans ((hFc132.1 43 rfl).trans ((hFc127.1 43 rfl).trans rfl))) ?_
                refine g_iload dX12_valueRead_147 rfl ?_
                refine m_s26 dX12_valueRead_149 ⟨by have q0 := b0_43 hB14_4; omega, by have q0 := b0_43 hB14_4; omega⟩ ?_
                have hB140 := ba_26 (z := rc132) (k := (H14_4 0 43)) hBc139 ⟨by omega, by omega⟩
                refine g_aload_n dX12_valueRead_150 rfl ?_
                refine m_g42 rfl dX12_valueRead_151 ?_
                refine g_aload_n dX12_valueRead_154 rfl ?_
                refine m_g43 (z := (H14_4 0 43)) rfl dX12_valueRead_155 ((up_o (by decide)).trans ((hFc139.1 43 rfl).trans ((hFc132.1 43 rfl).trans ((hFc127.1 43 rfl).trans rfl)))) ?_
                refine g_iconst dX12_valueRead_158 ?_
                refine m_s27 dX12_valueRead_159 ⟨by have q0 := b0_43 hB14_4; omega, by have q0 := b0_43 hB14_4; omega⟩ ?_
                have hB141 := ba_27 (z := 0) (k := (H14_4 0 43)) hB140 (by decide)
                refine g_aload_n dX12_valueRead_160 rfl ?_
                refine m_g40 rfl dX12_valueRead_161 ?_
                refine g_aload_n dX12_valueRead_164 rfl ?_
                refine m_g43 (z := (H14_4 0 43)) rfl dX12_valueRead_165 ((up_o (by decide)).trans ((up_o (by decide)).trans ((hFc139.1 43 rfl).trans ((hFc132.1 43 rfl).trans ((hFc127.1 43 rfl).trans rfl))))) ?_
                refine g_iconst dX12_valueRead_168 ?_
                refine m_s25 dX12_valueRead_169 ⟨by have q0 := b0_43 hB14_4; omega, by have q0 := b0_43 hB14_4; omega⟩ ?_
                have hB142 := ba_25 (z := 0) (k := (H14_4 0 43)) hB141 (by decide)
                refine g_aload_n dX12_valueRead_170 rfl ?_
                refine g_aload_n dX12_valueRead_171 rfl ?_
                refine m_g20 rfl dX12_valueRead_172 ?_
                refine g_iconst dX12_valueRead_175 ?_
                refine g_bipush dX12_valueRead_176 (by decide) ?_
                refine g_aload_n dX12_valueRead_178 rfl ?_
                refine m_g13 (z := (P 0 13)) rfl dX12_valueRead_179 ((up_o (by decide)).trans ((up_o (by decide)).trans ((up_o (by decide)).trans ((hFc139.1 13 rfl).trans ((hFc132.1 13 rfl).trans ((hFc127.1 13 rfl).trans ((hE14_4.1 13 rfl).trans ((hFc2.1 13 rfl).trans ((up_k (by decide)).trans rfl))))))))) ?_
                refine g_imul dX12_valueRead_182 ?_
                refine g_iload dX12_valueRead_183 rfl ?_
                refine g_iadd dX12_valueRead_185 ?_
                refine g_imul dX12_valueRead_186 ?_
                refine m_l8 (z := (P 8 (2 * ((24 * (P 0 13)) + rc132)))) dX12_valueRead_187 ⟨by have q0 := b0_13 hB; omega, by have q0 := b0_13 hB; omega⟩ ((up_o (by decide)).trans ((up_o (by decide)).trans ((up_o (by decide)).trans ((congrFun (hFc139.2 8 rfl rfl) _).trans ((congrFun (hFc132.2 8 rfl rfl) _).trans ((congrFun (hFc127.2 8 rfl rfl) _).trans ((congrFun (hE14_4.2 8 rfl rfl) _).trans ((congrFun (hFc2.2 8 rfl rfl) _).trans ((up_o (by decide)).trans rfl))))))))) ?_
                have hf1 : FrM ([3, 4, 5, 6, 7, 8, 9, 12], [25, 26, 27]) _ (up (up (up Pc139 26 (H14_4 0 43) rc132) 27 (H14_4 0 43) 0) 25 (H14_4 0 43) 0) := FrM.a (FrM.a (FrM.a FrM.rf rfl rfl) rfl rfl) rfl rfl
                have h26d : (up (up (up Pc139 26 (H14_4 0 43) rc132) 27 (H14_4 0 43) 0) 25 (H14_4 0 43) 0) 26 z = rc132 := by rw [show z = (H14_4 0 43) by omega]; exact ((up_o (by decide)).trans ((up_o (by decide)).trans up_same))
                have h27d : (up (up (up Pc139 26 (H14_4 0 43) rc132) 27 (H14_4 0 43) 0) 25 (H14_4 0 43) 0) 27 z = 0 := by rw [show z = (H14_4 0 43) by omega]; exact ((up_o (by decide)).trans up_same)
                have o26d : ∀ j : Int, j ≠ z → (up (up (up Pc139 26 (H14_4 0 43) rc132) 27 (H14_4 0 43) 0) 25 (H14_4 0 43) 0) 26 j = _ := fun j hj9 => (by have hj : j ≠ (H14_4 0 43) := (by omega); exact ((up_o (by decide)).trans ((up_o (by decide)).trans ((up_k hj).trans rfl))))
                have o27d : ∀ j : Int, j ≠ z → (up (up (up Pc139 26 (H14_4 0 43) rc132) 27 (H14_4 0 43) 0) 25 (H14_4 0 43) 0) 27 j = _ := fun j hj9 => (by have hj : j ≠ (H14_4 0 43) := (by omega); exact ((up_o (by decide)).trans ((up_k hj).trans ((up_o (by decide)).trans rfl))))
                have q6d := bl_6 (k := 24 * P 0 13 + rc132) hB
                have q7d := bl_7 (k := 24 * P 0 13 + rc132) hB
                have f143 := bl_8 (k := (2 * ((24 * (P 0 13)) + rc132))) hB
                refine g_vV (av := [vI (P 8 (2 * ((24 * (P 0 13)) + rc132)))]) (o := 0) (st := []) (m_X12_opensPattern G (up (up (up Pc139 26 (H14_4 0 43) rc132) 27 (H14_4 0 43) 0) 25 (H14_4 0 43) 0) (P 8 (2 * ((24 * (P 0 13)) + rc132))) ⟨by have q0 := bl_8 (k := (2 * ((24 * (P 0 13)) + rc132))) hB; omega, by have q0 := bl_8 (k := (2 * ((24 * (P 0 13)) + rc132))) hB; omega⟩ hB142 (by have q0 := bl_8 (k := (2 * ((24 * (P 0 13)) + rc132))) hB; have q1 := (((up_o (by decide)).trans ((up_o (by decide)).trans ((up_o (by decide)).trans ((hFc139.1 43 rfl).trans ((hFc132.1 43 rfl).trans ((hFc127.1 43 rfl).trans rfl)))))) : (up (up (up Pc139 26 (H14_4 0 43) rc132) 27 (H14_4 0 43) 0) 25 (H14_4 0 43) 0) 0 43 = (H14_4 0 43)); have q2 := b0_43 hB14_4; omega) _ (fun Pc144 hBc144 hFc144 gc144_o gc144_k gc144_z gc144_kq gc144_zq => ⟨rfl, ?_⟩)) cf_X12_opensPattern t_1780 rfl (by decide) rfl rfl rfl (Nat.le_of_ble_eq_true rfl) (by decide) rfl dX12_valueRead_188
                have z145 : (up (up (up Pc139 26 (H14_4 0 43) rc132) 27 (H14_4 0 43) 0) 25 (H14_4 0 43) 0) 0 43 = (H14_4 0 43) := ((up_o (by decide)).trans ((up_o (by decide)).trans ((up_o (by decide)).trans ((hFc139.1 43 rfl).trans ((hFc132.1 43 rfl).trans ((hFc127.1 43 rfl).trans rfl))))))
                have e43p := (((up_o (by decide)).trans ((up_o (by decide)).trans ((up_o (by decide)).trans ((hFc139.1 43 rfl).trans ((hFc132.1 43 rfl).trans ((hFc127.1 43 rfl).trans rfl)))))) : (up (up (up Pc139 26 (H14_4 0 43) rc132) 27 (H14_4 0 43) 0) 25 (H14_4 0 43) 0) 0 43 = (H14_4 0 43))
                rw [e43p, ← hz] at gc144_o gc144_k gc144_kq
                have hsrN := hsr3.push (z := z) (b := P 0 13) (con := rc132) (fld := 0) hcf3 (by omega) h13c hf1 o26d h26d o27d h27d ⟨by omega, by rw [r7c]; omega⟩ (by rw [r6c]; omega) (by rw [r6c]; omega) (Eq.trans (congrArg (P 8) (by omega)) (r8c _).symm) hFc144 gc144_o gc144_k gc144_kq
                have iv146 : SR Pc144 := hsrN
                refine g_goto (tgt := 14) dX12_valueRead_191 (by decide) ?_
                refine g_forget (l1 := [(0, vR 0), (3, vI x14_3_4)]) (by intro q hq; simp only [List.mem_cons, List.not_mem_nil, or_false] at hq ⊢; rcases hq with rfl | rfl <;> simp) ?_
                exact ih14_4 x14_3_4 ⟨by omega, by omega⟩ _ hBc144 (FrM.c (FrM.a (FrM.a (FrM.a (FrM.c (FrM.c (FrM.c (FrM.c FrM.rf hE14_4 rfl) hFc127 rfl) hFc132 rfl) hFc139 rfl) rfl rfl) rfl rfl) rfl rfl) hFc144 rfl) (by first | exact hms | exact Or.inl ⟨by omega, iv146⟩) (by have q0 := (((hFc144.1 8 rfl).trans ((up_o (by decide)).trans ((up_o (by decide)).trans ((up_o (by decide)).trans rfl)))) : Pc144 0 8 = (Pc139 0 8)); have q1 := b0_8 hBc139; omega) (by have q0 := (((hFc144.1 4 rfl).trans ((up_o (by decide)).trans ((up_o (by decide)).trans ((up_o (by decide)).trans rfl)))) : Pc144 0 4 = (Pc139 0 4)); have q1 := b0_4 hBc139; omega) (by have q0 := (((hFc144.1 3 rfl).trans ((up_o (by decide)).trans ((up_o (by decide)).trans ((up_o (by decide)).trans rfl)))) : Pc144 0 3 = (Pc139 0 3)); have q1 := b0_3 hBc139; have q2 := (((hFc144.1 4 rfl).trans ((up_o (by decide)).trans ((up_o (by decide)).trans ((up_o (by decide)).trans rfl)))) : Pc144 0 4 = (Pc139 0 4)); have q3 := b0_4 hBc139; have q4 := (((hFc144.1 5 rfl).trans ((up_o (by decide)).trans ((up_o (by decide)).trans ((up_o (by decide)).trans rfl)))) : Pc144 0 5 = (Pc139 0 5)); have q5 := b0_5 hBc139; omega) (by have q0 := (((hFc144.1 4 rfl).trans ((up_o (by decide)).trans ((up_o (by decide)).trans ((up_o (by decide)).trans rfl)))) : Pc144 0 4 = (Pc139 0 4)); have q1 := b0_4 hBc139; have q2 := (((hFc144.1 8 rfl).trans ((up_o (by decide)).trans ((up_o (by decide)).trans ((up_o (by decide)).trans rfl)))) : Pc144 0 8 = (Pc139 0 8)); have q3 := b0_8 hBc139; omega)
              · refine g_aload_n dX12_valueRead_110 rfl ?_
                refine g_aload_n dX12_valueRead_111 rfl ?_
                refine m_g21 rfl dX12_valueRead_112 ?_
                refine g_bipush dX12_valueRead_115 (by decide) ?_
                refine g_aload_n dX12_valueRead_117 rfl ?_
                refine m_g13 (z := (P 0 13)) rfl dX12_valueRead_118 ((hFc132.1 13 rfl).trans ((hFc127.1 13 rfl).trans ((hE14_4.1 13 rfl).trans ((hFc2.1 13 rfl).trans ((up_k (by decide)).trans rfl))))) ?_
                refine g_imul dX12_valueRead_121 ?_
                refine g_iload dX12_valueRead_122 rfl ?_
                refine g_iadd dX12_valueRead_124 ?_
                refine m_l9 (z := (P 9 ((24 * (P 0 13)) + rc132))) dX12_valueRead_125 ⟨by have q0 := b0_13 hB; omega, by have q0 := b0_13 hB; omega⟩ ((congrFun (hFc132.2 9 rfl rfl) _).trans ((congrFun (hFc127.2 9 rfl rfl) _).trans ((congrFun (hE14_4.2 9 rfl rfl) _).trans ((congrFun (hFc2.2 9 rfl rfl) _).trans ((up_o (by decide)).trans rfl))))) ?_
                have f147 := bl_9 (k := ((24 * (P 0 13)) + rc132)) hB
                refine g_vI (av := [vI (P 9 ((24 * (P 0 13)) + rc132))]) (o := 0) (st := []) (m_X12_isMoreOf G Pc132 (P 9 ((24 * (P 0 13)) + rc132)) ⟨by have q0 := bl_9 (k := ((24 * (P 0 13)) + rc132)) hB; omega, by have q0 := bl_9 (k := ((24 * (P 0 13)) + rc132)) hB; omega⟩ hBc132 (by have q0 := bl_9 (k := ((24 * (P 0 13)) + rc132)) hB; have q1 := b0_3 hBc132; have q2 := b0_4 hBc132; have q3 := b0_5 hBc132; omega) ((SR.fr (F := ([3, 4, 5, 6, 7, 8, 9, 12], [])) iv126 (FrM.c (FrM.c FrM.rf hFc127 rfl) hFc132 rfl) rfl)) (CF.fr (F := ([3, 4, 5, 6, 7, 8, 9, 12, 43], [24, 25, 26, 27])) v_CF (FrM.c (FrM.c (FrM.c (FrM.c (FrM.s FrM.rf rfl) hFc2 rfl) hE14_4 rfl) hFc127 rfl) hFc132 rfl) rfl) _ (fun rc148 hc148 Pc148 hBc148 hFc148 gc148_lx gc148_mo gc148_pe gc148_sr => ⟨rc148, rfl, ?_⟩)) cf_X12_isMoreOf t_1958 rfl (by decide) rfl rfl rfl (Nat.le_of_ble_eq_true rfl) (by decide) rfl dX12_valueRead_126
                have hms := gc148_sr
                refine g_istore_n (l1 := [(3, vI rc148), (4, vI rc132), (0, vR 0)]) dX12_valueRead_129 (by decide) rfl ?_
                refine g_goto (tgt := 14) dX12_valueRead_130 (by decide) ?_
                refine g_forget (l1 := [(0, vR 0), (3, vI rc148)]) (by intro q hq; simp only [List.mem_cons, List.not_mem_nil, or_false] at hq ⊢; rcases hq with rfl | rfl <;> simp) ?_
                exact ih14_4 rc148 ⟨by omega, by omega⟩ _ hBc148 (FrM.c (FrM.c (FrM.c (FrM.c FrM.rf hE14_4 rfl) hFc127 rfl) hFc132 rfl) hFc148 rfl) (by first | exact hms | exact Or.inl ⟨by omega, hNONE⟩) (by have q0 := b0_8 hBc148; omega) (by have q0 := b0_4 hBc148; omega) (by have q0 := b0_3 hBc148; have q1 := b0_4 hBc148; have q2 := b0_5 hBc148; omega) (by have q0 := b0_4 hBc148; have q1 := b0_8 hBc148; omega)
            · refine g_iconst dX12_valueRead_90 ?_
              exact g_retI dX12_valueRead_91 rfl (hQ 0 (by decide) _ hBc132 (FrM.c (FrM.c (FrM.c (FrM.c (FrM.s FrM.rf rfl) hFc2 rfl) hE14_4 rfl) hFc127 rfl) hFc132 rfl) (by have q0 := b0_3 hBc132; have q1 := b0_4 hBc132; have q2 := b0_5 hBc132; omega) (by have q0 := b0_4 hBc132; omega) (by have q0 := b0_8 hBc132; omega))
          · refine g_aload_n dX12_valueRead_51 rfl ?_
            refine g_iconst dX12_valueRead_52 ?_
            refine g_bipush dX12_valueRead_53 (by decide) ?_
            refine g_vI (av := [vI 0, vI 19]) (o := 0) (st := []) (m_X12_number G Pc127 0 19 (by decide) (by decide) hBc127 (by have q0 := (((hFc127.1 3 rfl).trans rfl) : Pc127 0 3 = (H14_4 0 3)); have q1 := b0_3 hB14_4; have q2 := (((hFc127.1 4 rfl).trans rfl) : Pc127 0 4 = (H14_4 0 4)); have q3 := b0_4 hB14_4; have q4 := (((hFc127.1 5 rfl).trans rfl) : Pc127 0 5 = (H14_4 0 5)); have q5 := b0_5 hB14_4; omega) _ (fun rc149 hc149 Pc149 hBc149 hFc149 gc149_lx gc149_mo gc149_pe gc149_ad => ⟨rc149, rfl, ?_⟩)) cf_X12_number t_1796 rfl (by decide) rfl rfl rfl (Nat.le_of_ble_eq_true rfl) (by decide) rfl dX12_valueRead_55
            have z150 : Pc127 0 4 = (H14_4 0 4) := ((hFc127.1 4 rfl).trans rfl)
            refine g_istore_n (l1 := [(2, vI rc149), (0, vR 0), (3, vI x14_3_4)]) dX12_valueRead_58 (by decide) rfl ?_
            refine g_aload_n dX12_valueRead_59 rfl ?_
            refine g_iload_n dX12_valueRead_60 rfl ?_
            refine g_vI (av := [vI rc149]) (o := 0) (st := []) (m_X12_isMoreOf G Pc149 rc149 ⟨by omega, by omega⟩ hBc149 (by have q0 := b0_3 hBc149; have q1 := b0_4 hBc149; have q2 := b0_5 hBc149; omega) ((SR.fr (F := ([3, 4, 5, 6, 7, 8, 9, 12], [])) iv126 (FrM.c (FrM.c FrM.rf hFc127 rfl) hFc149 rfl) rfl)) (CF.fr (F := ([3, 4, 5, 6, 7, 8, 9, 12, 43], [24, 25, 26, 27])) v_CF (FrM.c (FrM.c (FrM.c (FrM.c (FrM.s FrM.rf rfl) hFc2 rfl) hE14_4 rfl) hFc127 rfl) hFc149 rfl) rfl) _ (fun rc151 hc151 Pc151 hBc151 hFc151 gc151_lx gc151_mo gc151_pe gc151_sr => ⟨rc151, rfl, ?_⟩)) cf_X12_isMoreOf t_1958 rfl (by decide) rfl rfl rfl (Nat.le_of_ble_eq_true rfl) (by decide) rfl dX12_valueRead_61
            have hms := gc151_sr
            refine g_istore_n (l1 := [(3, vI rc151), (2, vI rc149), (0, vR 0)]) dX12_valueRead_64 (by decide) rfl ?_
            refine g_goto (tgt := 14) dX12_valueRead_65 (by decide) ?_
            refine g_forget (l1 := [(0, vR 0), (3, vI rc151)]) (by intro q hq; simp only [List.mem_cons, List.not_mem_nil, or_false] at hq ⊢; rcases hq with rfl | rfl <;> simp) ?_
            exact ih14_4 rc151 ⟨by omega, by omega⟩ _ hBc151 (FrM.c (FrM.c (FrM.c (FrM.c FrM.rf hE14_4 rfl) hFc127 rfl) hFc149 rfl) hFc151 rfl) (by first | exact hms | exact Or.inl ⟨by omega, hNONE⟩) (by have q0 := b0_8 hBc151; omega) (by have q0 := b0_4 hBc151; omega) (by have q0 := b0_3 hBc151; have q1 := b0_4 hBc151; have q2 := b0_5 hBc151; omega) (by have q0 := b0_4 hBc151; have q1 := b0_8 hBc151; omega)
        · refine g_iconst dX12_valueRead_36 ?_
          exact g_retI dX12_valueRead_37 rfl (hQ 0 (by decide) _ hBc127 (FrM.c (FrM.c (FrM.c (FrM.s FrM.rf rfl) hFc2 rfl) hE14_4 rfl) hFc127 rfl) (by have q0 := (((hFc127.1 3 rfl).trans rfl) : Pc127 0 3 = (H14_4 0 3)); have q1 := b0_3 hB14_4; have q2 := (((hFc127.1 4 rfl).trans rfl) : Pc127 0 4 = (H14_4 0 4)); have q3 := b0_4 hB14_4; have q4 := (((hFc127.1 5 rfl).trans rfl) : Pc127 0 5 = (H14_4 0 5)); have q5 := b0_5 hB14_4; omega) (by have q0 := (((hFc127.1 4 rfl).trans rfl) : Pc127 0 4 = (H14_4 0 4)); have q1 := b0_4 hB14_4; omega) (by have q0 := b0_8 hBc127; omega))
  refine g_forget (l1 := [(0, vR 0), (3, vI 1)]) (by intro q hq; simp only [List.mem_cons, List.not_mem_nil, or_false] at hq ⊢; rcases hq with rfl | rfl <;> simp) ?_
  exact L14_4 _ 1 (by decide) _ hBc2 FrM.rf (by first | exact hms | exact Or.inl ⟨by omega, iv4⟩) (by have q0 := (((hFc2.1 8 rfl).trans ((up_k (by decide)).trans rfl)) : Pc2 0 8 = (P 0 8)); have q1 := b0_8 hB; omega) (by have q0 := (((hFc2.1 4 rfl).trans ((up_k (by decide)).trans rfl)) : Pc2 0 4 = (P 0 4)); have q1 := b0_4 hB; omega) (by have q0 := (((hFc2.1 3 rfl).trans ((up_k (by decide)).trans rfl)) : Pc2 0 3 = (P 0 3)); have q1 := b0_3 hB; have q2 := (((hFc2.1 4 rfl).trans ((up_k (by decide)).trans rfl)) : Pc2 0 4 = (P 0 4)); have q3 := b0_4 hB; have q4 := (((hFc2.1 5 rfl).trans ((up_k (by decide)).trans rfl)) : Pc2 0 5 = (P 0 5)); have q5 := b0_5 hB; omega) (Nat.lt_succ_self _)
set_option maxRecDepth 100000 in
set_option maxHeartbeats 4000000 in
theorem m_X12_row (G : GT) (P : PH) (hB : BdM P) (v_okC : okC P) (v_CF : CF P) (Q : Option PV → PH → Prop) (hQ : ∀ (r : Int) (_ : (-2147483648) ≤ r ∧ r ≤ 2147483647) (P1 : PH) (_ : BdM P1) (_ : FrM ([1, 2, 3, 4, 5, 6, 7, 8, 9, 10, 11, 12, 43], [24, 25, 26, 27, 28]) P P1) (_ : P1 0 1 = 0), Q (some (vI r)) P1) : Ct WSM G 6 iX12_row [vR 0] P Q := by
  refine Ct.of (by decide) (l0 := [(0, vR 0)]) rfl (Nat.le_of_ble_eq_true rfl) ?_
  refine g_aload_n dX12_row_0 rfl ?_
  refine g_aload_n dX12_row_1 rfl ?_
  refine m_g1 (z := (P 0 1)) rfl dX12_row_2 rfl ?_
  refine m_p2 rfl dX12_row_5 ?_
  have hB1 := bs_2 (z := (P 0 1)) hB ⟨by have q0 := b0_1 hB; omega, by have q0 := b0_1 hB; omega⟩
  refine g_aload_n dX12_row_8 rfl ?_
  refine g_iconst dX12_row_9 ?_
  refine m_p1 rfl dX12_row_10 ?_
  have hB2 := bs_1 (z := 0) hB1 (by decide)
  refine g_aload_n dX12_row_13 rfl ?_
  refine g_iconst dX12_row_14 ?_
  refine m_p5 rfl dX12_row_15 ?_
  have hB3 := bs_5 (z := 0) hB2 (by decide)
  refine g_aload_n dX12_row_18 rfl ?_
  refine g_iconst dX12_row_19 ?_
  refine m_p8 rfl dX12_row_20 ?_
  have hB4 := bs_8 (z := 0) hB3 (by decide)
  refine g_aload_n dX12_row_23 rfl ?_
  refine g_iconst dX12_row_24 ?_
  refine m_p9 rfl dX12_row_25 ?_
  have hB5 := bs_9 (z := (-1)) hB4 (by decide)
  refine g_iconst dX12_row_28 ?_
  refine g_istore_n (l1 := [(1, vI 0), (0, vR 0)]) dX12_row_29 (by decide) rfl ?_
  refine g_aload_n dX12_row_30 rfl ?_
  refine m_g44 (z := (P 0 44)) rfl dX12_row_31 ((up_k (by decide)).trans ((up_k (by decide)).trans ((up_k (by decide)).trans ((up_k (by decide)).trans ((up_k (by decide)).trans rfl))))) ?_
  have f6 := b0_44 hB
  refine g_if_ne (tgt := 43) dX12_row_34 (by decide) ⟨by have q0 := b0_44 hB; omega, by have q0 := b0_44 hB; omega⟩ (fun k7 => ?_) (fun k7 => ?_)
  · refine g_aload_n dX12_row_43 rfl ?_
    refine m_g8 (z := 0) rfl dX12_row_44 ((up_k (by decide)).trans up_same) ?_
    refine g_if_ne (tgt := 54) dX12_row_47 (by decide) (by decide) (fun k8 => by exfalso; omega) (fun k8 => ?_)
    refine g_aload_n dX12_row_50 rfl ?_
    refine g_vV (av := []) (o := 0) (st := []) (m_X12_ahead G (up (up (up (up (up P 0 2 (P 0 1)) 0 1 0) 0 5 0) 0 8 0) 0 9 (-1))  hB5  _ (fun Pc9 hBc9 hFc9 gc9_lx gc9_nx => ⟨rfl, ?_⟩)) cf_X12_ahead t_1683 rfl (by decide) rfl rfl rfl (Nat.le_of_ble_eq_true rfl) (by decide) rfl dX12_row_51
    have z10 : (up (up (up (up (up P 0 2 (P 0 1)) 0 1 0) 0 5 0) 0 8 0) 0 9 (-1)) 0 5 = 0 := ((up_k (by decide)).trans ((up_k (by decide)).trans up_same))
    refine g_iconst dX12_row_54 ?_
    refine g_istore_n (l1 := [(2, vI 0), (1, vI 0), (0, vR 0)]) dX12_row_55 (by decide) rfl ?_
    have L56_10 : ∀ (n56_10 : Nat) (x56_2_10 : Int) (h_x56_2_10 : 0 ≤ x56_2_10 ∧ x56_2_10 ≤ 4) (x56_1_10 : Int) (h_x56_1_10 : (-2147483648) ≤ x56_1_10 ∧ x56_1_10 ≤ 2147483647) (H56_10 : PH) (hB56_10 : BdM H56_10) (hE56_10 : FrM ([3, 4, 5, 6, 7, 8, 9, 12, 43], [24, 25, 26, 27]) Pc9 H56_10) (i56_0_10 : 0 < H56_10 0 8 ∨ ((H56_10 0 3 = 0 ∨ H56_10 0 4 + 1 ≤ H56_10 0 5) ∧ H56_10 0 4 ≤ H56_10 0 5)) (hm56_10 : ((5 - x56_2_10) : Int).toNat < n56_10), Go WSM G 6 iX12_row 56 [(0, vR 0), (1, vI x56_1_10), (2, vI x56_2_10)] [] H56_10 Q := by
      intro n56_10
      induction n56_10 with
      | zero => intro x56_2_10 h_x56_2_10 x56_1_10 h_x56_1_10 H56_10 hB56_10 hE56_10 i56_0_10 hm56_10; exact absurd hm56_10 (Nat.not_lt_zero _)
      | succ n56_10 ih56_10 =>
      intro x56_2_10 h_x56_2_10 x56_1_10 h_x56_1_10 H56_10 hB56_10 hE56_10 i56_0_10 hm56_10
      refine g_iload_n dX12_row_56 rfl ?_
      refine g_aload_n dX12_row_57 rfl ?_
      refine g_vI (av := []) (o := 0) (st := [vI x56_2_10]) (m_X12_columns G H56_10  hB56_10  _ (fun rc219 hc219 gc219_c => ⟨rc219, rfl, ?_⟩)) cf_X12_columns t_1827 rfl (by decide) rfl rfl rfl (Nat.le_of_ble_eq_true rfl) (by decide) rfl dX12_row_58
      have z220 : H56_10 0 13 = (P 0 13) := ((hE56_10.1 13 rfl).trans ((hFc9.1 13 rfl).trans ((up_k (by decide)).trans ((up_k (by decide)).trans ((up_k (by decide)).trans ((up_k (by decide)).trans ((up_k (by decide)).trans rfl)))))))
      have hcl : rc219 = P 11 (P 0 13) := by have q := gc219_c; rw [show H56_10 0 13 = _ from ((hE56_10.1 13 rfl).trans ((hFc9.1 13 rfl).trans ((up_k (by decide)).trans ((up_k (by decide)).trans ((up_k (by decide)).trans ((up_k (by decide)).trans ((up_k (by decide)).trans rfl))))))), show H56_10 11 (P 0 13) = _ from ((congrFun (hE56_10.2 11 rfl rfl) _).trans ((congrFun (hFc9.2 11 rfl rfl) _).trans ((up_o (by decide)).trans ((up_o (by decide)).trans ((up_o (by decide)).trans ((up_o (by decide)).trans ((up_o (by decide)).trans rfl)))))))] at q; exact q
      refine g_icmp_ge (tgt := 128) dX12_row_61 (by decide) ⟨by omega, by omega⟩ ⟨by omega, by omega⟩ (fun k221 => ?_) (fun k221 => ?_)
      · refine g_aload_n dX12_row_128 rfl ?_
        refine m_g8 (z := (H56_10 0 8)) rfl dX12_row_129 rfl ?_
        have f222 := b0_8 hB56_10
        refine g_if_ne (tgt := 139) dX12_row_132 (by decide) ⟨by have q0 := b0_8 hB56_10; omega, by have q0 := b0_8 hB56_10; omega⟩ (fun k223 => ?_) (fun k223 => ?_)
        · refine g_aload_n dX12_row_139 rfl ?_
          refine m_g8 (z := (H56_10 0 8)) rfl dX12_row_140 rfl ?_
          refine g_if_ne (tgt := 162) dX12_row_143 (by decide) ⟨by have q0 := b0_8 hB56_10; omega, by have q0 := b0_8 hB56_10; omega⟩ (fun k224 => ?_) (fun k224 => by exfalso; have q0 := b0_8 hB56_10; omega)
          refine g_aload_n dX12_row_162 rfl ?_
          refine g_aload_n dX12_row_163 rfl ?_
          refine m_g8 (z := (H56_10 0 8)) rfl dX12_row_164 rfl ?_
          refine m_p10 rfl dX12_row_167 ?_
          have hB225 := bs_10 (z := (H56_10 0 8)) hB56_10 ⟨by have q0 := b0_8 hB56_10; omega, by have q0 := b0_8 hB56_10; omega⟩
          refine g_aload_n dX12_row_170 rfl ?_
          refine g_aload_n dX12_row_171 rfl ?_
          refine m_g9 (z := (H56_10 0 9)) rfl dX12_row_172 ((up_k (by decide)).trans rfl) ?_
          refine m_p11 rfl dX12_row_175 ?_
          have hB226 := bs_11 (z := (H56_10 0 9)) hB225 ⟨by have q0 := b0_9 hB56_10; omega, by have q0 := b0_9 hB56_10; omega⟩
          refine g_aload_n dX12_row_178 rfl ?_
          refine m_g8 (z := (H56_10 0 8)) rfl dX12_row_179 ((up_k (by decide)).trans ((up_k (by decide)).trans rfl)) ?_
          refine g_if_le (tgt := 193) dX12_row_182 (by decide) ⟨by have q0 := b0_8 hB56_10; omega, by have q0 := b0_8 hB56_10; omega⟩ (fun k227 => by exfalso; have q0 := b0_8 hB56_10; omega) (fun k227 => ?_)
          refine g_aload_n dX12_row_185 rfl ?_
          refine g_iconst dX12_row_186 ?_
          refine g_vI (av := [vI 1]) (o := 0) (st := []) (m_X12_refuses G (up (up H56_10 0 10 (H56_10 0 8)) 0 11 (H56_10 0 9)) 1 (by decide) hB226  _ (fun rc228 hc228 Pc228 hBc228 hFc228 => ⟨rc228, rfl, ?_⟩)) cf_X12_refuses t_1667 rfl (by decide) rfl rfl rfl (Nat.le_of_ble_eq_true rfl) (by decide) rfl dX12_row_187
          refine g_goto (tgt := 194) dX12_row_190 (by decide) ?_
          exact g_retI dX12_row_194 rfl (hQ rc228 ⟨by omega, by omega⟩ _ hBc228 (FrM.c (FrM.s (FrM.s (FrM.c (FrM.c (FrM.s (FrM.s (FrM.s (FrM.s (FrM.s FrM.rf rfl) rfl) rfl) rfl) rfl) hFc9 rfl) hE56_10 rfl) rfl) rfl) hFc228 rfl) (by have q0 := (((hFc228.1 1 rfl).trans ((up_k (by decide)).trans ((up_k (by decide)).trans ((hE56_10.1 1 rfl).trans ((hFc9.1 1 rfl).trans ((up_k (by decide)).trans ((up_k (by decide)).trans ((up_k (by decide)).trans up_same)))))))) : Pc228 0 1 = 0); omega))
        · refine g_aload_n dX12_row_135 rfl ?_
          refine g_vV (av := []) (o := 0) (st := []) (m_X12_lex G H56_10  hB56_10  _ (fun Pc229 hBc229 hFc229 gc229_pe => ⟨rfl, ?_⟩)) cf_X12_lex t_1697 rfl (by decide) rfl rfl rfl (Nat.le_of_ble_eq_true rfl) (by decide) rfl dX12_row_136
          refine g_aload_n dX12_row_139 rfl ?_
          refine m_g8 (z := (Pc229 0 8)) rfl dX12_row_140 rfl ?_
          have f230 := b0_8 hBc229
          refine g_if_ne (tgt := 162) dX12_row_143 (by decide) ⟨by have q0 := b0_8 hBc229; omega, by have q0 := b0_8 hBc229; omega⟩ (fun k231 => ?_) (fun k231 => ?_)
          · refine g_aload_n dX12_row_162 rfl ?_
            refine g_aload_n dX12_row_163 rfl ?_
            refine m_g8 (z := (Pc229 0 8)) rfl dX12_row_164 rfl ?_
            refine m_p10 rfl dX12_row_167 ?_
            have hB232 := bs_10 (z := (Pc229 0 8)) hBc229 ⟨by have q0 := b0_8 hBc229; omega, by have q0 := b0_8 hBc229; omega⟩
            refine g_aload_n dX12_row_170 rfl ?_
            refine g_aload_n dX12_row_171 rfl ?_
            refine m_g9 (z := (Pc229 0 9)) rfl dX12_row_172 ((up_k (by decide)).trans rfl) ?_
            refine m_p11 rfl dX12_row_175 ?_
            have hB233 := bs_11 (z := (Pc229 0 9)) hB232 ⟨by have q0 := b0_9 hBc229; omega, by have q0 := b0_9 hBc229; omega⟩
            refine g_aload_n dX12_row_178 rfl ?_
            refine m_g8 (z := (Pc229 0 8)) rfl dX12_row_179 ((up_k (by decide)).trans ((up_k (by decide)).trans rfl)) ?_
            refine g_if_le (tgt := 193) dX12_row_182 (by decide) ⟨by have q0 := b0_8 hBc229; omega, by have q0 := b0_8 hBc229; omega⟩ (fun k234 => by exfalso; have q0 := b0_8 hBc229; omega) (fun k234 => ?_)
            refine g_aload_n dX12_row_185 rfl ?_
            refine g_iconst dX12_row_186 ?_
            refine g_vI (av := [vI 1]) (o := 0) (st := []) (m_X12_refuses G (up (up Pc229 0 10 (Pc229 0 8)) 0 11 (Pc229 0 9)) 1 (by decide) hB233  _ (fun rc235 hc235 Pc235 hBc235 hFc235 => ⟨rc235, rfl, ?_⟩)) cf_X12_refuses t_1667 rfl (by decide) rfl rfl rfl (Nat.le_of_ble_eq_true rfl) (by decide) rfl dX12_row_187
            refine g_goto (tgt := 194) dX12_row_190 (by decide) ?_
            exact g_retI dX12_row_194 rfl (hQ rc235 ⟨by omega, by omega⟩ _ hBc235 (FrM.c (FrM.s (FrM.s (FrM.c (FrM.c (FrM.c (FrM.s (FrM.s (FrM.s (FrM.s (FrM.s FrM.rf rfl) rfl) rfl) rfl) rfl) hFc9 rfl) hE56_10 rfl) hFc229 rfl) rfl) rfl) hFc235 rfl) (by have q0 := (((hFc235.1 1 rfl).trans ((up_k (by decide)).trans ((up_k (by decide)).trans ((hFc229.1 1 rfl).trans ((hE56_10.1 1 rfl).trans ((hFc9.1 1 rfl).trans ((up_k (by decide)).trans ((up_k (by decide)).trans ((up_k (by decide)).trans up_same))))))))) : Pc235 0 1 = 0); omega))
          · refine g_aload_n dX12_row_146 rfl ?_
            refine m_g3 (z := (H56_10 0 3)) rfl dX12_row_147 ((hFc229.1 3 rfl).trans rfl) ?_
            have f236 := b0_3 hB56_10
            refine g_if_eq (tgt := 162) dX12_row_150 (by decide) ⟨by have q0 := b0_3 hB56_10; omega, by have q0 := b0_3 hB56_10; omega⟩ (fun k237 => ?_) (fun k237 => ?_)
            · refine g_aload_n dX12_row_162 rfl ?_
              refine g_aload_n dX12_row_163 rfl ?_
              refine m_g8 (z := (Pc229 0 8)) rfl dX12_row_164 rfl ?_
              refine m_p10 rfl dX12_row_167 ?_
              have hB238 := bs_10 (z := (Pc229 0 8)) hBc229 ⟨by have q0 := b0_8 hBc229; omega, by have q0 := b0_8 hBc229; omega⟩
              refine g_aload_n dX12_row_170 rfl ?_
              refine g_aload_n dX12_row_171 rfl ?_
              refine m_g9 (z := (Pc229 0 9)) rfl dX12_row_172 ((up_k (by decide)).trans rfl) ?_
              refine m_p11 rfl dX12_row_175 ?_
              have hB239 := bs_11 (z := (Pc229 0 9)) hB238 ⟨by have q0 := b0_9 hBc229; omega, by have q0 := b0_9 hBc229; omega⟩
              refine g_aload_n dX12_row_178 rfl ?_
              refine m_g8 (z := (Pc229 0 8)) rfl dX12_row_179 ((up_k (by decide)).trans ((up_k (by decide)).trans rfl)) ?_
              refine g_if_le (tgt := 193) dX12_row_182 (by decide) ⟨by have q0 := b0_8 hBc229; omega, by have q0 := b0_8 hBc229; omega⟩ (fun k240 => ?_) (fun k240 => by exfalso; have q0 := b0_8 hBc229; omega)
              refine g_iload_n dX12_row_193 rfl ?_
              exact g_retI dX12_row_194 rfl (hQ x56_1_10 ⟨by omega, by omega⟩ _ hB239 (FrM.s (FrM.s (FrM.c (FrM.c (FrM.c (FrM.s (FrM.s (FrM.s (FrM.s (FrM.s FrM.rf rfl) rfl) rfl) rfl) rfl) hFc9 rfl) hE56_10 rfl) hFc229 rfl) rfl) rfl) (by have q0 := (((up_k (by decide)).trans ((up_k (by decide)).trans ((hFc229.1 1 rfl).trans ((hE56_10.1 1 rfl).trans ((hFc9.1 1 rfl).trans ((up_k (by decide)).trans ((up_k (by decide)).trans ((up_k (by decide)).trans up_same)))))))) : (up (up Pc229 0 10 (Pc229 0 8)) 0 11 (Pc229 0 9)) 0 1 = 0); omega))
            · refine g_aload_n dX12_row_153 rfl ?_
              refine g_iconst dX12_row_154 ?_
              refine g_aload_n dX12_row_155 rfl ?_
              refine m_g4 (z := (H56_10 0 4)) rfl dX12_row_156 ((hFc229.1 4 rfl).trans rfl) ?_
              have f241 := b0_4 hB56_10
              refine g_vV (av := [vI 1, vI (H56_10 0 4)]) (o := 0) (st := []) (m_X12_blame G Pc229 1 (H56_10 0 4) (by decide) ⟨by have q0 := b0_4 hB56_10; omega, by have q0 := b0_4 hB56_10; omega⟩ hBc229  _ (fun Pc242 hBc242 hFc242 gc242_f gc242_pe => ⟨rfl, ?_⟩)) cf_X12_blame t_1701 rfl (by decide) rfl rfl rfl (Nat.le_of_ble_eq_true rfl) (by decide) rfl dX12_row_159
              refine g_aload_n dX12_row_162 rfl ?_
              refine g_aload_n dX12_row_163 rfl ?_
              refine m_g8 (z := (Pc242 0 8)) rfl dX12_row_164 rfl ?_
              refine m_p10 rfl dX12_row_167 ?_
              have hB243 := bs_10 (z := (Pc242 0 8)) hBc242 ⟨by have q0 := b0_8 hBc242; omega, by have q0 := b0_8 hBc242; omega⟩
              refine g_aload_n dX12_row_170 rfl ?_
              refine g_aload_n dX12_row_171 rfl ?_
              refine m_g9 (z := (Pc242 0 9)) rfl dX12_row_172 ((up_k (by decide)).trans rfl) ?_
              refine m_p11 rfl dX12_row_175 ?_
              have hB244 := bs_11 (z := (Pc242 0 9)) hB243 ⟨by have q0 := b0_9 hBc242; omega, by have q0 := b0_9 hBc242; omega⟩
              refine g_aload_n dX12_row_178 rfl ?_
              refine m_g8 (z := (Pc242 0 8)) rfl dX12_row_179 ((up_k (by decide)).trans ((up_k (by decide)).trans rfl)) ?_
              have f245 := b0_8 hBc242
              refine g_if_le (tgt := 193) dX12_row_182 (by decide) ⟨by have q0 := b0_8 hBc242; omega, by have q0 := b0_8 hBc242; omega⟩ (fun k246 => ?_) (fun k246 => ?_)
              · refine g_iload_n dX12_row_193 rfl ?_
                exact g_retI dX12_row_194 rfl (hQ x56_1_10 ⟨by omega, by omega⟩ _ hB244 (FrM.s (FrM.s (FrM.c (FrM.c (FrM.c (FrM.c (FrM.s (FrM.s (FrM.s (FrM.s (FrM.s FrM.rf rfl) rfl) rfl) rfl) rfl) hFc9 rfl) hE56_10 rfl) hFc229 rfl) hFc242 rfl) rfl) rfl) (by have q0 := (((up_k (by decide)).trans ((up_k (by decide)).trans ((hFc242.1 1 rfl).trans ((hFc229.1 1 rfl).trans ((hE56_10.1 1 rfl).trans ((hFc9.1 1 rfl).trans ((up_k (by decide)).trans ((up_k (by decide)).trans ((up_k (by decide)).trans up_same))))))))) : (up (up Pc242 0 10 (Pc242 0 8)) 0 11 (Pc242 0 9)) 0 1 = 0); omega))
              · refine g_aload_n dX12_row_185 rfl ?_
                refine g_iconst dX12_row_186 ?_
                refine g_vI (av := [vI 1]) (o := 0) (st := []) (m_X12_refuses G (up (up Pc242 0 10 (Pc242 0 8)) 0 11 (Pc242 0 9)) 1 (by decide) hB244  _ (fun rc247 hc247 Pc247 hBc247 hFc247 => ⟨rc247, rfl, ?_⟩)) cf_X12_refuses t_1667 rfl (by decide) rfl rfl rfl (Nat.le_of_ble_eq_true rfl) (by decide) rfl dX12_row_187
                refine g_goto (tgt := 194) dX12_row_190 (by decide) ?_
                exact g_retI dX12_row_194 rfl (hQ rc247 ⟨by omega, by omega⟩ _ hBc247 (FrM.c (FrM.s (FrM.s (FrM.c (FrM.c (FrM.c (FrM.c (FrM.s (FrM.s (FrM.s (FrM.s (FrM.s FrM.rf rfl) rfl) rfl) rfl) rfl) hFc9 rfl) hE56_10 rfl) hFc229 rfl) hFc242 rfl) rfl) rfl) hFc247 rfl) (by have q0 := (((hFc247.1 1 rfl).trans ((up_k (by decide)).trans ((up_k (by decide)).trans ((hFc242.1 1 rfl).trans ((hFc229.1 1 rfl).trans ((hE56_10.1 1 rfl).trans ((hFc9.1 1 rfl).trans ((up_k (by decide)).trans ((up_k (by decide)).trans ((up_k (by decide)).trans up_same)))))))))) : Pc247 0 1 = 0); omega))
      · refine g_aload_n dX12_row_64 rfl ?_
        refine m_g8 (z := (H56_10 0 8)) rfl dX12_row_65 rfl ?_
        have f248 := b0_8 hB56_10
        refine g_if_ne (tgt := 128) dX12_row_68 (by decide) ⟨by have q0 := b0_8 hB56_10; omega, by have q0 := b0_8 hB56_10; omega⟩ (fun k249 => ?_) (fun k249 => ?_)
        · refine g_aload_n dX12_row_128 rfl ?_
          refine m_g8 (z := (H56_10 0 8)) rfl dX12_row_129 rfl ?_
          refine g_if_ne (tgt := 139) dX12_row_132 (by decide) ⟨by have q0 := b0_8 hB56_10; omega, by have q0 := b0_8 hB56_10; omega⟩ (fun k250 => ?_) (fun k250 => by exfalso; have q0 := b0_8 hB56_10; omega)
          refine g_aload_n dX12_row_139 rfl ?_
          refine m_g8 (z := (H56_10 0 8)) rfl dX12_row_140 rfl ?_
          refine g_if_ne (tgt := 162) dX12_row_143 (by decide) ⟨by have q0 := b0_8 hB56_10; omega, by have q0 := b0_8 hB56_10; omega⟩ (fun k251 => ?_) (fun k251 => by exfalso; have q0 := b0_8 hB56_10; omega)
          refine g_aload_n dX12_row_162 rfl ?_
          refine g_aload_n dX12_row_163 rfl ?_
          refine m_g8 (z := (H56_10 0 8)) rfl dX12_row_164 rfl ?_
          refine m_p10 rfl dX12_row_167 ?_
          have hB252 := bs_10 (z := (H56_10 0 8)) hB56_10 ⟨by have q0 := b0_8 hB56_10; omega, by have q0 := b0_8 hB56_10; omega⟩
          refine g_aload_n dX12_row_170 rfl ?_
          refine g_aload_n dX12_row_171 rfl ?_
          refine m_g9 (z := (H56_10 0 9)) rfl dX12_row_172 ((up_k (by decide)).trans rfl) ?_
          refine m_p11 rfl dX12_row_175 ?_
          have hB253 := bs_11 (z := (H56_10 0 9)) hB252 ⟨by have q0 := b0_9 hB56_10; omega, by have q0 := b0_9 hB56_10; omega⟩
          refine g_aload_n dX12_row_178 rfl ?_
          refine m_g8 (z := (H56_10 0 8)) rfl dX12_row_179 ((up_k (by decide)).trans ((up_k (by decide)).trans rfl)) ?_
          refine g_if_le (tgt := 193) dX12_row_182 (by decide) ⟨by have q0 := b0_8 hB56_10; omega, by have q0 := b0_8 hB56_10; omega⟩ (fun k254 => by exfalso; have q0 := b0_8 hB56_10; omega) (fun k254 => ?_)
          refine g_aload_n dX12_row_185 rfl ?_
          refine g_iconst dX12_row_186 ?_
          refine g_vI (av := [vI 1]) (o := 0) (st := []) (m_X12_refuses G (up (up H56_10 0 10 (H56_10 0 8)) 0 11 (H56_10 0 9)) 1 (by decide) hB253  _ (fun rc255 hc255 Pc255 hBc255 hFc255 => ⟨rc255, rfl, ?_⟩)) cf_X12_refuses t_1667 rfl (by decide) rfl rfl rfl (Nat.le_of_ble_eq_true rfl) (by decide) rfl dX12_row_187
          refine g_goto (tgt := 194) dX12_row_190 (by decide) ?_
          exact g_retI dX12_row_194 rfl (hQ rc255 ⟨by omega, by omega⟩ _ hBc255 (FrM.c (FrM.s (FrM.s (FrM.c (FrM.c (FrM.s (FrM.s (FrM.s (FrM.s (FrM.s FrM.rf rfl) rfl) rfl) rfl) rfl) hFc9 rfl) hE56_10 rfl) rfl) rfl) hFc255 rfl) (by have q0 := (((hFc255.1 1 rfl).trans ((up_k (by decide)).trans ((up_k (by decide)).trans ((hE56_10.1 1 rfl).trans ((hFc9.1 1 rfl).trans ((up_k (by decide)).trans ((up_k (by decide)).trans ((up_k (by decide)).trans up_same)))))))) : Pc255 0 1 = 0); omega))
        · refine g_iload_n dX12_row_71 rfl ?_
          refine g_if_le (tgt := 79) dX12_row_72 (by decide) ⟨by omega, by omega⟩ (fun k256 => ?_) (fun k256 => ?_)
          · refine g_iload_n dX12_row_79 rfl ?_
            refine g_if_le (tgt := 89) dX12_row_80 (by decide) ⟨by omega, by omega⟩ (fun k257 => ?_) (fun k257 => by exfalso; omega)
            refine g_aload_n dX12_row_89 rfl ?_
            refine m_g8 (z := (H56_10 0 8)) rfl dX12_row_90 rfl ?_
            refine g_if_ne (tgt := 122) dX12_row_93 (by decide) ⟨by have q0 := b0_8 hB56_10; omega, by have q0 := b0_8 hB56_10; omega⟩ (fun k258 => by exfalso; have q0 := b0_8 hB56_10; omega) (fun k258 => ?_)
            refine g_iload_n dX12_row_96 rfl ?_
            refine g_aload_n dX12_row_97 rfl ?_
            refine g_iload_n dX12_row_98 rfl ?_
            refine g_vI (av := [vI x56_2_10]) (o := 0) (st := [vI x56_1_10]) (m_X12_columnValues G H56_10 x56_2_10 ⟨by omega, by omega⟩ hB56_10 (by have q0 := (((congrFun (hE56_10.2 11 rfl rfl) _).trans ((congrFun (hFc9.2 11 rfl rfl) _).trans ((up_o (by decide)).trans ((up_o (by decide)).trans ((up_o (by decide)).trans ((up_o (by decide)).trans ((up_o (by decide)).trans rfl))))))) : H56_10 11 (H56_10 0 13) = (P 11 (H56_10 0 13))); have q1 := bl_11 (k := (H56_10 0 13)) hB; have q2 := ((congrArg (H56_10 11) ((hE56_10.1 13 rfl).trans ((hFc9.1 13 rfl).trans ((up_k (by decide)).trans ((up_k (by decide)).trans ((up_k (by decide)).trans ((up_k (by decide)).trans ((up_k (by decide)).trans rfl)))))))).trans ((congrFun (hE56_10.2 11 rfl rfl) _).trans ((congrFun (hFc9.2 11 rfl rfl) _).trans ((up_o (by decide)).trans ((up_o (by decide)).trans ((up_o (by decide)).trans ((up_o (by decide)).trans ((up_o (by decide)).trans rfl))))))) : H56_10 11 (H56_10 0 13) = (P 11 (P 0 13))); have q3 := bl_11 (k := (P 0 13)) hB; omega) (okC.fr (F := ([1, 2, 3, 4, 5, 6, 7, 8, 9, 12, 43], [24, 25, 26, 27])) v_okC (FrM.c (FrM.c (FrM.s (FrM.s (FrM.s (FrM.s (FrM.s FrM.rf rfl) rfl) rfl) rfl) rfl) hFc9 rfl) hE56_10 rfl) rfl) _ (fun rc259 hc259 gc259_v => ⟨rc259, rfl, ?_⟩)) cf_X12_columnValues t_1831 rfl (by decide) rfl rfl rfl (Nat.le_of_ble_eq_true rfl) (by decide) rfl dX12_row_99
            have z260 : H56_10 0 13 = (P 0 13) := ((hE56_10.1 13 rfl).trans ((hFc9.1 13 rfl).trans ((up_k (by decide)).trans ((up_k (by decide)).trans ((up_k (by decide)).trans ((up_k (by decide)).trans ((up_k (by decide)).trans rfl)))))))
            refine g_imul dX12_row_102 ?_
            refine g_norm (fun r261 h_r261 e_r261 => ?_)
            refine g_aload_n dX12_row_103 rfl ?_
            refine g_aload_n dX12_row_104 rfl ?_
            refine m_g24 rfl dX12_row_105 ?_
            refine g_iconst dX12_row_108 ?_
            refine g_aload_n dX12_row_109 rfl ?_
            refine m_g13 (z := (P 0 13)) rfl dX12_row_110 ((hE56_10.1 13 rfl).trans ((hFc9.1 13 rfl).trans ((up_k (by decide)).trans ((up_k (by decide)).trans ((up_k (by decide)).trans ((up_k (by decide)).trans ((up_k (by decide)).trans rfl))))))) ?_
            refine g_imul dX12_row_113 ?_
            refine g_iload_n dX12_row_114 rfl ?_
            refine g_iadd dX12_row_115 ?_
            refine m_l12 (z := (P 12 ((4 * (P 0 13)) + x56_2_10))) dX12_row_116 ⟨by have q0 := b0_13 hB; omega, by have q0 := b0_13 hB; omega⟩ ((congrFun (hE56_10.2 12 rfl rfl) _).trans ((congrFun (hFc9.2 12 rfl rfl) _).trans ((up_o (by decide)).trans ((up_o (by decide)).trans ((up_o (by decide)).trans ((up_o (by decide)).trans ((up_o (by decide)).trans rfl))))))) ?_
            have f262 := bl_12 (k := ((4 * (P 0 13)) + x56_2_10)) hB
            refine g_vI (av := [vI (P 12 ((4 * (P 0 13)) + x56_2_10))]) (o := 0) (st := [vI r261]) (m_X12_valueRead G H56_10 (P 12 ((4 * (P 0 13)) + x56_2_10)) ⟨by have q0 := bl_12 (k := ((4 * (P 0 13)) + x56_2_10)) hB; omega, by have q0 := bl_12 (k := ((4 * (P 0 13)) + x56_2_10)) hB; omega⟩ hB56_10 (by have q0 := bl_12 (k := ((4 * (P 0 13)) + x56_2_10)) hB; have q1 := b0_3 hB56_10; have q2 := b0_4 hB56_10; have q3 := b0_5 hB56_10; omega) (CF.fr (F := ([1, 2, 3, 4, 5, 6, 7, 8, 9, 12, 43], [24, 25, 26, 27])) v_CF (FrM.c (FrM.c (FrM.s (FrM.s (FrM.s (FrM.s (FrM.s FrM.rf rfl) rfl) rfl) rfl) rfl) hFc9 rfl) hE56_10 rfl) rfl) _ (fun rc263 hc263 Pc263 hBc263 hFc263 gc263_lx gc263_mo gc263_pe => ⟨rc263, rfl, ?_⟩)) cf_X12_valueRead t_1954 rfl (by decide) rfl rfl rfl (Nat.le_of_ble_eq_true rfl) (by decide) rfl dX12_row_117
            refine g_iadd dX12_row_120 ?_
            refine g_norm (fun r264 h_r264 e_r264 => ?_)
            refine g_istore_n (l1 := [(1, vI r264), (0, vR 0), (2, vI x56_2_10)]) dX12_row_121 (by decide) rfl ?_
            refine g_iinc (l1 := [(2, vI (x56_2_10 + 1)), (1, vI r264), (0, vR 0)]) dX12_row_122 rfl (by decide) rfl ?_
            refine g_goto (tgt := 56) dX12_row_125 (by decide) ?_
            refine g_forget (l1 := [(0, vR 0), (1, vI r264), (2, vI (x56_2_10 + 1))]) (by intro q hq; simp only [List.mem_cons, List.not_mem_nil, or_false] at hq ⊢; rcases hq with rfl | rfl | rfl <;> simp) ?_
            exact ih56_10 (x56_2_10 + 1) ⟨by omega, by omega⟩ r264 ⟨by omega, by omega⟩ _ hBc263 (FrM.c (FrM.c FrM.rf hE56_10 rfl) hFc263 rfl) (by have q0 := b0_8 hBc263; have q1 := b0_3 hBc263; have q2 := b0_4 hBc263; have q3 := b0_5 hBc263; omega) (by omega)
          · refine g_aload_n dX12_row_75 rfl ?_
            refine g_vV (av := []) (o := 0) (st := []) (m_X12_lex G H56_10  hB56_10  _ (fun Pc265 hBc265 hFc265 gc265_pe => ⟨rfl, ?_⟩)) cf_X12_lex t_1697 rfl (by decide) rfl rfl rfl (Nat.le_of_ble_eq_true rfl) (by decide) rfl dX12_row_76
            refine g_iload_n dX12_row_79 rfl ?_
            refine g_if_le (tgt := 89) dX12_row_80 (by decide) ⟨by omega, by omega⟩ (fun k266 => by exfalso; omega) (fun k266 => ?_)
            refine g_aload_n dX12_row_83 rfl ?_
            refine g_bipush dX12_row_84 (by decide) ?_
            refine g_vV (av := [vI 44]) (o := 0) (st := []) (m_X12_must G Pc265 44 (by decide) hBc265 (by have q0 := (((hFc265.1 3 rfl).trans rfl) : Pc265 0 3 = (H56_10 0 3)); have q1 := b0_3 hB56_10; have q2 := (((hFc265.1 4 rfl).trans rfl) : Pc265 0 4 = (H56_10 0 4)); have q3 := b0_4 hB56_10; have q4 := (((hFc265.1 5 rfl).trans rfl) : Pc265 0 5 = (H56_10 0 5)); have q5 := b0_5 hB56_10; omega) _ (fun Pc267 hBc267 hFc267 gc267_lx gc267_mo gc267_pe gc267_ad => ⟨rfl, ?_⟩)) cf_X12_must t_1768 rfl (by decide) rfl rfl rfl (Nat.le_of_ble_eq_true rfl) (by decide) rfl dX12_row_86
            have z268 : Pc265 0 4 = (H56_10 0 4) := ((hFc265.1 4 rfl).trans rfl)
            refine g_aload_n dX12_row_89 rfl ?_
            refine m_g8 (z := (Pc267 0 8)) rfl dX12_row_90 rfl ?_
            have f269 := b0_8 hBc267
            refine g_if_ne (tgt := 122) dX12_row_93 (by decide) ⟨by have q0 := b0_8 hBc267; omega, by have q0 := b0_8 hBc267; omega⟩ (fun k270 => ?_) (fun k270 => ?_)
            · refine g_iinc (l1 := [(2, vI (x56_2_10 + 1)), (0, vR 0), (1, vI x56_1_10)]) dX12_row_122 rfl (by decide) rfl ?_
              refine g_goto (tgt := 56) dX12_row_125 (by decide) ?_
              refine g_forget (l1 := [(0, vR 0), (1, vI x56_1_10), (2, vI (x56_2_10 + 1))]) (by intro q hq; simp only [List.mem_cons, List.not_mem_nil, or_false] at hq ⊢; rcases hq with rfl | rfl | rfl <;> simp) ?_
              exact ih56_10 (x56_2_10 + 1) ⟨by omega, by omega⟩ x56_1_10 ⟨by omega, by omega⟩ _ hBc267 (FrM.c (FrM.c (FrM.c FrM.rf hE56_10 rfl) hFc265 rfl) hFc267 rfl) (by have q0 := b0_8 hBc267; have q1 := b0_3 hBc267; have q2 := b0_4 hBc267; have q3 := b0_5 hBc267; omega) (by omega)
            · refine g_iload_n dX12_row_96 rfl ?_
              refine g_aload_n dX12_row_97 rfl ?_
              refine g_iload_n dX12_row_98 rfl ?_
              refine g_vI (av := [vI x56_2_10]) (o := 0) (st := [vI x56_1_10]) (m_X12_columnValues G Pc267 x56_2_10 ⟨by omega, by omega⟩ hBc267 (by have q0 := (((congrFun (hFc267.2 11 rfl rfl) _).trans ((congrFun (hFc265.2 11 rfl rfl) _).trans ((congrFun (hE56_10.2 11 rfl rfl) _).trans ((congrFun (hFc9.2 11 rfl rfl) _).trans ((up_o (by decide)).trans ((up_o (by decide)).trans ((up_o (by decide)).trans ((up_o (by decide)).trans ((up_o (by decide)).trans rfl))))))))) : Pc267 11 (Pc267 0 13) = (P 11 (Pc267 0 13))); have q1 := bl_11 (k := (Pc267 0 13)) hB; have q2 := ((congrArg (Pc267 11) ((hFc267.1 13 rfl).trans ((hFc265.1 13 rfl).trans ((hE56_10.1 13 rfl).trans ((hFc9.1 13 rfl).trans ((up_k (by decide)).trans ((up_k (by decide)).trans ((up_k (by decide)).trans ((up_k (by decide)).trans ((up_k (by decide)).trans rfl)))))))))).trans ((congrFun (hFc267.2 11 rfl rfl) _).trans ((congrFun (hFc265.2 11 rfl rfl) _).trans ((congrFun (hE56_10.2 11 rfl rfl) _).trans ((congrFun (hFc9.2 11 rfl rfl) _).trans ((up_o (by decide)).trans ((up_o (by decide)).trans ((up_o (by decide)).trans ((up_o (by decide)).trans ((up_o (by decide)).trans rfl))))))))) : Pc267 11 (Pc267 0 13) = (P 11 (P 0 13))); have q3 := bl_11 (k := (P 0 13)) hB; omega) (okC.fr (F := ([1, 2, 3, 4, 5, 6, 7, 8, 9, 12, 43], [24, 25, 26, 27])) v_okC (FrM.c (FrM.c (FrM.c (FrM.c (FrM.s (FrM.s (FrM.s (FrM.s (FrM.s FrM.rf rfl) rfl) rfl) rfl) rfl) hFc9 rfl) hE56_10 rfl) hFc265 rfl) hFc267 rfl) rfl) _ (fun rc271 hc271 gc271_v => ⟨rc271, rfl, ?_⟩)) cf_X12_columnValues t_1831 rfl (by decide) rfl rfl rfl (Nat.le_of_ble_eq_true rfl) (by decide) rfl dX12_row_99
              have z272 : Pc267 0 13 = (P 0 13) := ((hFc267.1 13 rfl).trans ((hFc265.1 13 rfl).trans ((hE56_10.1 13 rfl).trans ((hFc9.1 13 rfl).trans ((up_k (by decide)).trans ((up_k (by decide)).trans ((up_k (by decide)).trans ((up_k (by decide)).trans ((up_k (by decide)).trans rfl)))))))))
              refine g_imul dX12_row_102 ?_
              refine g_norm (fun r273 h_r273 e_r273 => ?_)
              refine g_aload_n dX12_row_103 rfl ?_
              refine g_aload_n dX12_row_104 rfl ?_
              refine m_g24 rfl dX12_row_105 ?_
              refine g_iconst dX12_row_108 ?_
              refine g_aload_n dX12_row_109 rfl ?_
              refine m_g13 (z := (P 0 13)) rfl dX12_row_110 ((hFc267.1 13 rfl).trans ((hFc265.1 13 rfl).trans ((hE56_10.1 13 rfl).trans ((hFc9.1 13 rfl).trans ((up_k (by decide)).trans ((up_k (by decide)).trans ((up_k (by decide)).trans ((up_k (by decide)).trans ((up_k (by decide)).trans rfl))))))))) ?_
              refine g_imul dX12_row_113 ?_
              refine g_iload_n dX12_row_114 rfl ?_
              refine g_iadd dX12_row_115 ?_
              refine m_l12 (z := (P 12 ((4 * (P 0 13)) + x56_2_10))) dX12_row_116 ⟨by have q0 := b0_13 hB; omega, by have q0 := b0_13 hB; omega⟩ ((congrFun (hFc267.2 12 rfl rfl) _).trans ((congrFun (hFc265.2 12 rfl rfl) _).trans ((congrFun (hE56_10.2 12 rfl rfl) _).trans ((congrFun (hFc9.2 12 rfl rfl) _).trans ((up_o (by decide)).trans ((up_o (by decide)).trans ((up_o (by decide)).trans ((up_o (by decide)).trans ((up_o (by decide)).trans rfl))))))))) ?_
              have f274 := bl_12 (k := ((4 * (P 0 13)) + x56_2_10)) hB
              refine g_vI (av := [vI (P 12 ((4 * (P 0 13)) + x56_2_10))]) (o := 0) (st := [vI r273]) (m_X12_valueRead G Pc267 (P 12 ((4 * (P 0 13)) + x56_2_10)) ⟨by have q0 := bl_12 (k := ((4 * (P 0 13)) + x56_2_10)) hB; omega, by have q0 := bl_12 (k := ((4 * (P 0 13)) + x56_2_10)) hB; omega⟩ hBc267 (by have q0 := bl_12 (k := ((4 * (P 0 13)) + x56_2_10)) hB; have q1 := b0_3 hBc267; have q2 := b0_4 hBc267; have q3 := b0_5 hBc267; omega) (CF.fr (F := ([1, 2, 3, 4, 5, 6, 7, 8, 9, 12, 43], [24, 25, 26, 27])) v_CF (FrM.c (FrM.c (FrM.c (FrM.c (FrM.s (FrM.s (FrM.s (FrM.s (FrM.s FrM.rf rfl) rfl) rfl) rfl) rfl) hFc9 rfl) hE56_10 rfl) hFc265 rfl) hFc267 rfl) rfl) _ (fun rc275 hc275 Pc275 hBc275 hFc275 gc275_lx gc275_mo gc275_pe => ⟨rc275, rfl, ?_⟩)) cf_X12_valueRead t_1954 rfl (by decide) rfl rfl rfl (Nat.le_of_ble_eq_true rfl) (by decide) rfl dX12_row_117
              refine g_iadd dX12_row_120 ?_
              refine g_norm (fun r276 h_r276 e_r276 => ?_)
              refine g_istore_n (l1 := [(1, vI r276), (0, vR 0), (2, vI x56_2_10)]) dX12_row_121 (by decide) rfl ?_
              refine g_iinc (l1 := [(2, vI (x56_2_10 + 1)), (1, vI r276), (0, vR 0)]) dX12_row_122 rfl (by decide) rfl ?_
              refine g_goto (tgt := 56) dX12_row_125 (by decide) ?_
              refine g_forget (l1 := [(0, vR 0), (1, vI r276), (2, vI (x56_2_10 + 1))]) (by intro q hq; simp only [List.mem_cons, List.not_mem_nil, or_false] at hq ⊢; rcases hq with rfl | rfl | rfl <;> simp) ?_
              exact ih56_10 (x56_2_10 + 1) ⟨by omega, by omega⟩ r276 ⟨by omega, by omega⟩ _ hBc275 (FrM.c (FrM.c (FrM.c (FrM.c FrM.rf hE56_10 rfl) hFc265 rfl) hFc267 rfl) hFc275 rfl) (by have q0 := b0_8 hBc275; have q1 := b0_3 hBc275; have q2 := b0_4 hBc275; have q3 := b0_5 hBc275; omega) (by omega)
    refine g_forget (l1 := [(0, vR 0), (1, vI 0), (2, vI 0)]) (by intro q hq; simp only [List.mem_cons, List.not_mem_nil, or_false] at hq ⊢; rcases hq with rfl | rfl | rfl <;> simp) ?_
    exact L56_10 _ 0 (by decide) 0 (by decide) _ hBc9 FrM.rf (by have q0 := (((hFc9.1 8 rfl).trans ((up_k (by decide)).trans up_same)) : Pc9 0 8 = 0); have q1 := b0_3 hBc9; have q2 := b0_4 hBc9; have q3 := b0_5 hBc9; omega) (Nat.lt_succ_self _)
  · refine g_aload_n dX12_row_37 rfl ?_
    refine g_iconst dX12_row_38 ?_
    refine g_iconst dX12_row_39 ?_
    refine g_vV (av := [vI 1, vI 0]) (o := 0) (st := []) (m_X12_blame G (up (up (up (up (up P 0 2 (P 0 1)) 0 1 0) 0 5 0) 0 8 0) 0 9 (-1)) 1 0 (by decide) (by decide) hB5  _ (fun Pc277 hBc277 hFc277 gc277_f gc277_pe => ⟨rfl, ?_⟩)) cf_X12_blame t_1701 rfl (by decide) rfl rfl rfl (Nat.le_of_ble_eq_true rfl) (by decide) rfl dX12_row_40
    have z278 : (up (up (up (up (up P 0 2 (P 0 1)) 0 1 0) 0 5 0) 0 8 0) 0 9 (-1)) 0 8 = 0 := ((up_k (by decide)).trans up_same)
    refine g_aload_n dX12_row_43 rfl ?_
    refine m_g8 (z := (Pc277 0 8)) rfl dX12_row_44 rfl ?_
    have f279 := b0_8 hBc277
    refine g_if_ne (tgt := 54) dX12_row_47 (by decide) ⟨by have q0 := b0_8 hBc277; omega, by have q0 := b0_8 hBc277; omega⟩ (fun k280 => ?_) (fun k280 => ?_)
    · refine g_iconst dX12_row_54 ?_
      refine g_istore_n (l1 := [(2, vI 0), (1, vI 0), (0, vR 0)]) dX12_row_55 (by decide) rfl ?_
      have L56_280 : ∀ (n56_280 : Nat) (i56_0_280 : 0 < Pc277 0 8 ∨ ((Pc277 0 3 = 0 ∨ Pc277 0 4 + 1 ≤ Pc277 0 5) ∧ Pc277 0 4 ≤ Pc277 0 5)) (hm56_280 : (0 : Int).toNat < n56_280), Go WSM G 6 iX12_row 56 [(0, vR 0), (1, vI 0), (2, vI 0)] [] Pc277 Q := by
        intro n56_280
        induction n56_280 with
        | zero => intro i56_0_280 hm56_280; exact absurd hm56_280 (Nat.not_lt_zero _)
        | succ n56_280 ih56_280 =>
        intro i56_0_280 hm56_280
        refine g_iload_n dX12_row_56 rfl ?_
        refine g_aload_n dX12_row_57 rfl ?_
        refine g_vI (av := []) (o := 0) (st := [vI 0]) (m_X12_columns G Pc277  hBc277  _ (fun rc330 hc330 gc330_c => ⟨rc330, rfl, ?_⟩)) cf_X12_columns t_1827 rfl (by decide) rfl rfl rfl (Nat.le_of_ble_eq_true rfl) (by decide) rfl dX12_row_58
        have z331 : Pc277 0 13 = (P 0 13) := ((hFc277.1 13 rfl).trans ((up_k (by decide)).trans ((up_k (by decide)).trans ((up_k (by decide)).trans ((up_k (by decide)).trans ((up_k (by decide)).trans rfl))))))
        have hcl : rc330 = P 11 (P 0 13) := by have q := gc330_c; rw [show Pc277 0 13 = _ from ((hFc277.1 13 rfl).trans ((up_k (by decide)).trans ((up_k (by decide)).trans ((up_k (by decide)).trans ((up_k (by decide)).trans ((up_k (by decide)).trans rfl)))))), show Pc277 11 (P 0 13) = _ from ((congrFun (hFc277.2 11 rfl rfl) _).trans ((up_o (by decide)).trans ((up_o (by decide)).trans ((up_o (by decide)).trans ((up_o (by decide)).trans ((up_o (by decide)).trans rfl))))))] at q; exact q
        refine g_icmp_ge (tgt := 128) dX12_row_61 (by decide) (by decide) ⟨by omega, by omega⟩ (fun k332 => ?_) (fun k332 => ?_)
        · refine g_aload_n dX12_row_128 rfl ?_
          refine m_g8 (z := (Pc277 0 8)) rfl dX12_row_129 rfl ?_
          refine g_if_ne (tgt := 139) dX12_row_132 (by decide) ⟨by have q0 := b0_8 hBc277; omega, by have q0 := b0_8 hBc277; omega⟩ (fun k333 => ?_) (fun k333 => by exfalso; have q0 := b0_8 hBc277; omega)
          refine g_aload_n dX12_row_139 rfl ?_
          refine m_g8 (z := (Pc277 0 8)) rfl dX12_row_140 rfl ?_
          refine g_if_ne (tgt := 162) dX12_row_143 (by decide) ⟨by have q0 := b0_8 hBc277; omega, by have q0 := b0_8 hBc277; omega⟩ (fun k334 => ?_) (fun k334 => by exfalso; have q0 := b0_8 hBc277; omega)
          refine g_aload_n dX12_row_162 rfl ?_
          refine g_aload_n dX12_row_163 rfl ?_
          refine m_g8 (z := (Pc277 0 8)) rfl dX12_row_164 rfl ?_
          refine m_p10 rfl dX12_row_167 ?_
          have hB335 := bs_10 (z := (Pc277 0 8)) hBc277 ⟨by have q0 := b0_8 hBc277; omega, by have q0 := b0_8 hBc277; omega⟩
          refine g_aload_n dX12_row_170 rfl ?_
          refine g_aload_n dX12_row_171 rfl ?_
          refine m_g9 (z := (Pc277 0 9)) rfl dX12_row_172 ((up_k (by decide)).trans rfl) ?_
          refine m_p11 rfl dX12_row_175 ?_
          have hB336 := bs_11 (z := (Pc277 0 9)) hB335 ⟨by have q0 := b0_9 hBc277; omega, by have q0 := b0_9 hBc277; omega⟩
          refine g_aload_n dX12_row_178 rfl ?_
          refine m_g8 (z := (Pc277 0 8)) rfl dX12_row_179 ((up_k (by decide)).trans ((up_k (by decide)).trans rfl)) ?_
          refine g_if_le (tgt := 193) dX12_row_182 (by decide) ⟨by have q0 := b0_8 hBc277; omega, by have q0 := b0_8 hBc277; omega⟩ (fun k337 => by exfalso; have q0 := b0_8 hBc277; omega) (fun k337 => ?_)
          refine g_aload_n dX12_row_185 rfl ?_
          refine g_iconst dX12_row_186 ?_
          refine g_vI (av := [vI 1]) (o := 0) (st := []) (m_X12_refuses G (up (up Pc277 0 10 (Pc277 0 8)) 0 11 (Pc277 0 9)) 1 (by decide) hB336  _ (fun rc338 hc338 Pc338 hBc338 hFc338 => ⟨rc338, rfl, ?_⟩)) cf_X12_refuses t_1667 rfl (by decide) rfl rfl rfl (Nat.le_of_ble_eq_true rfl) (by decide) rfl dX12_row_187
          refine g_goto (tgt := 194) dX12_row_190 (by decide) ?_
          exact g_retI dX12_row_194 rfl (hQ rc338 ⟨by omega, by omega⟩ _ hBc338 (FrM.c (FrM.s (FrM.s (FrM.c (FrM.s (FrM.s (FrM.s (FrM.s (FrM.s FrM.rf rfl) rfl) rfl) rfl) rfl) hFc277 rfl) rfl) rfl) hFc338 rfl) (by have q0 := (((hFc338.1 1 rfl).trans ((up_k (by decide)).trans ((up_k (by decide)).trans ((hFc277.1 1 rfl).trans ((up_k (by decide)).trans ((up_k (by decide)).trans ((up_k (by decide)).trans up_same))))))) : Pc338 0 1 = 0); omega))
        · refine g_aload_n dX12_row_64 rfl ?_
          refine m_g8 (z := (Pc277 0 8)) rfl dX12_row_65 rfl ?_
          refine g_if_ne (tgt := 128) dX12_row_68 (by decide) ⟨by have q0 := b0_8 hBc277; omega, by have q0 := b0_8 hBc277; omega⟩ (fun k339 => ?_) (fun k339 => by exfalso; have q0 := b0_8 hBc277; omega)
          refine g_aload_n dX12_row_128 rfl ?_
          refine m_g8 (z := (Pc277 0 8)) rfl dX12_row_129 rfl ?_
          refine g_if_ne (tgt := 139) dX12_row_132 (by decide) ⟨by have q0 := b0_8 hBc277; omega, by have q0 := b0_8 hBc277; omega⟩ (fun k340 => ?_) (fun k340 => by exfalso; have q0 := b0_8 hBc277; omega)
          refine g_aload_n dX12_row_139 rfl ?_
          refine m_g8 (z := (Pc277 0 8)) rfl dX12_row_140 rfl ?_
          refine g_if_ne (tgt := 162) dX12_row_143 (by decide) ⟨by have q0 := b0_8 hBc277; omega, by have q0 := b0_8 hBc277; omega⟩ (fun k341 => ?_) (fun k341 => by exfalso; have q0 := b0_8 hBc277; omega)
          refine g_aload_n dX12_row_162 rfl ?_
          refine g_aload_n dX12_row_163 rfl ?_
          refine m_g8 (z := (Pc277 0 8)) rfl dX12_row_164 rfl ?_
          refine m_p10 rfl dX12_row_167 ?_
          have hB342 := bs_10 (z := (Pc277 0 8)) hBc277 ⟨by have q0 := b0_8 hBc277; omega, by have q0 := b0_8 hBc277; omega⟩
          refine g_aload_n dX12_row_170 rfl ?_
          refine g_aload_n dX12_row_171 rfl ?_
          refine m_g9 (z := (Pc277 0 9)) rfl dX12_row_172 ((up_k (by decide)).trans rfl) ?_
          refine m_p11 rfl dX12_row_175 ?_
          have hB343 := bs_11 (z := (Pc277 0 9)) hB342 ⟨by have q0 := b0_9 hBc277; omega, by have q0 := b0_9 hBc277; omega⟩
          refine g_aload_n dX12_row_178 rfl ?_
          refine m_g8 (z := (Pc277 0 8)) rfl dX12_row_179 ((up_k (by decide)).trans ((up_k (by decide)).trans rfl)) ?_
          refine g_if_le (tgt := 193) dX12_row_182 (by decide) ⟨by have q0 := b0_8 hBc277; omega, by have q0 := b0_8 hBc277; omega⟩ (fun k344 => by exfalso; have q0 := b0_8 hBc277; omega) (fun k344 => ?_)
          refine g_aload_n dX12_row_185 rfl ?_
          refine g_iconst dX12_row_186 ?_
          refine g_vI (av := [vI 1]) (o := 0) (st := []) (m_X12_refuses G (up (up Pc277 0 10 (Pc277 0 8)) 0 11 (Pc277 0 9)) 1 (by decide) hB343  _ (fun rc345 hc345 Pc345 hBc345 hFc345 => ⟨rc345, rfl, ?_⟩)) cf_X12_refuses t_1667 rfl (by decide) rfl rfl rfl (Nat.le_of_ble_eq_true rfl) (by decide) rfl dX12_row_187
          refine g_goto (tgt := 194) dX12_row_190 (by decide) ?_
          exact g_retI dX12_row_194 rfl (hQ rc345 ⟨by omega, by omega⟩ _ hBc345 (FrM.c (FrM.s (FrM.s (FrM.c (FrM.s (FrM.s (FrM.s (FrM.s (FrM.s FrM.rf rfl) rfl) rfl) rfl) rfl) hFc277 rfl) rfl) rfl) hFc345 rfl) (by have q0 := (((hFc345.1 1 rfl).trans ((up_k (by decide)).trans ((up_k (by decide)).trans ((hFc277.1 1 rfl).trans ((up_k (by decide)).trans ((up_k (by decide)).trans ((up_k (by decide)).trans up_same))))))) : Pc345 0 1 = 0); omega))
      refine g_forget (l1 := [(0, vR 0), (1, vI 0), (2, vI 0)]) (by intro q hq; simp only [List.mem_cons, List.not_mem_nil, or_false] at hq ⊢; rcases hq with rfl | rfl | rfl <;> simp) ?_
      exact L56_280 _ (by have q0 := b0_8 hBc277; have q1 := (((hFc277.1 3 rfl).trans ((up_k (by decide)).trans ((up_k (by decide)).trans ((up_k (by decide)).trans ((up_k (by decide)).trans ((up_k (by decide)).trans rfl)))))) : Pc277 0 3 = (P 0 3)); have q2 := b0_3 hB; have q3 := (((hFc277.1 4 rfl).trans ((up_k (by decide)).trans ((up_k (by decide)).trans ((up_k (by decide)).trans ((up_k (by decide)).trans ((up_k (by decide)).trans rfl)))))) : Pc277 0 4 = (P 0 4)); have q4 := b0_4 hB; have q5 := (((hFc277.1 5 rfl).trans ((up_k (by decide)).trans ((up_k (by decide)).trans up_same))) : Pc277 0 5 = 0); omega) (Nat.lt_succ_self _)
    · refine g_aload_n dX12_row_50 rfl ?_
      refine g_vV (av := []) (o := 0) (st := []) (m_X12_ahead G Pc277  hBc277  _ (fun Pc346 hBc346 hFc346 gc346_lx gc346_nx => ⟨rfl, ?_⟩)) cf_X12_ahead t_1683 rfl (by decide) rfl rfl rfl (Nat.le_of_ble_eq_true rfl) (by decide) rfl dX12_row_51
      have z347 : Pc277 0 5 = 0 := ((hFc277.1 5 rfl).trans ((up_k (by decide)).trans ((up_k (by decide)).trans up_same)))
      refine g_iconst dX12_row_54 ?_
      refine g_istore_n (l1 := [(2, vI 0), (1, vI 0), (0, vR 0)]) dX12_row_55 (by decide) rfl ?_
      have L56_347 : ∀ (n56_347 : Nat) (x56_2_347 : Int) (h_x56_2_347 : 0 ≤ x56_2_347 ∧ x56_2_347 ≤ 4) (x56_1_347 : Int) (h_x56_1_347 : (-2147483648) ≤ x56_1_347 ∧ x56_1_347 ≤ 2147483647) (H56_347 : PH) (hB56_347 : BdM H56_347) (hE56_347 : FrM ([3, 4, 5, 6, 7, 8, 9, 12, 43], [24, 25, 26, 27]) Pc346 H56_347) (i56_0_347 : 0 < H56_347 0 8 ∨ ((H56_347 0 3 = 0 ∨ H56_347 0 4 + 1 ≤ H56_347 0 5) ∧ H56_347 0 4 ≤ H56_347 0 5)) (hm56_347 : ((5 - x56_2_347) : Int).toNat < n56_347), Go WSM G 6 iX12_row 56 [(0, vR 0), (1, vI x56_1_347), (2, vI x56_2_347)] [] H56_347 Q := by
        intro n56_347
        induction n56_347 with
        | zero => intro x56_2_347 h_x56_2_347 x56_1_347 h_x56_1_347 H56_347 hB56_347 hE56_347 i56_0_347 hm56_347; exact absurd hm56_347 (Nat.not_lt_zero _)
        | succ n56_347 ih56_347 =>
        intro x56_2_347 h_x56_2_347 x56_1_347 h_x56_1_347 H56_347 hB56_347 hE56_347 i56_0_347 hm56_347
        refine g_iload_n dX12_row_56 rfl ?_
        refine g_aload_n dX12_row_57 rfl ?_
        refine g_vI (av := []) (o := 0) (st := [vI x56_2_347]) (m_X12_columns G H56_347  hB56_347  _ (fun rc556 hc556 gc556_c => ⟨rc556, rfl, ?_⟩)) cf_X12_columns t_1827 rfl (by decide) rfl rfl rfl (Nat.le_of_ble_eq_true rfl) (by decide) rfl dX12_row_58
        have z557 : H56_347 0 13 = (P 0 13) := ((hE56_347.1 13 rfl).trans ((hFc346.1 13 rfl).trans ((hFc277.1 13 rfl).trans ((up_k (by decide)).trans ((up_k (by decide)).trans ((up_k (by decide)).trans ((up_k (by decide)).trans ((up_k (by decide)).trans rfl))))))))
        have hcl : rc556 = P 11 (P 0 13) := by have q := gc556_c; rw [show H56_347 0 13 = _ from ((hE56_347.1 13 rfl).trans ((hFc346.1 13 rfl).trans ((hFc277.1 13 rfl).trans ((up_k (by decide)).trans ((up_k (by decide)).trans ((up_k (by decide)).trans ((up_k (by decide)).trans ((up_k (by decide)).trans rfl)))))))), show H56_347 11 (P 0 13) = _ from ((congrFun (hE56_347.2 11 rfl rfl) _).trans ((congrFun (hFc346.2 11 rfl rfl) _).trans ((congrFun (hFc277.2 11 rfl rfl) _).trans ((up_o (by decide)).trans ((up_o (by decide)).trans ((up_o (by decide)).trans ((up_o (by decide)).trans ((up_o (by decide)).trans rfl))))))))] at q; exact q
        refine g_icmp_ge (tgt := 128) dX12_row_61 (by decide) ⟨by omega, by omega⟩ ⟨by omega, by omega⟩ (fun k558 => ?_) (fun k558 => ?_)
        · refine g_aload_n dX12_row_128 rfl ?_
          refine m_g8 (z := (H56_347 0 8)) rfl dX12_row_129 rfl ?_
          have f559 := b0_8 hB56_347
          refine g_if_ne (tgt := 139) dX12_row_132 (by decide) ⟨by have q0 := b0_8 hB56_347; omega, by have q0 := b0_8 hB56_347; omega⟩ (fun k560 => ?_) (fun k560 => ?_)
          · refine g_aload_n dX12_row_139 rfl ?_
            refine m_g8 (z := (H56_347 0 8)) rfl dX12_row_140 rfl ?_
            refine g_if_ne (tgt := 162) dX12_row_143 (by decide) ⟨by have q0 := b0_8 hB56_347; omega, by have q0 := b0_8 hB56_347; omega⟩ (fun k561 => ?_) (fun k561 => by exfalso; have q0 := b0_8 hB56_347; omega)
            refine g_aload_n dX12_row_162 rfl ?_
            refine g_aload_n dX12_row_163 rfl ?_
            refine m_g8 (z := (H56_347 0 8)) rfl dX12_row_164 rfl ?_
            refine m_p10 rfl dX12_row_167 ?_
            have hB562 := bs_10 (z := (H56_347 0 8)) hB56_347 ⟨by have q0 := b0_8 hB56_347; omega, by have q0 := b0_8 hB56_347; omega⟩
            refine g_aload_n dX12_row_170 rfl ?_
            refine g_aload_n dX12_row_171 rfl ?_
            refine m_g9 (z := (H56_347 0 9)) rfl dX12_row_172 ((up_k (by decide)).trans rfl) ?_
            refine m_p11 rfl dX12_row_175 ?_
            have hB563 := bs_11 (z := (H56_347 0 9)) hB562 ⟨by have q0 := b0_9 hB56_347; omega, by have q0 := b0_9 hB56_347; omega⟩
            refine g_aload_n dX12_row_178 rfl ?_
            refine m_g8 (z := (H56_347 0 8)) rfl dX12_row_179 ((up_k (by decide)).trans ((up_k (by decide)).trans rfl)) ?_
            refine g_if_le (tgt := 193) dX12_row_182 (by decide) ⟨by have q0 := b0_8 hB56_347; omega, by have q0 := b0_8 hB56_347; omega⟩ (fun k564 => by exfalso; have q0 := b0_8 hB56_347; omega) (fun k564 => ?_)
            refine g_aload_n dX12_row_185 rfl ?_
            refine g_iconst dX12_row_186 ?_
            refine g_vI (av := [vI 1]) (o := 0) (st := []) (m_X12_refuses G (up (up H56_347 0 10 (H56_347 0 8)) 0 11 (H56_347 0 9)) 1 (by decide) hB563  _ (fun rc565 hc565 Pc565 hBc565 hFc565 => ⟨rc565, rfl, ?_⟩)) cf_X12_refuses t_1667 rfl (by decide) rfl rfl rfl (Nat.le_of_ble_eq_true rfl) (by decide) rfl dX12_row_187
            refine g_goto (tgt := 194) dX12_row_190 (by decide) ?_
            exact g_retI dX12_row_194 rfl (hQ rc565 ⟨by omega, by omega⟩ _ hBc565 (FrM.c (FrM.s (FrM.s (FrM.c (FrM.c (FrM.c (FrM.s (FrM.s (FrM.s (FrM.s (FrM.s FrM.rf rfl) rfl) rfl) rfl) rfl) hFc277 rfl) hFc346 rfl) hE56_347 rfl) rfl) rfl) hFc565 rfl) (by have q0 := (((hFc565.1 1 rfl).trans ((up_k (by decide)).trans ((up_k (by decide)).trans ((hE56_347.1 1 rfl).trans ((hFc346.1 1 rfl).trans ((hFc277.1 1 rfl).trans ((up_k (by decide)).trans ((up_k (by decide)).trans ((up_k (by decide)).trans up_same))))))))) : Pc565 0 1 = 0); omega))
          · refine g_aload_n dX12_row_135 rfl ?_
            refine g_vV (av := []) (o := 0) (st := []) (m_X12_lex G H56_347  hB56_347  _ (fun Pc566 hBc566 hFc566 gc566_pe => ⟨rfl, ?_⟩)) cf_X12_lex t_1697 rfl (by decide) rfl rfl rfl (Nat.le_of_ble_eq_true rfl) (by decide) rfl dX12_row_136
            refine g_aload_n dX12_row_139 rfl ?_
            refine m_g8 (z := (Pc566 0 8)) rfl dX12_row_140 rfl ?_
            have f567 := b0_8 hBc566
            refine g_if_ne (tgt := 162) dX12_row_143 (by decide) ⟨by have q0 := b0_8 hBc566; omega, by have q0 := b0_8 hBc566; omega⟩ (fun k568 => ?_) (fun k568 => ?_)
            · refine g_aload_n dX12_row_162 rfl ?_
              refine g_aload_n dX12_row_163 rfl ?_
              refine m_g8 (z := (Pc566 0 8)) rfl dX12_row_164 rfl ?_
              refine m_p10 rfl dX12_row_167 ?_
              have hB569 := bs_10 (z := (Pc566 0 8)) hBc566 ⟨by have q0 := b0_8 hBc566; omega, by have q0 := b0_8 hBc566; omega⟩
              refine g_aload_n dX12_row_170 rfl ?_
              refine g_aload_n dX12_row_171 rfl ?_
              refine m_g9 (z := (Pc566 0 9)) rfl dX12_row_172 ((up_k (by decide)).trans rfl) ?_
              refine m_p11 rfl dX12_row_175 ?_
              have hB570 := bs_11 (z := (Pc566 0 9)) hB569 ⟨by have q0 := b0_9 hBc566; omega, by have q0 := b0_9 hBc566; omega⟩
              refine g_aload_n dX12_row_178 rfl ?_
              refine m_g8 (z := (Pc566 0 8)) rfl dX12_row_179 ((up_k (by decide)).trans ((up_k (by decide)).trans rfl)) ?_
              refine g_if_le (tgt := 193) dX12_row_182 (by decide) ⟨by have q0 := b0_8 hBc566; omega, by have q0 := b0_8 hBc566; omega⟩ (fun k571 => by exfalso; have q0 := b0_8 hBc566; omega) (fun k571 => ?_)
              refine g_aload_n dX12_row_185 rfl ?_
              refine g_iconst dX12_row_186 ?_
              refine g_vI (av := [vI 1]) (o := 0) (st := []) (m_X12_refuses G (up (up Pc566 0 10 (Pc566 0 8)) 0 11 (Pc566 0 9)) 1 (by decide) hB570  _ (fun rc572 hc572 Pc572 hBc572 hFc572 => ⟨rc572, rfl, ?_⟩)) cf_X12_refuses t_1667 rfl (by decide) rfl rfl rfl (Nat.le_of_ble_eq_true rfl) (by decide) rfl dX12_row_187
              refine g_goto (tgt := 194) dX12_row_190 (by decide) ?_
              exact g_retI dX12_row_194 rfl (hQ rc572 ⟨by omega, by omega⟩ _ hBc572 (FrM.c (FrM.s (FrM.s (FrM.c (FrM.c (FrM.c (FrM.c (FrM.s (FrM.s (FrM.s (FrM.s (FrM.s FrM.rf rfl) rfl) rfl) rfl) rfl) hFc277 rfl) hFc346 rfl) hE56_347 rfl) hFc566 rfl) rfl) rfl) hFc572 rfl) (by have q0 := (((hFc572.1 1 rfl).trans ((up_k (by decide)).trans ((up_k (by decide)).trans ((hFc566.1 1 rfl).trans ((hE56_347.1 1 rfl).trans ((hFc346.1 1 rfl).trans ((hFc277.1 1 rfl).trans ((up_k (by decide)).trans ((up_k (by decide)).trans ((up_k (by decide)).trans up_same)))))))))) : Pc572 0 1 = 0); omega))
            · refine g_aload_n dX12_row_146 rfl ?_
              refine m_g3 (z := (H56_347 0 3)) rfl dX12_row_147 ((hFc566.1 3 rfl).trans rfl) ?_
              have f573 := b0_3 hB56_347
              refine g_if_eq (tgt := 162) dX12_row_150 (by decide) ⟨by have q0 := b0_3 hB56_347; omega, by have q0 := b0_3 hB56_347; omega⟩ (fun k574 => ?_) (fun k574 => ?_)
              · refine g_aload_n dX12_row_162 rfl ?_
                refine g_aload_n dX12_row_163 rfl ?_
                refine m_g8 (z := (Pc566 0 8)) rfl dX12_row_164 rfl ?_
                refine m_p10 rfl dX12_row_167 ?_
                have hB575 := bs_10 (z := (Pc566 0 8)) hBc566 ⟨by have q0 := b0_8 hBc566; omega, by have q0 := b0_8 hBc566; omega⟩
                refine g_aload_n dX12_row_170 rfl ?_
                refine g_aload_n dX12_row_171 rfl ?_
                refine m_g9 (z := (Pc566 0 9)) rfl dX12_row_172 ((up_k (by decide)).trans rfl) ?_
                refine m_p11 rfl dX12_row_175 ?_
                have hB576 := bs_11 (z := (Pc566 0 9)) hB575 ⟨by have q0 := b0_9 hBc566; omega, by have q0 := b0_9 hBc566; omega⟩
                refine g_aload_n dX12_row_178 rfl ?_
                refine m_g8 (z := (Pc566 0 8)) rfl dX12_row_179 ((up_k (by decide)).trans ((up_k (by decide)).trans rfl)) ?_
                refine g_if_le (tgt := 193) dX12_row_182 (by decide) ⟨by have q0 := b0_8 hBc566; omega, by have q0 := b0_8 hBc566; omega⟩ (fun k577 => ?_) (fun k577 => by exfalso; have q0 := b0_8 hBc566; omega)
                refine g_iload_n dX12_row_193 rfl ?_
                exact g_retI dX12_row_194 rfl (hQ x56_1_347 ⟨by omega, by omega⟩ _ hB576 (FrM.s (FrM.s (FrM.c (FrM.c (FrM.c (FrM.c (FrM.s (FrM.s (FrM.s (FrM.s (FrM.s FrM.rf rfl) rfl) rfl) rfl) rfl) hFc277 rfl) hFc346 rfl) hE56_347 rfl) hFc566 rfl) rfl) rfl) (by have q0 := (((up_k (by decide)).trans ((up_k (by decide)).trans ((hFc566.1 1 rfl).trans ((hE56_347.1 1 rfl).trans ((hFc346.1 1 rfl).trans ((hFc277.1 1 rfl).trans ((up_k (by decide)).trans ((up_k (by decide)).trans ((up_k (by decide)).trans up_same))))))))) : (up (up Pc566 0 10 (Pc566 0 8)) 0 11 (Pc566 0 9)) 0 1 = 0); omega))
              · refine g_aload_n dX12_row_153 rfl ?_
                refine g_iconst dX12_row_154 ?_
                refine g_aload_n dX12_row_155 rfl ?_
                refine m_g4 (z := (H56_347 0 4)) rfl dX12_row_156 ((hFc566.1 4 rfl).trans rfl) ?_
                have f578 := b0_4 hB56_347
                refine g_vV (av := [vI 1, vI (H56_347 0 4)]) (o := 0) (st := []) (m_X12_blame G Pc566 1 (H56_347 0 4) (by decide) ⟨by have q0 := b0_4 hB56_347; omega, by have q0 := b0_4 hB56_347; omega⟩ hBc566  _ (fun Pc579 hBc579 hFc579 gc579_f gc579_pe => ⟨rfl, ?_⟩)) cf_X12_blame t_1701 rfl (by decide) rfl rfl rfl (Nat.le_of_ble_eq_true rfl) (by decide) rfl dX12_row_159
                refine g_aload_n dX12_row_162 rfl ?_
                refine g_aload_n dX12_row_163 rfl ?_
                refine m_g8 (z := (Pc579 0 8)) rfl dX12_row_164 rfl ?_
                refine m_p10 rfl dX12_row_167 ?_
                have hB580 := bs_10 (z := (Pc579 0 8)) hBc579 ⟨by have q0 := b0_8 hBc579; omega, by have q0 := b0_8 hBc579; omega⟩
                refine g_aload_n dX12_row_170 rfl ?_
                refine g_aload_n dX12_row_171 rfl ?_
                refine m_g9 (z := (Pc579 0 9)) rfl dX12_row_172 ((up_k (by decide)).trans rfl) ?_
                refine m_p11 rfl dX12_row_175 ?_
                have hB581 := bs_11 (z := (Pc579 0 9)) hB580 ⟨by have q0 := b0_9 hBc579; omega, by have q0 := b0_9 hBc579; omega⟩
                refine g_aload_n dX12_row_178 rfl ?_
                refine m_g8 (z := (Pc579 0 8)) rfl dX12_row_179 ((up_k (by decide)).trans ((up_k (by decide)).trans rfl)) ?_
                have f582 := b0_8 hBc579
                refine g_if_le (tgt := 193) dX12_row_182 (by decide) ⟨by have q0 := b0_8 hBc579; omega, by have q0 := b0_8 hBc579; omega⟩ (fun k583 => ?_) (fun k583 => ?_)
                · refine g_iload_n dX12_row_193 rfl ?_
                  exact g_retI dX12_row_194 rfl (hQ x56_1_347 ⟨by omega, by omega⟩ _ hB581 (FrM.s (FrM.s (FrM.c (FrM.c (FrM.c (FrM.c (FrM.c (FrM.s (FrM.s (FrM.s (FrM.s (FrM.s FrM.rf rfl) rfl) rfl) rfl) rfl) hFc277 rfl) hFc346 rfl) hE56_347 rfl) hFc566 rfl) hFc579 rfl) rfl) rfl) (by have q0 := (((up_k (by decide)).trans ((up_k (by decide)).trans ((hFc579.1 1 rfl).trans ((hFc566.1 1 rfl).trans ((hE56_347.1 1 rfl).trans ((hFc346.1 1 rfl).trans ((hFc277.1 1 rfl).trans ((up_k (by decide)).trans ((up_k (by decide)).trans ((up_k (by decide)).trans up_same)))))))))) : (up (up Pc579 0 10 (Pc579 0 8)) 0 11 (Pc579 0 9)) 0 1 = 0); omega))
                · refine g_aload_n dX12_row_185 rfl ?_
                  refine g_iconst dX12_row_186 ?_
                  refine g_vI (av := [vI 1]) (o := 0) (st := []) (m_X12_refuses G (up (up Pc579 0 10 (Pc579 0 8)) 0 11 (Pc579 0 9)) 1 (by decide) hB581  _ (fun rc584 hc584 Pc584 hBc584 hFc584 => ⟨rc584, rfl, ?_⟩)) cf_X12_refuses t_1667 rfl (by decide) rfl rfl rfl (Nat.le_of_ble_eq_true rfl) (by decide) rfl dX12_row_187
                  refine g_goto (tgt := 194) dX12_row_190 (by decide) ?_
                  exact g_retI dX12_row_194 rfl (hQ rc584 ⟨by omega, by omega⟩ _ hBc584 (FrM.c (FrM.s (FrM.s (FrM.c (FrM.c (FrM.c (FrM.c (FrM.c (FrM.s (FrM.s (FrM.s (FrM.s (FrM.s FrM.rf rfl) rfl) rfl) rfl) rfl) hFc277 rfl) hFc346 rfl) hE56_347 rfl) hFc566 rfl) hFc579 rfl) rfl) rfl) hFc584 rfl) (by have q0 := (((hFc584.1 1 rfl).trans ((up_k (by decide)).trans ((up_k (by decide)).trans ((hFc579.1 1 rfl).trans ((hFc566.1 1 rfl).trans ((hE56_347.1 1 rfl).trans ((hFc346.1 1 rfl).trans ((hFc277.1 1 rfl).trans ((up_k (by decide)).trans ((up_k (by decide)).trans ((up_k (by decide)).trans up_same))))))))))) : Pc584 0 1 = 0); omega))
        · refine g_aload_n dX12_row_64 rfl ?_
          refine m_g8 (z := (H56_347 0 8)) rfl dX12_row_65 rfl ?_
          have f585 := b0_8 hB56_347
          refine g_if_ne (tgt := 128) dX12_row_68 (by decide) ⟨by have q0 := b0_8 hB56_347; omega, by have q0 := b0_8 hB56_347; omega⟩ (fun k586 => ?_) (fun k586 => ?_)
          · refine g_aload_n dX12_row_128 rfl ?_
            refine m_g8 (z := (H56_347 0 8)) rfl dX12_row_129 rfl ?_
            refine g_if_ne (tgt := 139) dX12_row_132 (by decide) ⟨by have q0 := b0_8 hB56_347; omega, by have q0 := b0_8 hB56_347; omega⟩ (fun k587 => ?_) (fun k587 => by exfalso; have q0 := b0_8 hB56_347; omega)
            refine g_aload_n dX12_row_139 rfl ?_
            refine m_g8 (z := (H56_347 0 8)) rfl dX12_row_140 rfl ?_
            refine g_if_ne (tgt := 162) dX12_row_143 (by decide) ⟨by have q0 := b0_8 hB56_347; omega, by have q0 := b0_8 hB56_347; omega⟩ (fun k588 => ?_) (fun k588 => by exfalso; have q0 := b0_8 hB56_347; omega)
            refine g_aload_n dX12_row_162 rfl ?_
            refine g_aload_n dX12_row_163 rfl ?_
            refine m_g8 (z := (H56_347 0 8)) rfl dX12_row_164 rfl ?_
            refine m_p10 rfl dX12_row_167 ?_
            have hB589 := bs_10 (z := (H56_347 0 8)) hB56_347 ⟨by have q0 := b0_8 hB56_347; omega, by have q0 := b0_8 hB56_347; omega⟩
            refine g_aload_n dX12_row_170 rfl ?_
            refine g_aload_n dX12_row_171 rfl ?_
            refine m_g9 (z := (H56_347 0 9)) rfl dX12_row_172 ((up_k (by decide)).trans rfl) ?_
            refine m_p11 rfl dX12_row_175 ?_
            have hB590 := bs_11 (z := (H56_347 0 9)) hB589 ⟨by have q0 := b0_9 hB56_347; omega, by have q0 := b0_9 hB56_347; omega⟩
            refine g_aload_n dX12_row_178 rfl ?_
            refine m_g8 (z := (H56_347 0 8)) rfl dX12_row_179 ((up_k (by decide)).trans ((up_k (by decide)).trans rfl)) ?_
            refine g_if_le (tgt := 193) dX12_row_182 (by decide) ⟨by have q0 := b0_8 hB56_347; omega, by have q0 := b0_8 hB56_347; omega⟩ (fun k591 => by exfalso; have q0 := b0_8 hB56_347; omega) (fun k591 => ?_)
            refine g_aload_n dX12_row_185 rfl ?_
            refine g_iconst dX12_row_186 ?_
            refine g_vI (av := [vI 1]) (o := 0) (st := []) (m_X12_refuses G (up (up H56_347 0 10 (H56_347 0 8)) 0 11 (H56_347 0 9)) 1 (by decide) hB590  _ (fun rc592 hc592 Pc592 hBc592 hFc592 => ⟨rc592, rfl, ?_⟩)) cf_X12_refuses t_1667 rfl (by decide) rfl rfl rfl (Nat.le_of_ble_eq_true rfl) (by decide) rfl dX12_row_187
            refine g_goto (tgt := 194) dX12_row_190 (by decide) ?_
            exact g_retI dX12_row_194 rfl (hQ rc592 ⟨by omega, by omega⟩ _ hBc592 (FrM.c (FrM.s (FrM.s (FrM.c (FrM.c (FrM.c (FrM.s (FrM.s (FrM.s (FrM.s (FrM.s FrM.rf rfl) rfl) rfl) rfl) rfl) hFc277 rfl) hFc346 rfl) hE56_347 rfl) rfl) rfl) hFc592 rfl) (by have q0 := (((hFc592.1 1 rfl).trans ((up_k (by decide)).trans ((up_k (by decide)).trans ((hE56_347.1 1 rfl).trans ((hFc346.1 1 rfl).trans ((hFc277.1 1 rfl).trans ((up_k (by decide)).trans ((up_k (by decide)).trans ((up_k (by decide)).trans up_same))))))))) : Pc592 0 1 = 0); omega))
          · refine g_iload_n dX12_row_71 rfl ?_
            refine g_if_le (tgt := 79) dX12_row_72 (by decide) ⟨by omega, by omega⟩ (fun k593 => ?_) (fun k593 => ?_)
            · refine g_iload_n dX12_row_79 rfl ?_
              refine g_if_le (tgt := 89) dX12_row_80 (by decide) ⟨by omega, by omega⟩ (fun k594 => ?_) (fun k594 => by exfalso; omega)
              refine g_aload_n dX12_row_89 rfl ?_
              refine m_g8 (z := (H56_347 0 8)) rfl dX12_row_90 rfl ?_
              refine g_if_ne (tgt := 122) dX12_row_93 (by decide) ⟨by have q0 := b0_8 hB56_347; omega, by have q0 := b0_8 hB56_347; omega⟩ (fun k595 => by exfalso; have q0 := b0_8 hB56_347; omega) (fun k595 => ?_)
              refine g_iload_n dX12_row_96 rfl ?_
              refine g_aload_n dX12_row_97 rfl ?_
              refine g_iload_n dX12_row_98 rfl ?_
              refine g_vI (av := [vI x56_2_347]) (o := 0) (st := [vI x56_1_347]) (m_X12_columnValues G H56_347 x56_2_347 ⟨by omega, by omega⟩ hB56_347 (by have q0 := (((congrFun (hE56_347.2 11 rfl rfl) _).trans ((congrFun (hFc346.2 11 rfl rfl) _).trans ((congrFun (hFc277.2 11 rfl rfl) _).trans ((up_o (by decide)).trans ((up_o (by decide)).trans ((up_o (by decide)).trans ((up_o (by decide)).trans ((up_o (by decide)).trans rfl)))))))) : H56_347 11 (H56_347 0 13) = (P 11 (H56_347 0 13))); have q1 := bl_11 (k := (H56_347 0 13)) hB; have q2 := ((congrArg (H56_347 11) ((hE56_347.1 13 rfl).trans ((hFc346.1 13 rfl).trans ((hFc277.1 13 rfl).trans ((up_k (by decide)).trans ((up_k (by decide)).trans ((up_k (by decide)).trans ((up_k (by decide)).trans ((up_k (by decide)).trans rfl))))))))).trans ((congrFun (hE56_347.2 11 rfl rfl) _).trans ((congrFun (hFc346.2 11 rfl rfl) _).trans ((congrFun (hFc277.2 11 rfl rfl) _).trans ((up_o (by decide)).trans ((up_o (by decide)).trans ((up_o (by decide)).trans ((up_o (by decide)).trans ((up_o (by decide)).trans rfl)))))))) : H56_347 11 (H56_347 0 13) = (P 11 (P 0 13))); have q3 := bl_11 (k := (P 0 13)) hB; omega) (okC.fr (F := ([1, 2, 3, 4, 5, 6, 7, 8, 9, 12, 43], [24, 25, 26, 27])) v_okC (FrM.c (FrM.c (FrM.c (FrM.s (FrM.s (FrM.s (FrM.s (FrM.s FrM.rf rfl) rfl) rfl) rfl) rfl) hFc277 rfl) hFc346 rfl) hE56_347 rfl) rfl) _ (fun rc596 hc596 gc596_v => ⟨rc596, rfl, ?_⟩)) cf_X12_columnValues t_1831 rfl (by decide) rfl rfl rfl (Nat.le_of_ble_eq_true rfl) (by decide) rfl dX12_row_99
              have z597 : H56_347 0 13 = (P 0 13) := ((hE56_347.1 13 rfl).trans ((hFc346.1 13 rfl).trans ((hFc277.1 13 rfl).trans ((up_k (by decide)).trans ((up_k (by decide)).trans ((up_k (by decide)).trans ((up_k (by decide)).trans ((up_k (by decide)).trans rfl))))))))
              refine g_imul dX12_row_102 ?_
              refine g_norm (fun r598 h_r598 e_r598 => ?_)
              refine g_aload_n dX12_row_103 rfl ?_
              refine g_aload_n dX12_row_104 rfl ?_
              refine m_g24 rfl dX12_row_105 ?_
              refine g_iconst dX12_row_108 ?_
              refine g_aload_n dX12_row_109 rfl ?_
              refine m_g13 (z := (P 0 13)) rfl dX12_row_110 ((hE56_347.1 13 rfl).trans ((hFc346.1 13 rfl).trans ((hFc277.1 13 rfl).trans ((up_k (by decide)).trans ((up_k (by decide)).trans ((up_k (by decide)).trans ((up_k (by decide)).trans ((up_k (by decide)).trans rfl)))))))) ?_
              refine g_imul dX12_row_113 ?_
              refine g_iload_n dX12_row_114 rfl ?_
              refine g_iadd dX12_row_115 ?_
              refine m_l12 (z := (P 12 ((4 * (P 0 13)) + x56_2_347))) dX12_row_116 ⟨by have q0 := b0_13 hB; omega, by have q0 := b0_13 hB; omega⟩ ((congrFun (hE56_347.2 12 rfl rfl) _).trans ((congrFun (hFc346.2 12 rfl rfl) _).trans ((congrFun (hFc277.2 12 rfl rfl) _).trans ((up_o (by decide)).trans ((up_o (by decide)).trans ((up_o (by decide)).trans ((up_o (by decide)).trans ((up_o (by decide)).trans rfl)))))))) ?_
              have f599 := bl_12 (k := ((4 * (P 0 13)) + x56_2_347)) hB
              refine g_vI (av := [vI (P 12 ((4 * (P 0 13)) + x56_2_347))]) (o := 0) (st := [vI r598]) (m_X12_valueRead G H56_347 (P 12 ((4 * (P 0 13)) + x56_2_347)) ⟨by have q0 := bl_12 (k := ((4 * (P 0 13)) + x56_2_347)) hB; omega, by have q0 := bl_12 (k := ((4 * (P 0 13)) + x56_2_347)) hB; omega⟩ hB56_347 (by have q0 := bl_12 (k := ((4 * (P 0 13)) + x56_2_347)) hB; have q1 := b0_3 hB56_347; have q2 := b0_4 hB56_347; have q3 := b0_5 hB56_347; omega) (CF.fr (F := ([1, 2, 3, 4, 5, 6, 7, 8, 9, 12, 43], [24, 25, 26, 27])) v_CF (FrM.c (FrM.c (FrM.c (FrM.s (FrM.s (FrM.s (FrM.s (FrM.s FrM.rf rfl) rfl) rfl) rfl) rfl) hFc277 rfl) hFc346 rfl) hE56_347 rfl) rfl) _ (fun rc600 hc600 Pc600 hBc600 hFc600 gc600_lx gc600_mo gc600_pe => ⟨rc600, rfl, ?_⟩)) cf_X12_valueRead t_1954 rfl (by decide) rfl rfl rfl (Nat.le_of_ble_eq_true rfl) (by decide) rfl dX12_row_117
              refine g_iadd dX12_row_120 ?_
              refine g_norm (fun r601 h_r601 e_r601 => ?_)
              refine g_istore_n (l1 := [(1, vI r601), (0, vR 0), (2, vI x56_2_347)]) dX12_row_121 (by decide) rfl ?_
              refine g_iinc (l1 := [(2, vI (x56_2_347 + 1)), (1, vI r601), (0, vR 0)]) dX12_row_122 rfl (by decide) rfl ?_
              refine g_goto (tgt := 56) dX12_row_125 (by decide) ?_
              refine g_forget (l1 := [(0, vR 0), (1, vI r601), (2, vI (x56_2_347 + 1))]) (by intro q hq; simp only [List.mem_cons, List.not_mem_nil, or_false] at hq ⊢; rcases hq with rfl | rfl | rfl <;> simp) ?_
              exact ih56_347 (x56_2_347 + 1) ⟨by omega, by omega⟩ r601 ⟨by omega, by omega⟩ _ hBc600 (FrM.c (FrM.c FrM.rf hE56_347 rfl) hFc600 rfl) (by have q0 := b0_8 hBc600; have q1 := b0_3 hBc600; have q2 := b0_4 hBc600; have q3 := b0_5 hBc600; omega) (by omega)
            · refine g_aload_n dX12_row_75 rfl ?_
              refine g_vV (av := []) (o := 0) (st := []) (m_X12_lex G H56_347  hB56_347  _ (fun Pc602 hBc602 hFc602 gc602_pe => ⟨rfl, ?_⟩)) cf_X12_lex t_1697 rfl (by decide) rfl rfl rfl (Nat.le_of_ble_eq_true rfl) (by decide) rfl dX12_row_76
              refine g_iload_n dX12_row_79 rfl ?_
              refine g_if_le (tgt := 89) dX12_row_80 (by decide) ⟨by omega, by omega⟩ (fun k603 => by exfalso; omega) (fun k603 => ?_)
              refine g_aload_n dX12_row_83 rfl ?_
              refine g_bipush dX12_row_84 (by decide) ?_
              refine g_vV (av := [vI 44]) (o := 0) (st := []) (m_X12_must G Pc602 44 (by decide) hBc602 (by have q0 := (((hFc602.1 3 rfl).trans rfl) : Pc602 0 3 = (H56_347 0 3)); have q1 := b0_3 hB56_347; have q2 := (((hFc602.1 4 rfl).trans rfl) : Pc602 0 4 = (H56_347 0 4)); have q3 := b0_4 hB56_347; have q4 := (((hFc602.1 5 rfl).trans rfl) : Pc602 0 5 = (H56_347 0 5)); have q5 := b0_5 hB56_347; omega) _ (fun Pc604 hBc604 hFc604 gc604_lx gc604_mo gc604_pe gc604_ad => ⟨rfl, ?_⟩)) cf_X12_must t_1768 rfl (by decide) rfl rfl rfl (Nat.le_of_ble_eq_true rfl) (by decide) rfl dX12_row_86
              have z605 : Pc602 0 4 = (H56_347 0 4) := ((hFc602.1 4 rfl).trans rfl)
              refine g_aload_n dX12_row_89 rfl ?_
              refine m_g8 (z := (Pc604 0 8)) rfl dX12_row_90 rfl ?_
              have f606 := b0_8 hBc604
              refine g_if_ne (tgt := 122) dX12_row_93 (by decide) ⟨by have q0 := b0_8 hBc604; omega, by have q0 := b0_8 hBc604; omega⟩ (fun k607 => ?_) (fun k607 => ?_)
              · refine g_iinc (l1 := [(2, vI (x56_2_347 + 1)), (0, vR 0), (1, vI x56_1_347)]) dX12_row_122 rfl (by decide) rfl ?_
                refine g_goto (tgt := 56) dX12_row_125 (by decide) ?_
                refine g_forget (l1 := [(0, vR 0), (1, vI x56_1_347), (2, vI (x56_2_347 + 1))]) (by intro q hq; simp only [List.mem_cons, List.not_mem_nil, or_false] at hq ⊢; rcases hq with rfl | rfl | rfl <;> simp) ?_
                exact ih56_347 (x56_2_347 + 1) ⟨by omega, by omega⟩ x56_1_347 ⟨by omega, by omega⟩ _ hBc604 (FrM.c (FrM.c (FrM.c FrM.rf hE56_347 rfl) hFc602 rfl) hFc604 rfl) (by have q0 := b0_8 hBc604; have q1 := b0_3 hBc604; have q2 := b0_4 hBc604; have q3 := b0_5 hBc604; omega) (by omega)
              · refine g_iload_n dX12_row_96 rfl ?_
                refine g_aload_n dX12_row_97 rfl ?_
                refine g_iload_n dX12_row_98 rfl ?_
                refine g_vI (av := [vI x56_2_347]) (o := 0) (st := [vI x56_1_347]) (m_X12_columnValues G Pc604 x56_2_347 ⟨by omega, by omega⟩ hBc604 (by have q0 := (((congrFun (hFc604.2 11 rfl rfl) _).trans ((congrFun (hFc602.2 11 rfl rfl) _).trans ((congrFun (hE56_347.2 11 rfl rfl) _).trans ((congrFun (hFc346.2 11 rfl rfl) _).trans ((congrFun (hFc277.2 11 rfl rfl) _).trans ((up_o (by decide)).trans ((up_o (by decide)).trans ((up_o (by decide)).trans ((up_o (by decide)).trans ((up_o (by decide)).trans rfl)))))))))) : Pc604 11 (Pc604 0 13) = (P 11 (Pc604 0 13))); have q1 := bl_11 (k := (Pc604 0 13)) hB; have q2 := ((congrArg (Pc604 11) ((hFc604.1 13 rfl).trans ((hFc602.1 13 rfl).trans ((hE56_347.1 13 rfl).trans ((hFc346.1 13 rfl).trans ((hFc277.1 13 rfl).trans ((up_k (by decide)).trans ((up_k (by decide)).trans ((up_k (by decide)).trans ((up_k (by decide)).trans ((up_k (by decide)).trans rfl))))))))))).trans ((congrFun (hFc604.2 11 rfl rfl) _).trans ((congrFun (hFc602.2 11 rfl rfl) _).trans ((congrFun (hE56_347.2 11 rfl rfl) _).trans ((congrFun (hFc346.2 11 rfl rfl) _).trans ((congrFun (hFc277.2 11 rfl rfl) _).trans ((up_o (by decide)).trans ((up_o (by decide)).trans ((up_o (by decide)).trans ((up_o (by decide)).trans ((up_o (by decide)).trans rfl)))))))))) : Pc604 11 (Pc604 0 13) = (P 11 (P 0 13))); have q3 := bl_11 (k := (P 0 13)) hB; omega) (okC.fr (F := ([1, 2, 3, 4, 5, 6, 7, 8, 9, 12, 43], [24, 25, 26, 27])) v_okC (FrM.c (FrM.c (FrM.c (FrM.c (FrM.c (FrM.s (FrM.s (FrM.s (FrM.s (FrM.s FrM.rf rfl) rfl) rfl) rfl) rfl) hFc277 rfl) hFc346 rfl) hE56_347 rfl) hFc602 rfl) hFc604 rfl) rfl) _ (fun rc608 hc608 gc608_v => ⟨rc608, rfl, ?_⟩)) cf_X12_columnValues t_1831 rfl (by decide) rfl rfl rfl (Nat.le_of_ble_eq_true rfl) (by decide) rfl dX12_row_99
                have z609 : Pc604 0 13 = (P 0 13) := ((hFc604.1 13 rfl).trans ((hFc602.1 13 rfl).trans ((hE56_347.1 13 rfl).trans ((hFc346.1 13 rfl).trans ((hFc277.1 13 rfl).trans ((up_k (by decide)).trans ((up_k (by decide)).trans ((up_k (by decide)).trans ((up_k (by decide)).trans ((up_k (by decide)).trans rfl))))))))))
                refine g_imul dX12_row_102 ?_
                refine g_norm (fun r610 h_r610 e_r610 => ?_)
                refine g_aload_n dX12_row_103 rfl ?_
                refine g_aload_n dX12_row_104 rfl ?_
                refine m_g24 rfl dX12_row_105 ?_
                refine g_iconst dX12_row_108 ?_
                refine g_aload_n dX12_row_109 rfl ?_
                refine m_g13 (z := (P 0 13)) rfl dX12_row_110 ((hFc604.1 13 rfl).trans ((hFc602.1 13 rfl).trans ((hE56_347.1 13 rfl).trans ((hFc346.1 13 rfl).trans ((hFc277.1 13 rfl).trans ((up_k (by decide)).trans ((up_k (by decide)).trans ((up_k (by decide)).trans ((up_k (by decide)).trans ((up_k (by decide)).trans rfl)))))))))) ?_
                refine g_imul dX12_row_113 ?_
                refine g_iload_n dX12_row_114 rfl ?_
                refine g_iadd dX12_row_115 ?_
                refine m_l12 (z := (P 12 ((4 * (P 0 13)) + x56_2_347))) dX12_row_116 ⟨by have q0 := b0_13 hB; omega, by have q0 := b0_13 hB; omega⟩ ((congrFun (hFc604.2 12 rfl rfl) _).trans ((congrFun (hFc602.2 12 rfl rfl) _).trans ((congrFun (hE56_347.2 12 rfl rfl) _).trans ((congrFun (hFc346.2 12 rfl rfl) _).trans ((congrFun (hFc277.2 12 rfl rfl) _).trans ((up_o (by decide)).trans ((up_o (by decide)).trans ((up_o (by decide)).trans ((up_o (by decide)).trans ((up_o (by decide)).trans rfl)))))))))) ?_
                have f611 := bl_12 (k := ((4 * (P 0 13)) + x56_2_347)) hB
                refine g_vI (av := [vI (P 12 ((4 * (P 0 13)) + x56_2_347))]) (o := 0) (st := [vI r610]) (m_X12_valueRead G Pc604 (P 12 ((4 * (P 0 13)) + x56_2_347)) ⟨by have q0 := bl_12 (k := ((4 * (P 0 13)) + x56_2_347)) hB; omega, by have q0 := bl_12 (k := ((4 * (P 0 13)) + x56_2_347)) hB; omega⟩ hBc604 (by have q0 := bl_12 (k := ((4 * (P 0 13)) + x56_2_347)) hB; have q1 := b0_3 hBc604; have q2 := b0_4 hBc604; have q3 := b0_5 hBc604; omega) (CF.fr (F := ([1, 2, 3, 4, 5, 6, 7, 8, 9, 12, 43], [24, 25, 26, 27])) v_CF (FrM.c (FrM.c (FrM.c (FrM.c (FrM.c (FrM.s (FrM.s (FrM.s (FrM.s (FrM.s FrM.rf rfl) rfl) rfl) rfl) rfl) hFc277 rfl) hFc346 rfl) hE56_347 rfl) hFc602 rfl) hFc604 rfl) rfl) _ (fun rc612 hc612 Pc612 hBc612 hFc612 gc612_lx gc612_mo gc612_pe => ⟨rc612, rfl, ?_⟩)) cf_X12_valueRead t_1954 rfl (by decide) rfl rfl rfl (Nat.le_of_ble_eq_true rfl) (by decide) rfl dX12_row_117
                refine g_iadd dX12_row_120 ?_
                refine g_norm (fun r613 h_r613 e_r613 => ?_)
                refine g_istore_n (l1 := [(1, vI r613), (0, vR 0), (2, vI x56_2_347)]) dX12_row_121 (by decide) rfl ?_
                refine g_iinc (l1 := [(2, vI (x56_2_347 + 1)), (1, vI r613), (0, vR 0)]) dX12_row_122 rfl (by decide) rfl ?_
                refine g_goto (tgt := 56) dX12_row_125 (by decide) ?_
                refine g_forget (l1 := [(0, vR 0), (1, vI r613), (2, vI (x56_2_347 + 1))]) (by intro q hq; simp only [List.mem_cons, List.not_mem_nil, or_false] at hq ⊢; rcases hq with rfl | rfl | rfl <;> simp) ?_
                exact ih56_347 (x56_2_347 + 1) ⟨by omega, by omega⟩ r613 ⟨by omega, by omega⟩ _ hBc612 (FrM.c (FrM.c (FrM.c (FrM.c FrM.rf hE56_347 rfl) hFc602 rfl) hFc604 rfl) hFc612 rfl) (by have q0 := b0_8 hBc612; have q1 := b0_3 hBc612; have q2 := b0_4 hBc612; have q3 := b0_5 hBc612; omega) (by omega)
      refine g_forget (l1 := [(0, vR 0), (1, vI 0), (2, vI 0)]) (by intro q hq; simp only [List.mem_cons, List.not_mem_nil, or_false] at hq ⊢; rcases hq with rfl | rfl | rfl <;> simp) ?_
      exact L56_347 _ 0 (by decide) 0 (by decide) _ hBc346 FrM.rf (by have q0 := (((hFc346.1 8 rfl).trans rfl) : Pc346 0 8 = (Pc277 0 8)); have q1 := b0_8 hBc277; have q2 := b0_3 hBc346; have q3 := b0_4 hBc346; have q4 := b0_5 hBc346; omega) (Nat.lt_succ_self _)
end
section
/-! Contracts of the reference: mj. -/
set_option maxRecDepth 100000 in
set_option maxHeartbeats 4000000 in
theorem m_X12_conOf (G : GT) (P : PH) (a1 : Int) (a2 : Int) (h_a1 : 0 ≤ a1 ∧ a1 ≤ 3) (h_a2 : (-2147483648) ≤ a2 ∧ a2 ≤ 2147483647) (hB : BdM P) (p_kv : a1 < P 2 (P 0 13) ∧ 0 ≤ a2 ∧ a2 < P 3 (4 * P 0 13 + a1)) (v_ZO : ZO P) (Q : Option PV → PH → Prop) (hQ : ∀ (r : Int) (_ : 0 ≤ r ∧ r ≤ 23) (_ : r < P 5 (P 0 13) ∧ P 6 (24 * P 0 13 + r) = a1 ∧ P 9 (24 * P 0 13 + r) ≤ a2 ∧ a2 < P 9 (24 * P 0 13 + r) + P 10 (24 * P 0 13 + r)), Q (some (vI r)) P) : Ct WSM G 2 iX12_conOf [vR 0, vI a1, vI a2] P Q := by
  refine Ct.of (by decide) (l0 := [(0, vR 0), (1, vI a1), (2, vI a2)]) rfl (Nat.le_of_ble_eq_true rfl) ?_
  have q13 := b0_13 hB
  refine g_iconst dX12_conOf_0 ?_
  refine g_istore_n (l1 := [(3, vI 0), (0, vR 0), (1, vI a1), (2, vI a2)]) dX12_conOf_1 (by decide) rfl ?_
  have L2_0 : ∀ (n2_0 : Nat) (x2_3_0 : Int) (h_x2_3_0 : 0 ≤ x2_3_0 ∧ x2_3_0 ≤ 24) (i2_0_0 : ∀ d : Int, 0 ≤ d → d < x2_3_0 → P 6 (24 * P 0 13 + d) = a1 → ¬ (P 9 (24 * P 0 13 + d) ≤ a2 ∧ a2 < P 9 (24 * P 0 13 + d) + P 10 (24 * P 0 13 + d))) (hm2_0 : (25 - x2_3_0 : Int).toNat < n2_0), Go WSM G 2 iX12_conOf 2 [(0, vR 0), (1, vI a1), (2, vI a2), (3, vI x2_3_0)] [] P Q := by
    intro n2_0
    induction n2_0 with
    | zero => intro x2_3_0 h_x2_3_0 i2_0_0 hm2_0; exact absurd hm2_0 (Nat.not_lt_zero _)
    | succ n2_0 ih2_0 =>
    intro x2_3_0 h_x2_3_0 i2_0_0 hm2_0
    refine g_iload_n dX12_conOf_2 rfl ?_
    refine g_aload_n dX12_conOf_3 rfl ?_
    refine m_g17 rfl dX12_conOf_4 ?_
    refine g_aload_n dX12_conOf_7 rfl ?_
    refine m_g13 (z := (P 0 13)) rfl dX12_conOf_8 rfl ?_
    refine m_l5 (z := (P 5 (P 0 13))) dX12_conOf_11 ⟨by have q0 := b0_13 hB; omega, by have q0 := b0_13 hB; omega⟩ rfl ?_
    have f34 := bl_5 (k := (P 0 13)) hB
    refine g_icmp_ge (tgt := 76) dX12_conOf_12 (by decide) ⟨by omega, by omega⟩ ⟨by have q0 := bl_5 (k := (P 0 13)) hB; omega, by have q0 := bl_5 (k := (P 0 13)) hB; omega⟩ (fun k35 => ?_) (fun k35 => ?_)
    · exfalso
      obtain ⟨d, d0, d1, d2, d3, d4⟩ := v_ZO (P 0 13) a1 a2 q13.1 q13.2 h_a1.1 p_kv.1 p_kv.2.1 p_kv.2.2
      exact i2_0_0 d d0 (by omega) d2 ⟨d3, d4⟩
    · refine g_bipush dX12_conOf_15 (by decide) ?_
      refine g_aload_n dX12_conOf_17 rfl ?_
      refine m_g13 (z := (P 0 13)) rfl dX12_conOf_18 rfl ?_
      refine g_imul dX12_conOf_21 ?_
      refine g_iload_n dX12_conOf_22 rfl ?_
      refine g_iadd dX12_conOf_23 ?_
      refine g_istore (l1 := [(4, vI ((24 * (P 0 13)) + x2_3_0)), (0, vR 0), (1, vI a1), (2, vI a2), (3, vI x2_3_0)]) dX12_conOf_24 (by decide) rfl ?_
      refine g_aload_n dX12_conOf_26 rfl ?_
      refine m_g18 rfl dX12_conOf_27 ?_
      refine g_iload dX12_conOf_30 rfl ?_
      refine m_l6 (z := (P 6 ((24 * (P 0 13)) + x2_3_0))) dX12_conOf_32 ⟨by have q0 := b0_13 hB; omega, by have q0 := b0_13 hB; omega⟩ rfl ?_
      refine g_iload_n dX12_conOf_33 rfl ?_
      have f36 := bl_6 (k := ((24 * (P 0 13)) + x2_3_0)) hB
      refine g_icmp_ne (tgt := 70) dX12_conOf_34 (by decide) ⟨by have q0 := bl_6 (k := ((24 * (P 0 13)) + x2_3_0)) hB; omega, by have q0 := bl_6 (k := ((24 * (P 0 13)) + x2_3_0)) hB; omega⟩ ⟨by omega, by omega⟩ (fun k37 => ?_) (fun k37 => ?_)
      · have hnx : ∀ d : Int, 0 ≤ d → d < x2_3_0 + 1 → P 6 (24 * P 0 13 + d) = a1 → ¬ (P 9 (24 * P 0 13 + d) ≤ a2 ∧ a2 < P 9 (24 * P 0 13 + d) + P 10 (24 * P 0 13 + d)) := by
          intro d d0 d1 dk dr
          by_cases e : d = x2_3_0
          · rw [e] at dk dr; omega
          · exact i2_0_0 d d0 (by omega) dk dr
        refine g_iinc (l1 := [(3, vI (x2_3_0 + 1)), (4, vI ((24 * (P 0 13)) + x2_3_0)), (0, vR 0), (1, vI a1), (2, vI a2)]) dX12_conOf_70 rfl (by decide) rfl ?_
        refine g_goto (tgt := 2) dX12_conOf_73 (by decide) ?_
        refine g_forget (l1 := [(0, vR 0), (1, vI a1), (2, vI a2), (3, vI (x2_3_0 + 1))]) (by intro q hq; simp only [List.mem_cons, List.not_mem_nil, or_false] at hq ⊢; rcases hq with rfl | rfl | rfl | rfl <;> simp) ?_
        exact ih2_0 (x2_3_0 + 1) ⟨by omega, by omega⟩ (by first | exact hnx | (intro d d0 d1; exfalso; omega)) (by omega)
      · refine g_iload_n dX12_conOf_37 rfl ?_
        refine g_aload_n dX12_conOf_38 rfl ?_
        refine m_g21 rfl dX12_conOf_39 ?_
        refine g_iload dX12_conOf_42 rfl ?_
        refine m_l9 (z := (P 9 ((24 * (P 0 13)) + x2_3_0))) dX12_conOf_44 ⟨by have q0 := b0_13 hB; omega, by have q0 := b0_13 hB; omega⟩ rfl ?_
        refine g_aload_n dX12_conOf_45 rfl ?_
        refine m_g21 rfl dX12_conOf_46 ?_
        refine g_iload dX12_conOf_49 rfl ?_
        refine m_l9 (z := (P 9 ((24 * (P 0 13)) + x2_3_0))) dX12_conOf_51 ⟨by have q0 := b0_13 hB; omega, by have q0 := b0_13 hB; omega⟩ rfl ?_
        refine g_aload_n dX12_conOf_52 rfl ?_
        refine m_g22 rfl dX12_conOf_53 ?_
        refine g_iload dX12_conOf_56 rfl ?_
        refine m_l10 (z := (P 10 ((24 * (P 0 13)) + x2_3_0))) dX12_conOf_58 ⟨by have q0 := b0_13 hB; omega, by have q0 := b0_13 hB; omega⟩ rfl ?_
        refine g_iadd dX12_conOf_59 ?_
        refine g_iconst dX12_conOf_60 ?_
        refine g_isub dX12_conOf_61 ?_
        have f38 := bl_9 (k := ((24 * (P 0 13)) + x2_3_0)) hB
        have f39 := bl_10 (k := ((24 * (P 0 13)) + x2_3_0)) hB
        refine g_sI (av := [vI a2, vI (P 9 ((24 * (P 0 13)) + x2_3_0)), vI (((P 9 ((24 * (P 0 13)) + x2_3_0)) + (P 10 ((24 * (P 0 13)) + x2_3_0))) - 1)]) (st := []) (m_X12_is G P a2 (P 9 ((24 * (P 0 13)) + x2_3_0)) (((P 9 ((24 * (P 0 13)) + x2_3_0)) + (P 10 ((24 * (P 0 13)) + x2_3_0))) - 1) ⟨by omega, by omega⟩ ⟨by have q0 := bl_9 (k := ((24 * (P 0 13)) + x2_3_0)) hB; omega, by have q0 := bl_9 (k := ((24 * (P 0 13)) + x2_3_0)) hB; omega⟩ ⟨by have q0 := bl_9 (k := ((24 * (P 0 13)) + x2_3_0)) hB; have q1 := bl_10 (k := ((24 * (P 0 13)) + x2_3_0)) hB; omega, by have q0 := bl_9 (k := ((24 * (P 0 13)) + x2_3_0)) hB; have q1 := bl_10 (k := ((24 * (P 0 13)) + x2_3_0)) hB; omega⟩ hB  _ (fun rc40 hc40 gc40_is => ⟨rc40, rfl, ?_⟩)) cf_X12_is t_1800 rfl (Nat.le_of_ble_eq_true rfl) (by decide) rfl dX12_conOf_62
        refine g_if_eq (tgt := 70) dX12_conOf_65 (by decide) ⟨by omega, by omega⟩ (fun k41 => ?_) (fun k41 => ?_)
        · have hnx : ∀ d : Int, 0 ≤ d → d < x2_3_0 + 1 → P 6 (24 * P 0 13 + d) = a1 → ¬ (P 9 (24 * P 0 13 + d) ≤ a2 ∧ a2 < P 9 (24 * P 0 13 + d) + P 10 (24 * P 0 13 + d)) := by
            intro d d0 d1 dk dr
            by_cases e : d = x2_3_0
            · rw [e] at dk dr; omega
            · exact i2_0_0 d d0 (by omega) dk dr
          refine g_iinc (l1 := [(3, vI (x2_3_0 + 1)), (4, vI ((24 * (P 0 13)) + x2_3_0)), (0, vR 0), (1, vI a1), (2, vI a2)]) dX12_conOf_70 rfl (by decide) rfl ?_
          refine g_goto (tgt := 2) dX12_conOf_73 (by decide) ?_
          refine g_forget (l1 := [(0, vR 0), (1, vI a1), (2, vI a2), (3, vI (x2_3_0 + 1))]) (by intro q hq; simp only [List.mem_cons, List.not_mem_nil, or_false] at hq ⊢; rcases hq with rfl | rfl | rfl | rfl <;> simp) ?_
          exact ih2_0 (x2_3_0 + 1) ⟨by omega, by omega⟩ (by first | exact hnx | (intro d d0 d1; exfalso; omega)) (by omega)
        · refine g_iload_n dX12_conOf_68 rfl ?_
          exact g_retI dX12_conOf_69 rfl (hQ x2_3_0 ⟨by omega, by omega⟩ (by have q0 := bl_5 (k := (P 0 13)) hB; have q1 := bl_6 (k := (24 * P 0 13 + x2_3_0)) hB; have q2 := bl_9 (k := (24 * P 0 13 + x2_3_0)) hB; have q3 := bl_10 (k := (24 * P 0 13 + x2_3_0)) hB; omega))
  refine g_forget (l1 := [(0, vR 0), (1, vI a1), (2, vI a2), (3, vI 0)]) (by intro q hq; simp only [List.mem_cons, List.not_mem_nil, or_false] at hq ⊢; rcases hq with rfl | rfl | rfl | rfl <;> simp) ?_
  exact L2_0 _ 0 (by decide) (by first | exact hnx | (intro d d0 d1; exfalso; omega)) (Nat.lt_succ_self _)
set_option maxRecDepth 100000 in
set_option maxHeartbeats 4000000 in
theorem m_X12_writesValue (G : GT) (P : PH) (a1 : Int) (a2 : Int) (h_a1 : 0 ≤ a1 ∧ a1 ≤ 4) (h_a2 : (-2147483648) ≤ a2 ∧ a2 ≤ 2147483647) (hB : BdM P) (p_tk : tok P (P 0 73) a1 a2) (p_ps : P 0 70 + twp P + wt a1 ≤ 791) (v_TD : TD P) (v_ZT : ZT P) (v_ZO : ZO P) (v_CF : CF P) (Q : Option PV → PH → Prop) (hQ : ∀ (P1 : PH) (_ : BdM P1) (_ : FrM ([70, 73], [46, 47, 48]) P P1) (_ : P1 0 70 + twp P1 ≤ 791) (_ : twp P1 + 1 ≤ twp P + wt a1) (_ : TD P1), Q none P1) : Ct WSM G 3 iX12_writesValue [vR 0, vI a1, vI a2] P Q := by
  refine Ct.of (by decide) (l0 := [(0, vR 0), (1, vI a1), (2, vI a2)]) rfl (Nat.le_of_ble_eq_true rfl) ?_
  have htk := p_tk
  unfold tok at htk
  have htb := twp_b P
  have q73 := b0_73 hB
  have q70 := b0_70 hB
  refine g_iload_n dX12_writesValue_0 rfl ?_
  refine g_iconst dX12_writesValue_1 ?_
  refine g_icmp_ne (tgt := 34) dX12_writesValue_2 (by decide) ⟨by omega, by omega⟩ (by decide) (fun k1 => ?_) (fun k1 => ?_)
  · have hwc := wt_con (k := a1) ⟨by omega, by omega⟩
    have hw5 : wt 5 = 1 := by decide
    have hkv : a1 < P 2 (P 0 13) ∧ 0 ≤ a2 ∧ a2 < P 3 (4 * P 0 13 + a1) := by omega
    have q13 := b0_13 hB
    refine g_aload_n dX12_writesValue_34 rfl ?_
    refine g_iload_n dX12_writesValue_35 rfl ?_
    refine g_iload_n dX12_writesValue_36 rfl ?_
    refine g_vI (av := [vI a1, vI a2]) (o := 0) (st := []) (m_X12_conOf G P a1 a2 ⟨by omega, by omega⟩ ⟨by omega, by omega⟩ hB (hkv) v_ZO _ (fun rc2 hc2 gc2_c => ⟨rc2, rfl, ?_⟩)) cf_X12_conOf t_1982 rfl (by decide) rfl rfl rfl (Nat.le_of_ble_eq_true rfl) (by decide) rfl dX12_writesValue_37
    have hco := gc2_c
    refine g_istore_n (l1 := [(3, vI rc2), (0, vR 0), (1, vI a1), (2, vI a2)]) dX12_writesValue_40 (by decide) rfl ?_
    refine g_bipush dX12_writesValue_41 (by decide) ?_
    refine g_aload_n dX12_writesValue_43 rfl ?_
    refine m_g13 (z := (P 0 13)) rfl dX12_writesValue_44 rfl ?_
    refine g_imul dX12_writesValue_47 ?_
    refine g_iload_n dX12_writesValue_48 rfl ?_
    refine g_iadd dX12_writesValue_49 ?_
    refine g_istore (l1 := [(4, vI ((24 * (P 0 13)) + rc2)), (3, vI rc2), (0, vR 0), (1, vI a1), (2, vI a2)]) dX12_writesValue_50 (by decide) rfl ?_
    refine g_aload_n dX12_writesValue_52 rfl ?_
    refine g_aload_n dX12_writesValue_53 rfl ?_
    refine m_g35 rfl dX12_writesValue_54 ?_
    refine g_iload dX12_writesValue_57 rfl ?_
    refine m_l23 (z := (P 23 ((24 * (P 0 13)) + rc2))) dX12_writesValue_59 ⟨by have q0 := b0_13 hB; omega, by have q0 := b0_13 hB; omega⟩ rfl ?_
    have f3 := bl_23 (k := ((24 * (P 0 13)) + rc2)) hB
    refine g_vV (av := [vL (P 23 ((24 * (P 0 13)) + rc2))]) (o := 0) (st := []) (m_X12_writesName G P (P 23 ((24 * (P 0 13)) + rc2)) ⟨by have q0 := bl_23 (k := ((24 * (P 0 13)) + rc2)) hB; omega, by have q0 := bl_23 (k := ((24 * (P 0 13)) + rc2)) hB; omega⟩ hB (by have q0 := bl_23 (k := ((24 * (P 0 13)) + rc2)) hB; have q1 := b0_70 hB; omega) _ (fun Pc4 hBc4 hFc4 gc4_o => ⟨rfl, ?_⟩)) cf_X12_writesName t_1986 rfl (by decide) rfl rfl rfl (Nat.le_of_ble_eq_true rfl) (by decide) rfl dX12_writesValue_60
    refine g_aload_n dX12_writesValue_63 rfl ?_
    refine m_g19 rfl dX12_writesValue_64 ?_
    refine g_iload dX12_writesValue_67 rfl ?_
    refine m_l7 (z := (P 7 ((24 * (P 0 13)) + rc2))) dX12_writesValue_69 ⟨by have q0 := b0_13 hB; omega, by have q0 := b0_13 hB; omega⟩ ((congrFun (hFc4.2 7 rfl rfl) _).trans rfl) ?_
    have f5 := bl_7 (k := ((24 * (P 0 13)) + rc2)) hB
    refine g_if_ne (tgt := 74) dX12_writesValue_70 (by decide) ⟨by have q0 := bl_7 (k := ((24 * (P 0 13)) + rc2)) hB; omega, by have q0 := bl_7 (k := ((24 * (P 0 13)) + rc2)) hB; omega⟩ (fun k6 => ?_) (fun k6 => ?_)
    · refine g_aload_n dX12_writesValue_74 rfl ?_
      refine g_iconst dX12_writesValue_75 ?_
      refine g_bipush dX12_writesValue_76 (by decide) ?_
      have hqt := (twp_fr (F := ([70], [46])) (FrM.c FrM.rf hFc4 rfl) rfl : twp Pc4 = twp P)
      have htd := (TD.fr (F := ([70], [46])) v_TD (FrM.c FrM.rf hFc4 rfl) rfl)
      have hbt := hBc4
      have htok : tok Pc4 (Pc4 0 73) 5 41 := Or.inl ⟨rfl, by have q := (((hFc4.1 73 rfl).trans rfl) : Pc4 0 73 = (P 0 73)); omega⟩
      refine g_vV (av := [vI 5, vI 41]) (o := 0) (st := []) (m_X12_later G Pc4 5 41 (by decide) (by decide) hBc4 (by have q0 := (((hFc4.1 73 rfl).trans rfl) : Pc4 0 73 = (P 0 73)); have q1 := b0_73 hB; omega) _ (fun Pc7 hBc7 hFc7 gc7_o gc7_e => ⟨rfl, ?_⟩)) cf_X12_later t_1970 rfl (by decide) rfl rfl rfl (Nat.le_of_ble_eq_true rfl) (by decide) rfl dX12_writesValue_78
      have z8 : Pc4 0 73 = (P 0 73) := ((hFc4.1 73 rfl).trans rfl)
      have hpu := htd.push hbt gc7_e hFc7 htok
      have hpu2 := hpu.2
      have iv9 : TD Pc7 := hpu.1
      refine g_aload_n dX12_writesValue_81 rfl ?_
      refine m_g19 rfl dX12_writesValue_82 ?_
      refine g_iload dX12_writesValue_85 rfl ?_
      refine m_l7 (z := (P 7 ((24 * (P 0 13)) + rc2))) dX12_writesValue_87 ⟨by have q0 := b0_13 hB; omega, by have q0 := b0_13 hB; omega⟩ ((congrFun (hFc7.2 7 rfl rfl) _).trans ((congrFun (hFc4.2 7 rfl rfl) _).trans rfl)) ?_
      refine g_iconst dX12_writesValue_88 ?_
      refine g_isub dX12_writesValue_89 ?_
      refine g_istore (l1 := [(5, vI ((P 7 ((24 * (P 0 13)) + rc2)) - 1)), (4, vI ((24 * (P 0 13)) + rc2)), (3, vI rc2), (0, vR 0), (1, vI a1), (2, vI a2)]) dX12_writesValue_90 (by decide) rfl ?_
      have L92_9 : ∀ (n92_9 : Nat) (x92_5_9 : Int) (h_x92_5_9 : (-1) ≤ x92_5_9 ∧ x92_5_9 ≤ 1) (H92_9 : PH) (hB92_9 : BdM H92_9) (hE92_9 : FrM ([73], [47, 48]) Pc7 H92_9) (i92_0_9 : H92_9 0 73 = P 0 73 + 1 + 2 * (P 7 ((24 * (P 0 13)) + rc2) - 1 - x92_5_9)) (i92_1_9 : ((P 7 ((24 * (P 0 13)) + rc2) - 1 - x92_5_9) = 0 ∧ twp H92_9 ≤ twp P + 1) ∨ ((P 7 ((24 * (P 0 13)) + rc2) - 1 - x92_5_9) = 1 ∧ 2 * twp H92_9 ≤ 2 * twp P + 4 + (wt a1 - 11)) ∨ ((P 7 ((24 * (P 0 13)) + rc2) - 1 - x92_5_9) = 2 ∧ 2 * twp H92_9 ≤ 2 * twp P + 6 + 2 * (wt a1 - 11))) (i92_2_9 : H92_9 0 70 ≤ P 0 70 + 8) (i92_3_9 : x92_5_9 < P 7 ((24 * (P 0 13)) + rc2)) (w92_TD_9 : TD H92_9) (hm92_9 : (x92_5_9 + 1 : Int).toNat < n92_9), Go WSM G 3 iX12_writesValue 92 [(0, vR 0), (2, vI a2), (3, vI rc2), (4, vI ((24 * (P 0 13)) + rc2)), (5, vI x92_5_9)] [] H92_9 Q := by
        intro n92_9
        induction n92_9 with
        | zero => intro x92_5_9 h_x92_5_9 H92_9 hB92_9 hE92_9 i92_0_9 i92_1_9 i92_2_9 i92_3_9 w92_TD_9 hm92_9; exact absurd hm92_9 (Nat.not_lt_zero _)
        | succ n92_9 ih92_9 =>
        intro x92_5_9 h_x92_5_9 H92_9 hB92_9 hE92_9 i92_0_9 i92_1_9 i92_2_9 i92_3_9 w92_TD_9 hm92_9
        refine g_iload dX12_writesValue_92 rfl ?_
        refine g_if_lt (tgt := 144) dX12_writesValue_94 (by decide) ⟨by omega, by omega⟩ (fun k55 => ?_) (fun k55 => ?_)
        · exact g_retV dX12_writesValue_144 rfl (hQ _ hB92_9 (FrM.c (FrM.c (FrM.c FrM.rf hFc4 rfl) hFc7 rfl) hE92_9 rfl) (by have q0 := (((hE92_9.1 70 rfl).trans ((hFc7.1 70 rfl).trans rfl)) : H92_9 0 70 = (Pc4 0 70)); have q1 := b0_70 hBc4; omega) (by omega) w92_TD_9)
        · refine g_aload_n dX12_writesValue_97 rfl ?_
          refine g_aload_n dX12_writesValue_98 rfl ?_
          refine m_g20 rfl dX12_writesValue_99 ?_
          refine g_iconst dX12_writesValue_102 ?_
          refine g_iload dX12_writesValue_103 rfl ?_
          refine g_imul dX12_writesValue_105 ?_
          refine g_iload dX12_writesValue_106 rfl ?_
          refine g_iadd dX12_writesValue_108 ?_
          refine m_l8 (z := (P 8 ((2 * ((24 * (P 0 13)) + rc2)) + x92_5_9))) dX12_writesValue_109 ⟨by have q0 := b0_13 hB; omega, by have q0 := b0_13 hB; omega⟩ ((congrFun (hE92_9.2 8 rfl rfl) _).trans ((congrFun (hFc7.2 8 rfl rfl) _).trans ((congrFun (hFc4.2 8 rfl rfl) _).trans rfl))) ?_
          refine g_aload_n dX12_writesValue_110 rfl ?_
          refine g_iload_n dX12_writesValue_111 rfl ?_
          refine g_iload_n dX12_writesValue_112 rfl ?_
          refine g_iload dX12_writesValue_113 rfl ?_
          have hv3 : ∀ b k, vals H92_9 b k = vals P b k := fun b k => vals_eq fun _ => ((congrFun (hE92_9.2 3 rfl rfl) _).trans ((congrFun (hFc7.2 3 rfl rfl) _).trans ((congrFun (hFc4.2 3 rfl rfl) _).trans rfl)))
          have r8c : ∀ j, H92_9 8 j = P 8 j := fun j => ((congrFun (hE92_9.2 8 rfl rfl) _).trans ((congrFun (hFc7.2 8 rfl rfl) _).trans ((congrFun (hFc4.2 8 rfl rfl) _).trans rfl)))
          have r9c : ∀ j, H92_9 9 j = P 9 j := fun j => ((congrFun (hE92_9.2 9 rfl rfl) _).trans ((congrFun (hFc7.2 9 rfl rfl) _).trans ((congrFun (hFc4.2 9 rfl rfl) _).trans rfl)))
          have r10c : ∀ j, H92_9 10 j = P 10 j := fun j => ((congrFun (hE92_9.2 10 rfl rfl) _).trans ((congrFun (hFc7.2 10 rfl rfl) _).trans ((congrFun (hFc4.2 10 rfl rfl) _).trans rfl)))
          have e13c := (((hE92_9.1 13 rfl).trans ((hFc7.1 13 rfl).trans ((hFc4.1 13 rfl).trans rfl))) : H92_9 0 13 = (P 0 13))
          refine g_vI (av := [vI a2, vI rc2, vI x92_5_9]) (o := 0) (st := [vI (P 8 ((2 * ((24 * (P 0 13)) + rc2)) + x92_5_9)), vR 0]) (m_X12_fieldOf G H92_9 a2 rc2 x92_5_9 ⟨by omega, by omega⟩ ⟨by omega, by omega⟩ ⟨by omega, by omega⟩ hB92_9 (by rw [show H92_9 0 13 = _ from ((hE92_9.1 13 rfl).trans ((hFc7.1 13 rfl).trans ((hFc4.1 13 rfl).trans rfl)))]; exact (((ZT.fr (F := ([70, 73], [46, 47, 48])) v_ZT (FrM.c (FrM.c (FrM.c FrM.rf hFc4 rfl) hFc7 rfl) hE92_9 rfl) rfl)) (P 0 13) rc2 (by omega) (by omega) (by omega) (by rw [show H92_9 5 (P 0 13) = _ from ((congrFun (hE92_9.2 5 rfl rfl) _).trans ((congrFun (hFc7.2 5 rfl rfl) _).trans ((congrFun (hFc4.2 5 rfl rfl) _).trans rfl)))]; omega)).2) (by rw [show H92_9 0 13 = _ from ((hE92_9.1 13 rfl).trans ((hFc7.1 13 rfl).trans ((hFc4.1 13 rfl).trans rfl))), show H92_9 7 ((24 * (P 0 13)) + rc2) = _ from ((congrFun (hE92_9.2 7 rfl rfl) _).trans ((congrFun (hFc7.2 7 rfl rfl) _).trans ((congrFun (hFc4.2 7 rfl rfl) _).trans rfl)))]; omega) _ (fun rc56 hc56 gc56_rg => ⟨rc56, rfl, ?_⟩)) cf_X12_fieldOf t_1839 rfl (by decide) rfl rfl rfl (Nat.le_of_ble_eq_true rfl) (by decide) rfl dX12_writesValue_115
          have z57 : H92_9 0 13 = (P 0 13) := ((hE92_9.1 13 rfl).trans ((hFc7.1 13 rfl).trans ((hFc4.1 13 rfl).trans rfl)))
          have hrg := gc56_rg
          simp only [e13c, r8c, r9c, r10c, hv3] at hrg
          have hrv : 0 ≤ rc56 ∧ rc56 < vals P (P 0 13) (P 8 (2 * ((24 * (P 0 13)) + rc2) + x92_5_9)) := by
            have h5 : x92_5_9 = 0 ∨ x92_5_9 = 1 := by omega
            have hrg2 := hrg.resolve_left (by omega)
            rcases h5 with h5 | h5
            · rw [h5, show 2 * ((24 * (P 0 13)) + rc2) + 0 = 2 * ((24 * (P 0 13)) + rc2) by omega]; exact ⟨hrg2.1, hrg2.2.1 h5⟩
            · rw [h5]; exact ⟨hrg2.1, hrg2.2.2 h5⟩
          have hcf := v_CF ((24 * (P 0 13)) + rc2) x92_5_9 (by omega) (by omega)
          have q8 := bl_8 (k := 2 * ((24 * (P 0 13)) + rc2) + x92_5_9) hB
          have htok : tok H92_9 (H92_9 0 73) (P 8 ((2 * ((24 * (P 0 13)) + rc2)) + x92_5_9)) rc56 := by
            have q := (rfl : H92_9 0 73 = (H92_9 0 73))
            unfold tok
            rw [show H92_9 0 13 = _ from ((hE92_9.1 13 rfl).trans ((hFc7.1 13 rfl).trans ((hFc4.1 13 rfl).trans rfl))), show H92_9 2 (P 0 13) = _ from ((congrFun (hE92_9.2 2 rfl rfl) _).trans ((congrFun (hFc7.2 2 rfl rfl) _).trans ((congrFun (hFc4.2 2 rfl rfl) _).trans rfl))), show H92_9 3 (4 * P 0 13 + (P 8 ((2 * ((24 * (P 0 13)) + rc2)) + x92_5_9))) = _ from ((congrFun (hE92_9.2 3 rfl rfl) _).trans ((congrFun (hFc7.2 3 rfl rfl) _).trans ((congrFun (hFc4.2 3 rfl rfl) _).trans rfl)))]
            unfold vals at hrv
            by_cases e4 : P 8 (2 * ((24 * (P 0 13)) + rc2) + x92_5_9) = 4
            · rw [if_pos e4] at hrv; omega
            · rw [if_neg e4] at hrv; omega
          have hwf := wt_field (k := a1) (f := (P 8 ((2 * ((24 * (P 0 13)) + rc2)) + x92_5_9))) ⟨by omega, by omega⟩ (by omega)
          have htd := w92_TD_9
          have hbt := hB92_9
          have f58 := bl_8 (k := ((2 * ((24 * (P 0 13)) + rc2)) + x92_5_9)) hB
          refine g_vV (av := [vI (P 8 ((2 * ((24 * (P 0 13)) + rc2)) + x92_5_9)), vI rc56]) (o := 0) (st := []) (m_X12_later G H92_9 (P 8 ((2 * ((24 * (P 0 13)) + rc2)) + x92_5_9)) rc56 ⟨by have q0 := bl_8 (k := ((2 * ((24 * (P 0 13)) + rc2)) + x92_5_9)) hB; omega, by have q0 := bl_8 (k := ((2 * ((24 * (P 0 13)) + rc2)) + x92_5_9)) hB; omega⟩ ⟨by omega, by omega⟩ hB92_9 (by have q0 := bl_8 (k := ((2 * ((24 * (P 0 13)) + rc2)) + x92_5_9)) hB; have q1 := b0_73 hB92_9; omega) _ (fun Pc59 hBc59 hFc59 gc59_o gc59_e => ⟨rfl, ?_⟩)) cf_X12_later t_1970 rfl (by decide) rfl rfl rfl (Nat.le_of_ble_eq_true rfl) (by decide) rfl dX12_writesValue_118
          have hpu := htd.push hbt gc59_e hFc59 htok
          have hpu2 := hpu.2
          have iv60 : TD Pc59 := hpu.1
          refine g_aload_n dX12_writesValue_121 rfl ?_
          refine g_iconst dX12_writesValue_122 ?_
          refine g_iload dX12_writesValue_123 rfl ?_
          refine g_if_ne (tgt := 133) dX12_writesValue_125 (by decide) ⟨by omega, by omega⟩ (fun k61 => ?_) (fun k61 => ?_)
          · refine g_bipush dX12_writesValue_133 (by decide) ?_
            have htd2 := iv60
            have hbt2 := hBc59
            have htok2 : tok Pc59 (Pc59 0 73) 5 44 := Or.inl ⟨rfl, by have q := (rfl : Pc59 0 73 = (Pc59 0 73)); omega⟩
            refine g_vV (av := [vI 5, vI 44]) (o := 0) (st := []) (m_X12_later G Pc59 5 44 (by decide) (by decide) hBc59 (by have q0 := b0_73 hBc59; omega) _ (fun Pc62 hBc62 hFc62 gc62_o gc62_e => ⟨rfl, ?_⟩)) cf_X12_later t_1970 rfl (by decide) rfl rfl rfl (Nat.le_of_ble_eq_true rfl) (by decide) rfl dX12_writesValue_135
            have hpv := htd2.push hbt2 gc62_e hFc62 htok2
            have hpv2 := hpv.2
            have iv63 : TD Pc62 := hpv.1
            refine g_iinc (l1 := [(5, vI (x92_5_9 + (-1))), (0, vR 0), (2, vI a2), (3, vI rc2), (4, vI ((24 * (P 0 13)) + rc2))]) dX12_writesValue_138 rfl (by decide) rfl ?_
            refine g_goto (tgt := 92) dX12_writesValue_141 (by decide) ?_
            refine g_forget (l1 := [(0, vR 0), (2, vI a2), (3, vI rc2), (4, vI ((24 * (P 0 13)) + rc2)), (5, vI (x92_5_9 + (-1)))]) (by intro q hq; simp only [List.mem_cons, List.not_mem_nil, or_false] at hq ⊢; rcases hq with rfl | rfl | rfl | rfl | rfl <;> simp) ?_
            exact ih92_9 (x92_5_9 + (-1)) ⟨by omega, by omega⟩ _ hBc62 (FrM.c (FrM.c (FrM.c FrM.rf hE92_9 rfl) hFc59 rfl) hFc62 rfl) (by have q0 := b0_73 hBc62; omega) (by omega) (by have q0 := (((hFc62.1 70 rfl).trans ((hFc59.1 70 rfl).trans ((hE92_9.1 70 rfl).trans ((hFc7.1 70 rfl).trans rfl)))) : Pc62 0 70 = (Pc4 0 70)); have q1 := b0_70 hBc4; omega) (by omega) iv63 (by omega)
          · refine g_bipush dX12_writesValue_128 (by decide) ?_
            refine g_goto (tgt := 135) dX12_writesValue_130 (by decide) ?_
            have htd2 := iv60
            have hbt2 := hBc59
            have htok2 : tok Pc59 (Pc59 0 73) 5 40 := Or.inl ⟨rfl, by have q := (rfl : Pc59 0 73 = (Pc59 0 73)); omega⟩
            refine g_vV (av := [vI 5, vI 40]) (o := 0) (st := []) (m_X12_later G Pc59 5 40 (by decide) (by decide) hBc59 (by have q0 := b0_73 hBc59; omega) _ (fun Pc64 hBc64 hFc64 gc64_o gc64_e => ⟨rfl, ?_⟩)) cf_X12_later t_1970 rfl (by decide) rfl rfl rfl (Nat.le_of_ble_eq_true rfl) (by decide) rfl dX12_writesValue_135
            have hpv := htd2.push hbt2 gc64_e hFc64 htok2
            have hpv2 := hpv.2
            have iv65 : TD Pc64 := hpv.1
            refine g_iinc (l1 := [(5, vI (x92_5_9 + (-1))), (0, vR 0), (2, vI a2), (3, vI rc2), (4, vI ((24 * (P 0 13)) + rc2))]) dX12_writesValue_138 rfl (by decide) rfl ?_
            refine g_goto (tgt := 92) dX12_writesValue_141 (by decide) ?_
            refine g_forget (l1 := [(0, vR 0), (2, vI a2), (3, vI rc2), (4, vI ((24 * (P 0 13)) + rc2)), (5, vI (x92_5_9 + (-1)))]) (by intro q hq; simp only [List.mem_cons, List.not_mem_nil, or_false] at hq ⊢; rcases hq with rfl | rfl | rfl | rfl | rfl <;> simp) ?_
            exact ih92_9 (x92_5_9 + (-1)) ⟨by omega, by omega⟩ _ hBc64 (FrM.c (FrM.c (FrM.c FrM.rf hE92_9 rfl) hFc59 rfl) hFc64 rfl) (by have q0 := b0_73 hBc64; omega) (by omega) (by have q0 := (((hFc64.1 70 rfl).trans ((hFc59.1 70 rfl).trans ((hE92_9.1 70 rfl).trans ((hFc7.1 70 rfl).trans rfl)))) : Pc64 0 70 = (Pc4 0 70)); have q1 := b0_70 hBc4; omega) (by omega) iv65 (by omega)
      refine g_forget (l1 := [(0, vR 0), (2, vI a2), (3, vI rc2), (4, vI ((24 * (P 0 13)) + rc2)), (5, vI ((P 7 ((24 * (P 0 13)) + rc2)) - 1))]) (by intro q hq; simp only [List.mem_cons, List.not_mem_nil, or_false] at hq ⊢; rcases hq with rfl | rfl | rfl | rfl | rfl <;> simp) ?_
      exact L92_9 _ ((P 7 ((24 * (P 0 13)) + rc2)) - 1) ⟨by have q0 := bl_7 (k := ((24 * (P 0 13)) + rc2)) hB; omega, by have q0 := bl_7 (k := ((24 * (P 0 13)) + rc2)) hB; omega⟩ _ hBc7 FrM.rf (by have q0 := bl_7 (k := ((24 * (P 0 13)) + rc2)) hB; have q1 := b0_73 hBc7; omega) (by have q0 := bl_7 (k := ((24 * (P 0 13)) + rc2)) hB; omega) (by have q0 := bl_7 (k := ((24 * (P 0 13)) + rc2)) hB; have q1 := (((hFc7.1 70 rfl).trans rfl) : Pc7 0 70 = (Pc4 0 70)); have q2 := b0_70 hBc4; omega) (by have q0 := bl_7 (k := ((24 * (P 0 13)) + rc2)) hB; omega) iv9 (Nat.lt_succ_self _)
    · exact g_retV dX12_writesValue_73 rfl (hQ _ hBc4 (FrM.c FrM.rf hFc4 rfl) (by have q0 := b0_70 hBc4; have q1 := (twp_fr (F := ([70], [46])) (FrM.c FrM.rf hFc4 rfl) rfl : twp Pc4 = twp P); omega) (by have q0 := (twp_fr (F := ([70], [46])) (FrM.c FrM.rf hFc4 rfl) rfl : twp Pc4 = twp P); omega) (TD.fr (F := ([70], [46])) v_TD (FrM.c FrM.rf hFc4 rfl) rfl))
  · have hw4 : wt a1 = 2 := by rw [show a1 = 4 by omega]; decide
    refine g_iload_n dX12_writesValue_5 rfl ?_
    refine g_bipush dX12_writesValue_6 (by decide) ?_
    refine g_icmp_le (tgt := 22) dX12_writesValue_8 (by decide) ⟨by omega, by omega⟩ (by decide) (fun k66 => ?_) (fun k66 => ?_)
    · refine g_aload_n dX12_writesValue_22 rfl ?_
      refine g_bipush dX12_writesValue_23 (by decide) ?_
      refine g_iload_n dX12_writesValue_25 rfl ?_
      refine g_bipush dX12_writesValue_26 (by decide) ?_
      refine g_irem dX12_writesValue_28 ⟨(by decide), by decide⟩ ?_
      refine g_nm (fun b67 e_b67 => ?_)
      have h_b67 := irem_any (x := a2) (y := 10) ⟨by omega, by omega⟩ ⟨by omega, by omega⟩
      rw [← e_b67] at h_b67
      refine g_iadd dX12_writesValue_29 ?_
      refine g_vV (av := [vI (48 + b67)]) (o := 0) (st := []) (m_X12_writes G P (48 + b67) ⟨by omega, by omega⟩ hB (by have q0 := b0_70 hB; omega) _ (fun Pc68 hBc68 hFc68 gc68_o => ⟨rfl, ?_⟩)) cf_X12_writes t_1974 rfl (by decide) rfl rfl rfl (Nat.le_of_ble_eq_true rfl) (by decide) rfl dX12_writesValue_30
      exact g_retV dX12_writesValue_33 rfl (hQ _ hBc68 (FrM.c FrM.rf hFc68 rfl) (by have q0 := b0_70 hBc68; have q1 := (twp_fr (F := ([70], [46])) (FrM.c FrM.rf hFc68 rfl) rfl : twp Pc68 = twp P); omega) (by have q0 := (twp_fr (F := ([70], [46])) (FrM.c FrM.rf hFc68 rfl) rfl : twp Pc68 = twp P); omega) (TD.fr (F := ([70], [46])) v_TD (FrM.c FrM.rf hFc68 rfl) rfl))
    · refine g_aload_n dX12_writesValue_11 rfl ?_
      refine g_bipush dX12_writesValue_12 (by decide) ?_
      refine g_iload_n dX12_writesValue_14 rfl ?_
      refine g_bipush dX12_writesValue_15 (by decide) ?_
      refine g_idiv dX12_writesValue_17 ⟨(by decide), by decide⟩ ?_
      refine g_nm (fun b69 e_b69 => ?_)
      have h_b69 := idiv_p (x := a2) (y := 10) ⟨by omega, by omega⟩ ⟨by omega, by omega⟩
      rw [← e_b69] at h_b69
      refine g_iadd dX12_writesValue_18 ?_
      refine g_vV (av := [vI (48 + b69)]) (o := 0) (st := []) (m_X12_writes G P (48 + b69) ⟨by omega, by omega⟩ hB (by have q0 := b0_70 hB; omega) _ (fun Pc70 hBc70 hFc70 gc70_o => ⟨rfl, ?_⟩)) cf_X12_writes t_1974 rfl (by decide) rfl rfl rfl (Nat.le_of_ble_eq_true rfl) (by decide) rfl dX12_writesValue_19
      refine g_aload_n dX12_writesValue_22 rfl ?_
      refine g_bipush dX12_writesValue_23 (by decide) ?_
      refine g_iload_n dX12_writesValue_25 rfl ?_
      refine g_bipush dX12_writesValue_26 (by decide) ?_
      refine g_irem dX12_writesValue_28 ⟨(by decide), by decide⟩ ?_
      refine g_nm (fun b71 e_b71 => ?_)
      have h_b71 := irem_b (x := a2) (y := 10) ⟨by omega, by omega⟩ ⟨by omega, by omega⟩
      rw [← e_b71] at h_b71
      refine g_iadd dX12_writesValue_29 ?_
      refine g_vV (av := [vI (48 + b71)]) (o := 0) (st := []) (m_X12_writes G Pc70 (48 + b71) ⟨by omega, by omega⟩ hBc70 (by have q0 := b0_70 hBc70; omega) _ (fun Pc72 hBc72 hFc72 gc72_o => ⟨rfl, ?_⟩)) cf_X12_writes t_1974 rfl (by decide) rfl rfl rfl (Nat.le_of_ble_eq_true rfl) (by decide) rfl dX12_writesValue_30
      exact g_retV dX12_writesValue_33 rfl (hQ _ hBc72 (FrM.c (FrM.c FrM.rf hFc70 rfl) hFc72 rfl) (by have q0 := b0_70 hBc72; have q1 := (twp_fr (F := ([70], [46])) (FrM.c (FrM.c FrM.rf hFc70 rfl) hFc72 rfl) rfl : twp Pc72 = twp P); omega) (by have q0 := (twp_fr (F := ([70], [46])) (FrM.c (FrM.c FrM.rf hFc70 rfl) hFc72 rfl) rfl : twp Pc72 = twp P); omega) (TD.fr (F := ([70], [46])) v_TD (FrM.c (FrM.c FrM.rf hFc70 rfl) hFc72 rfl) rfl))
set_option maxRecDepth 100000 in
set_option maxHeartbeats 4000000 in
theorem m_X12_text (G : GT) (P : PH) (a1 : Int) (h_a1 : (-2147483648) ≤ a1 ∧ a1 ≤ 2147483647) (hB : BdM P) (v_okC : okC P) (v_ZT : ZT P) (v_ZO : ZO P) (v_ZC : ZC P) (v_CF : CF P) (Q : Option PV → PH → Prop) (hQ : ∀ (r : Int) (_ : (-2147483648) ≤ r ∧ r ≤ 2147483647) (P1 : PH) (_ : BdM P1) (_ : FrM ([70, 73], [44, 46, 47, 48]) P P1), Q (some (vI r)) P1) : Ct WSM G 4 iX12_text [vR 0, vI a1] P Q := by
  refine Ct.of (by decide) (l0 := [(0, vR 0), (1, vI a1)]) rfl (Nat.le_of_ble_eq_true rfl) ?_
  refine g_aload_n dX12_text_0 rfl ?_
  refine g_iload_n dX12_text_1 rfl ?_
  refine g_vI (av := [vI a1]) (o := 0) (st := []) (m_X12_isRow G P a1 ⟨by omega, by omega⟩ hB  _ (fun rc1 hc1 gc1_p => ⟨rc1, rfl, ?_⟩)) cf_X12_isRow t_1946 rfl (by decide) rfl rfl rfl (Nat.le_of_ble_eq_true rfl) (by decide) rfl dX12_text_2
  have f2 := b0_44 hB
  have f3 := b0_52 hB
  refine g_if_ne (tgt := 10) dX12_text_5 (by decide) ⟨by omega, by omega⟩ (fun k4 => ?_) (fun k4 => ?_)
  · refine g_aload_n dX12_text_10 rfl ?_
    refine g_iload_n dX12_text_11 rfl ?_
    refine g_vV (av := [vI a1]) (o := 0) (st := []) (m_X12_valuesIn G P a1 ⟨by omega, by omega⟩ hB v_okC _ (fun Pc5 hBc5 hFc5 gc5_vv => ⟨rfl, ?_⟩)) cf_X12_valuesIn t_1903 rfl (by decide) rfl rfl rfl (Nat.le_of_ble_eq_true rfl) (by decide) rfl dX12_text_12
    have hvv := gc5_vv
    refine g_aload_n dX12_text_15 rfl ?_
    refine g_iconst dX12_text_16 ?_
    refine m_p70 rfl dX12_text_17 ?_
    have hB6 := bs_70 (z := 0) hBc5 (by decide)
    refine g_aload_n dX12_text_20 rfl ?_
    refine g_iconst dX12_text_21 ?_
    refine m_p73 rfl dX12_text_22 ?_
    have hB7 := bs_73 (z := 0) hB6 (by decide)
    have htz := TD.zero (P := (up (up Pc5 0 70 0) 0 73 0)) up_same
    have htz2 := htz.2
    have iv8 : TD (up (up Pc5 0 70 0) 0 73 0) := htz.1
    refine g_aload_n dX12_text_25 rfl ?_
    refine g_vI (av := []) (o := 0) (st := []) (m_X12_columns G (up (up Pc5 0 70 0) 0 73 0)  hB7  _ (fun rc9 hc9 gc9_c => ⟨rc9, rfl, ?_⟩)) cf_X12_columns t_1827 rfl (by decide) rfl rfl rfl (Nat.le_of_ble_eq_true rfl) (by decide) rfl dX12_text_26
    have z10 : (up (up Pc5 0 70 0) 0 73 0) 0 13 = (P 0 13) := ((up_k (by decide)).trans ((up_k (by decide)).trans ((hFc5.1 13 rfl).trans rfl)))
    have hcl : rc9 = P 11 (P 0 13) := by have q := gc9_c; rw [show (up (up Pc5 0 70 0) 0 73 0) 0 13 = _ from ((up_k (by decide)).trans ((up_k (by decide)).trans ((hFc5.1 13 rfl).trans rfl))), show (up (up Pc5 0 70 0) 0 73 0) 11 (P 0 13) = _ from ((up_o (by decide)).trans ((up_o (by decide)).trans ((congrFun (hFc5.2 11 rfl rfl) _).trans rfl)))] at q; exact q
    have q13 := b0_13 hB
    refine g_iconst dX12_text_29 ?_
    refine g_isub dX12_text_30 ?_
    have q11t := bl_11 (k := P 0 13) hB
    refine g_istore_n (l1 := [(2, vI (rc9 - 1)), (0, vR 0), (1, vI a1)]) dX12_text_31 (by decide) rfl ?_
    have L32_10 : ∀ (n32_10 : Nat) (x32_2_10 : Int) (h_x32_2_10 : (-1) ≤ x32_2_10 ∧ x32_2_10 ≤ 3) (H32_10 : PH) (hB32_10 : BdM H32_10) (hE32_10 : FrM ([73], [47, 48]) (up (up Pc5 0 70 0) 0 73 0) H32_10) (i32_0_10 : (0 ≤ x32_2_10 ∧ twp H32_10 ≤ 198 * (P 11 (P 0 13) - 1 - x32_2_10) ∧ H32_10 0 73 = 2 * (P 11 (P 0 13) - 1 - x32_2_10)) ∨ (x32_2_10 = -1 ∧ twp H32_10 ≤ 791)) (i32_1_10 : H32_10 0 70 = 0) (i32_2_10 : x32_2_10 < P 11 (P 0 13)) (w32_TD_10 : TD H32_10) (hm32_10 : (x32_2_10 + 1 : Int).toNat < n32_10), Go WSM G 4 iX12_text 32 [(0, vR 0), (2, vI x32_2_10)] [] H32_10 Q := by
      intro n32_10
      induction n32_10 with
      | zero => intro x32_2_10 h_x32_2_10 H32_10 hB32_10 hE32_10 i32_0_10 i32_1_10 i32_2_10 w32_TD_10 hm32_10; exact absurd hm32_10 (Nat.not_lt_zero _)
      | succ n32_10 ih32_10 =>
      intro x32_2_10 h_x32_2_10 H32_10 hB32_10 hE32_10 i32_0_10 i32_1_10 i32_2_10 w32_TD_10 hm32_10
      refine g_iload_n dX12_text_32 rfl ?_
      refine g_if_lt (tgt := 76) dX12_text_33 (by decide) ⟨by omega, by omega⟩ (fun k218 => ?_) (fun k218 => ?_)
      · have L76_218 : ∀ (n76_218 : Nat) (H76_218 : PH) (hB76_218 : BdM H76_218) (hE76_218 : FrM ([70, 73], [46, 47, 48]) H32_10 H76_218) (i76_0_218 : H76_218 0 70 + twp H76_218 ≤ 791) (w76_TD_218 : TD H76_218) (hm76_218 : (twp H76_218 : Int).toNat < n76_218), Go WSM G 4 iX12_text 76 [(0, vR 0)] [] H76_218 Q := by
          intro n76_218
          induction n76_218 with
          | zero => intro H76_218 hB76_218 hE76_218 i76_0_218 w76_TD_218 hm76_218; exact absurd hm76_218 (Nat.not_lt_zero _)
          | succ n76_218 ih76_218 =>
          intro H76_218 hB76_218 hE76_218 i76_0_218 w76_TD_218 hm76_218
          refine g_aload_n dX12_text_76 rfl ?_
          refine m_g73 (z := (H76_218 0 73)) rfl dX12_text_77 rfl ?_
          have f264 := b0_73 hB76_218
          refine g_if_le (tgt := 135) dX12_text_80 (by decide) ⟨by have q0 := b0_73 hB76_218; omega, by have q0 := b0_73 hB76_218; omega⟩ (fun k265 => ?_) (fun k265 => ?_)
          · refine g_aload_n dX12_text_135 rfl ?_
            refine m_g70 (z := (H76_218 0 70)) rfl dX12_text_136 rfl ?_
            exact g_retI dX12_text_139 rfl (hQ (H76_218 0 70) ⟨by have q0 := b0_70 hB76_218; omega, by have q0 := b0_70 hB76_218; omega⟩ _ hB76_218 (FrM.c (FrM.c (FrM.s (FrM.s (FrM.c FrM.rf hFc5 rfl) rfl) rfl) hE32_10 rfl) hE76_218 rfl) )
          · obtain ⟨z, hz⟩ : ∃ z, z = (H76_218 0 73) := ⟨_, rfl⟩
            have htd0 := w76_TD_218
            have hz73 := (rfl : H76_218 0 73 = (H76_218 0 73))
            have hzq : H76_218 0 73 = z := by omega
            have k13 : (13 : Int) ≠ 73 := by decide
            have htb0 := twp_b H76_218
            refine g_aload_n dX12_text_83 rfl ?_
            refine g_dup dX12_text_84 rfl ?_
            refine m_g73 (z := (H76_218 0 73)) rfl dX12_text_85 rfl ?_
            refine g_iconst dX12_text_88 ?_
            refine g_isub dX12_text_89 ?_
            refine m_p73 rfl dX12_text_90 ?_
            have hB266 := bs_73 (z := ((H76_218 0 73) - 1)) hB76_218 ⟨by have q0 := b0_73 hB76_218; omega, by have q0 := b0_73 hB76_218; omega⟩
            have htp := htd0.pop (P1 := (up H76_218 0 73 ((H76_218 0 73) - 1))) (n := z) (by omega) (by omega) (by have q := (up_same : (up H76_218 0 73 ((H76_218 0 73) - 1)) 0 73 = ((H76_218 0 73) - 1)); omega) ((up_k k13).trans rfl) (fun j => ((up_o (by decide)).trans rfl)) (fun j => ((up_o (by decide)).trans rfl)) (fun j => ((up_o (by decide)).trans rfl)) (fun j => ((up_o (by decide)).trans rfl))
            have htw := twp_pop (P := _) (P1 := (up H76_218 0 73 ((H76_218 0 73) - 1))) (n := z) hzq (by omega) (by have q := (up_same : (up H76_218 0 73 ((H76_218 0 73) - 1)) 0 73 = ((H76_218 0 73) - 1)); omega) (fun j => ((up_o (by decide)).trans rfl))
            rw [hz] at htw
            have hk2 := htp.2
            rw [hz] at hk2
            have hk3 := hk2
            unfold tok at hk3
            have iv267 : TD (up H76_218 0 73 ((H76_218 0 73) - 1)) := htp.1
            refine g_aload_n dX12_text_93 rfl ?_
            refine m_g71 rfl dX12_text_94 ?_
            refine g_aload_n dX12_text_97 rfl ?_
            refine m_g73 (z := ((H76_218 0 73) - 1)) rfl dX12_text_98 up_same ?_
            refine m_l47 (z := (H76_218 47 ((H76_218 0 73) - 1))) dX12_text_101 ⟨by have q0 := b0_73 hB76_218; omega, by have q0 := b0_73 hB76_218; omega⟩ ((up_o (by decide)).trans rfl) ?_
            have hwb1 := wt_b (H76_218 47 ((H76_218 0 73) - 1))
            have htb1 := twp_b (up H76_218 0 73 ((H76_218 0 73) - 1))
            refine g_istore_n (l1 := [(2, vI (H76_218 47 ((H76_218 0 73) - 1))), (0, vR 0)]) dX12_text_102 (by decide) rfl ?_
            refine g_aload_n dX12_text_103 rfl ?_
            refine m_g72 rfl dX12_text_104 ?_
            refine g_aload_n dX12_text_107 rfl ?_
            refine m_g73 (z := ((H76_218 0 73) - 1)) rfl dX12_text_108 up_same ?_
            refine m_l48 (z := (H76_218 48 ((H76_218 0 73) - 1))) dX12_text_111 ⟨by have q0 := b0_73 hB76_218; omega, by have q0 := b0_73 hB76_218; omega⟩ ((up_o (by decide)).trans rfl) ?_
            refine g_istore_n (l1 := [(3, vI (H76_218 48 ((H76_218 0 73) - 1))), (2, vI (H76_218 47 ((H76_218 0 73) - 1))), (0, vR 0)]) dX12_text_112 (by decide) rfl ?_
            have hw5 : (H76_218 47 ((H76_218 0 73) - 1)) = 5 → wt ((H76_218 47 ((H76_218 0 73) - 1))) = 1 := fun e => by rw [e]; decide
            refine g_iload_n dX12_text_113 rfl ?_
            refine g_iconst dX12_text_114 ?_
            have f268 := bl_47 (k := ((H76_218 0 73) - 1)) hB76_218
            refine g_icmp_ne (tgt := 126) dX12_text_115 (by decide) ⟨by have q0 := bl_47 (k := ((H76_218 0 73) - 1)) hB76_218; omega, by have q0 := bl_47 (k := ((H76_218 0 73) - 1)) hB76_218; omega⟩ (by decide) (fun k269 => ?_) (fun k269 => ?_)
            · refine g_aload_n dX12_text_126 rfl ?_
              refine g_iload_n dX12_text_127 rfl ?_
              refine g_iload_n dX12_text_128 rfl ?_
              have f270 := bl_48 (k := ((H76_218 0 73) - 1)) hB76_218
              refine g_vV (av := [vI (H76_218 47 ((H76_218 0 73) - 1)), vI (H76_218 48 ((H76_218 0 73) - 1))]) (o := 0) (st := []) (m_X12_writesValue G (up H76_218 0 73 ((H76_218 0 73) - 1)) (H76_218 47 ((H76_218 0 73) - 1)) (H76_218 48 ((H76_218 0 73) - 1)) ⟨by have q0 := bl_47 (k := ((H76_218 0 73) - 1)) hB76_218; omega, by have q0 := bl_47 (k := ((H76_218 0 73) - 1)) hB76_218; omega⟩ ⟨by have q0 := bl_48 (k := ((H76_218 0 73) - 1)) hB76_218; omega, by have q0 := bl_48 (k := ((H76_218 0 73) - 1)) hB76_218; omega⟩ hB266 (by rw [show (up H76_218 0 73 ((H76_218 0 73) - 1)) 0 73 = _ from up_same]; exact hk2) (by have q0 := bl_47 (k := ((H76_218 0 73) - 1)) hB76_218; have q1 := bl_48 (k := ((H76_218 0 73) - 1)) hB76_218; have q2 := (((up_k (by decide)).trans rfl) : (up H76_218 0 73 ((H76_218 0 73) - 1)) 0 70 = (H76_218 0 70)); have q3 := b0_70 hB76_218; omega) iv267 (ZT.fr (F := ([70, 73], [44, 46, 47, 48])) v_ZT (FrM.s (FrM.c (FrM.c (FrM.s (FrM.s (FrM.c FrM.rf hFc5 rfl) rfl) rfl) hE32_10 rfl) hE76_218 rfl) rfl) rfl) (ZO.fr (F := ([70, 73], [44, 46, 47, 48])) v_ZO (FrM.s (FrM.c (FrM.c (FrM.s (FrM.s (FrM.c FrM.rf hFc5 rfl) rfl) rfl) hE32_10 rfl) hE76_218 rfl) rfl) rfl) (CF.fr (F := ([70, 73], [44, 46, 47, 48])) v_CF (FrM.s (FrM.c (FrM.c (FrM.s (FrM.s (FrM.c FrM.rf hFc5 rfl) rfl) rfl) hE32_10 rfl) hE76_218 rfl) rfl) rfl) _ (fun Pc271 hBc271 hFc271 gc271_ps gc271_ms vc271_TD => ⟨rfl, ?_⟩)) cf_X12_writesValue t_1978 rfl (by decide) rfl rfl rfl (Nat.le_of_ble_eq_true rfl) (by decide) rfl dX12_text_129
              refine g_goto (tgt := 76) dX12_text_132 (by decide) ?_
              refine g_forget (l1 := [(0, vR 0)]) (by intro q hq; simp only [List.mem_cons, List.not_mem_nil, or_false] at hq ⊢; rcases hq with rfl <;> simp) ?_
              exact ih76_218 _ hBc271 (FrM.c (FrM.s (FrM.c FrM.rf hE76_218 rfl) rfl) hFc271 rfl) (by have q0 := b0_70 hBc271; omega) vc271_TD (by omega)
            · refine g_aload_n dX12_text_118 rfl ?_
              refine g_iload_n dX12_text_119 rfl ?_
              have f272 := bl_48 (k := ((H76_218 0 73) - 1)) hB76_218
              refine g_vV (av := [vI (H76_218 48 ((H76_218 0 73) - 1))]) (o := 0) (st := []) (m_X12_writes G (up H76_218 0 73 ((H76_218 0 73) - 1)) (H76_218 48 ((H76_218 0 73) - 1)) ⟨by have q0 := bl_48 (k := ((H76_218 0 73) - 1)) hB76_218; omega, by have q0 := bl_48 (k := ((H76_218 0 73) - 1)) hB76_218; omega⟩ hB266 (by have q0 := bl_48 (k := ((H76_218 0 73) - 1)) hB76_218; have q1 := (((up_k (by decide)).trans rfl) : (up H76_218 0 73 ((H76_218 0 73) - 1)) 0 70 = (H76_218 0 70)); have q2 := b0_70 hB76_218; omega) _ (fun Pc273 hBc273 hFc273 gc273_o => ⟨rfl, ?_⟩)) cf_X12_writes t_1974 rfl (by decide) rfl rfl rfl (Nat.le_of_ble_eq_true rfl) (by decide) rfl dX12_text_120
              have z274 : (up H76_218 0 73 ((H76_218 0 73) - 1)) 0 70 = (H76_218 0 70) := ((up_k (by decide)).trans rfl)
              refine g_goto (tgt := 132) dX12_text_123 (by decide) ?_
              refine g_goto (tgt := 76) dX12_text_132 (by decide) ?_
              refine g_forget (l1 := [(0, vR 0)]) (by intro q hq; simp only [List.mem_cons, List.not_mem_nil, or_false] at hq ⊢; rcases hq with rfl <;> simp) ?_
              exact ih76_218 _ hBc273 (FrM.c (FrM.s (FrM.c FrM.rf hE76_218 rfl) rfl) hFc273 rfl) (by have q0 := b0_70 hBc273; have q1 := (twp_fr (F := ([70], [46])) (FrM.c FrM.rf hFc273 rfl) rfl : twp Pc273 = twp (up H76_218 0 73 ((H76_218 0 73) - 1))); omega) (TD.fr (F := ([70], [46])) iv267 (FrM.c FrM.rf hFc273 rfl) rfl) (by have q0 := (twp_fr (F := ([70], [46])) (FrM.c FrM.rf hFc273 rfl) rfl : twp Pc273 = twp (up H76_218 0 73 ((H76_218 0 73) - 1))); omega)
        refine g_forget (l1 := [(0, vR 0)]) (by intro q hq; simp only [List.mem_cons, List.not_mem_nil, or_false] at hq ⊢; rcases hq with rfl <;> simp) ?_
        exact L76_218 _ _ hB32_10 FrM.rf (by have q0 := (((hE32_10.1 70 rfl).trans ((up_k (by decide)).trans up_same)) : H32_10 0 70 = 0); omega) w32_TD_10 (Nat.lt_succ_self _)
      · refine g_aload_n dX12_text_36 rfl ?_
        refine g_aload_n dX12_text_37 rfl ?_
        refine m_g24 rfl dX12_text_38 ?_
        refine g_iconst dX12_text_41 ?_
        refine g_aload_n dX12_text_42 rfl ?_
        refine m_g13 (z := (P 0 13)) rfl dX12_text_43 ((hE32_10.1 13 rfl).trans ((up_k (by decide)).trans ((up_k (by decide)).trans ((hFc5.1 13 rfl).trans rfl)))) ?_
        refine g_imul dX12_text_46 ?_
        refine g_iload_n dX12_text_47 rfl ?_
        refine g_iadd dX12_text_48 ?_
        refine m_l12 (z := (P 12 ((4 * (P 0 13)) + x32_2_10))) dX12_text_49 ⟨by have q0 := b0_13 hB; omega, by have q0 := b0_13 hB; omega⟩ ((congrFun (hE32_10.2 12 rfl rfl) _).trans ((up_o (by decide)).trans ((up_o (by decide)).trans ((congrFun (hFc5.2 12 rfl rfl) _).trans rfl)))) ?_
        refine g_aload_n dX12_text_50 rfl ?_
        refine m_g67 rfl dX12_text_51 ?_
        refine g_iload_n dX12_text_54 rfl ?_
        refine m_l44 (z := (Pc5 44 x32_2_10)) dX12_text_55 ⟨by omega, by omega⟩ ((congrFun (hE32_10.2 44 rfl rfl) _).trans ((up_o (by decide)).trans ((up_o (by decide)).trans rfl))) ?_
        have q12 := bl_12 (k := 4 * P 0 13 + x32_2_10) hB
        have hvl := hvv x32_2_10 (by omega) (by omega)
        have hzl := v_ZC (P 0 13) x32_2_10 (by omega) (by omega) (by omega) (by omega)
        have hww := wt_b (P 12 ((4 * (P 0 13)) + x32_2_10))
        have htok : tok H32_10 (H32_10 0 73) (P 12 ((4 * (P 0 13)) + x32_2_10)) (Pc5 44 x32_2_10) := by
          have q := (rfl : H32_10 0 73 = (H32_10 0 73))
          unfold tok
          rw [show H32_10 0 13 = _ from ((hE32_10.1 13 rfl).trans ((up_k (by decide)).trans ((up_k (by decide)).trans ((hFc5.1 13 rfl).trans rfl)))), show H32_10 2 (P 0 13) = _ from ((congrFun (hE32_10.2 2 rfl rfl) _).trans ((up_o (by decide)).trans ((up_o (by decide)).trans ((congrFun (hFc5.2 2 rfl rfl) _).trans rfl)))), show H32_10 3 (4 * P 0 13 + (P 12 ((4 * (P 0 13)) + x32_2_10))) = _ from ((congrFun (hE32_10.2 3 rfl rfl) _).trans ((up_o (by decide)).trans ((up_o (by decide)).trans ((congrFun (hFc5.2 3 rfl rfl) _).trans rfl))))]
          unfold vals at hvl
          by_cases e4 : P 12 (4 * P 0 13 + x32_2_10) = 4
          · rw [if_pos e4] at hvl; omega
          · rw [if_neg e4] at hvl; omega
        have htd := w32_TD_10
        have hbt := hB32_10
        have f275 := bl_12 (k := ((4 * (P 0 13)) + x32_2_10)) hB
        have f276 := bl_44 (k := x32_2_10) hBc5
        refine g_vV (av := [vI (P 12 ((4 * (P 0 13)) + x32_2_10)), vI (Pc5 44 x32_2_10)]) (o := 0) (st := []) (m_X12_later G H32_10 (P 12 ((4 * (P 0 13)) + x32_2_10)) (Pc5 44 x32_2_10) ⟨by have q0 := bl_12 (k := ((4 * (P 0 13)) + x32_2_10)) hB; omega, by have q0 := bl_12 (k := ((4 * (P 0 13)) + x32_2_10)) hB; omega⟩ ⟨by have q0 := bl_44 (k := x32_2_10) hBc5; omega, by have q0 := bl_44 (k := x32_2_10) hBc5; omega⟩ hB32_10 (by have q0 := bl_12 (k := ((4 * (P 0 13)) + x32_2_10)) hB; have q1 := bl_44 (k := x32_2_10) hBc5; have q2 := b0_73 hB32_10; omega) _ (fun Pc277 hBc277 hFc277 gc277_o gc277_e => ⟨rfl, ?_⟩)) cf_X12_later t_1970 rfl (by decide) rfl rfl rfl (Nat.le_of_ble_eq_true rfl) (by decide) rfl dX12_text_56
        have hpu := htd.push hbt gc277_e hFc277 htok
        have hpu2 := hpu.2
        have iv278 : TD Pc277 := hpu.1
        refine g_iload_n dX12_text_59 rfl ?_
        refine g_if_le (tgt := 70) dX12_text_60 (by decide) ⟨by omega, by omega⟩ (fun k279 => ?_) (fun k279 => ?_)
        · refine g_iinc (l1 := [(2, vI (x32_2_10 + (-1))), (0, vR 0)]) dX12_text_70 rfl (by decide) rfl ?_
          refine g_goto (tgt := 32) dX12_text_73 (by decide) ?_
          refine g_forget (l1 := [(0, vR 0), (2, vI (x32_2_10 + (-1)))]) (by intro q hq; simp only [List.mem_cons, List.not_mem_nil, or_false] at hq ⊢; rcases hq with rfl | rfl <;> simp) ?_
          exact ih32_10 (x32_2_10 + (-1)) ⟨by omega, by omega⟩ _ hBc277 (FrM.c (FrM.c FrM.rf hE32_10 rfl) hFc277 rfl) (by have q0 := b0_73 hBc277; omega) (by have q0 := (((hFc277.1 70 rfl).trans ((hE32_10.1 70 rfl).trans ((up_k (by decide)).trans up_same))) : Pc277 0 70 = 0); omega) (by omega) iv278 (by omega)
        · refine g_aload_n dX12_text_63 rfl ?_
          refine g_iconst dX12_text_64 ?_
          refine g_bipush dX12_text_65 (by decide) ?_
          have htd2 := iv278
          have hbt2 := hBc277
          have htok2 : tok Pc277 (Pc277 0 73) 5 44 := Or.inl ⟨rfl, by have q := (rfl : Pc277 0 73 = (Pc277 0 73)); omega⟩
          have hw5 : wt 5 = 1 := by decide
          refine g_vV (av := [vI 5, vI 44]) (o := 0) (st := []) (m_X12_later G Pc277 5 44 (by decide) (by decide) hBc277 (by have q0 := b0_73 hBc277; omega) _ (fun Pc280 hBc280 hFc280 gc280_o gc280_e => ⟨rfl, ?_⟩)) cf_X12_later t_1970 rfl (by decide) rfl rfl rfl (Nat.le_of_ble_eq_true rfl) (by decide) rfl dX12_text_67
          have hpv := htd2.push hbt2 gc280_e hFc280 htok2
          have hpv2 := hpv.2
          have iv281 : TD Pc280 := hpv.1
          refine g_iinc (l1 := [(2, vI (x32_2_10 + (-1))), (0, vR 0)]) dX12_text_70 rfl (by decide) rfl ?_
          refine g_goto (tgt := 32) dX12_text_73 (by decide) ?_
          refine g_forget (l1 := [(0, vR 0), (2, vI (x32_2_10 + (-1)))]) (by intro q hq; simp only [List.mem_cons, List.not_mem_nil, or_false] at hq ⊢; rcases hq with rfl | rfl <;> simp) ?_
          exact ih32_10 (x32_2_10 + (-1)) ⟨by omega, by omega⟩ _ hBc280 (FrM.c (FrM.c (FrM.c FrM.rf hE32_10 rfl) hFc277 rfl) hFc280 rfl) (by have q0 := b0_73 hBc280; omega) (by have q0 := (((hFc280.1 70 rfl).trans ((hFc277.1 70 rfl).trans ((hE32_10.1 70 rfl).trans ((up_k (by decide)).trans up_same)))) : Pc280 0 70 = 0); omega) (by omega) iv281 (by omega)
    refine g_forget (l1 := [(0, vR 0), (2, vI (rc9 - 1))]) (by intro q hq; simp only [List.mem_cons, List.not_mem_nil, or_false] at hq ⊢; rcases hq with rfl | rfl <;> simp) ?_
    exact L32_10 _ (rc9 - 1) ⟨by omega, by omega⟩ _ hB7 FrM.rf (by have q0 := (up_same : (up (up Pc5 0 70 0) 0 73 0) 0 73 = 0); omega) (by have q0 := (((up_k (by decide)).trans up_same) : (up (up Pc5 0 70 0) 0 73 0) 0 70 = 0); omega) (by omega) iv8 (Nat.lt_succ_self _)
  · refine g_iconst dX12_text_8 ?_
    exact g_retI dX12_text_9 rfl (hQ (-1) (by decide) _ hB FrM.rf )
end
