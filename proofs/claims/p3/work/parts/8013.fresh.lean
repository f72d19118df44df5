/-! What the reference answers: X12_fresh. -/
set_option maxRecDepth 100000 in
set_option maxHeartbeats 4000000 in
theorem f_X12_fresh (G : GT) (P : PH) (T : TT) (K : PH) (p : Int) (hB : BdM P) (p_lx : (P 0 3 = 0 ∨ P 0 4 + 1 ≤ P 0 5) ∧ P 0 4 ≤ P 0 5) (p_fk : P 0 8 ≤ 0) (p_aw : AW K) (z0 : MT T P) (z1 : MS T p P) (z2 : MK K P) (Q : Option PV → PH → Prop) (hQ : ∀ (r : Int) (_ : (-9223372036854775808) ≤ r ∧ r ≤ 9223372036854775807) (P1 : PH) (_ : BdM P1) (_ : FrM ([3, 4, 5, 6, 7, 8, 9, 12], []) P P1) (_ : (P1 0 3 = 0 ∨ P1 0 4 + 1 ≤ P1 0 5) ∧ P1 0 4 ≤ P1 0 5) (_ : P 0 4 ≤ P1 0 4) (_ : P 0 8 ≤ 0 ∨ 0 < P1 0 8) (_ : P1 0 8 = (fre T K p).1 ∧ ((fre T K p).1 = 0 ∨ P1 0 9 = (fre T K p).2)) (_ : (fre T K p).1 ≠ 0 ∨ (r = tW T p ∧ tK T p = 1)) (_ : CP (fre T K p).1 (MS T (fre T K p).2) P1), Q (some (vL r)) P1) : Ct WSM G 3 iX12_fresh [vR 0] P Q := by
  refine Ct.of (by decide) (l0 := [(0, vR 0)]) rfl (Nat.le_of_ble_eq_true rfl) ?_
  have hat := z1.at.1
  refine g_aload_n dX12_fresh_0 rfl ?_
  refine g_vV (av := []) (o := 0) (st := []) (f_X12_lex G P (T) (p)  hB ((fun h0 => by first | exact z1 | (exfalso; omega))) _ (fun Pc1 hBc1 hFc1 gc1_pe gc1_l => ⟨rfl, ?_⟩)) cf_X12_lex t_1697 rfl (by decide) rfl rfl rfl (Nat.le_of_ble_eq_true rfl) (by decide) rfl dX12_fresh_1
  have hlx := gc1_l
  clear gc1_l
  refine g_aload_n dX12_fresh_4 rfl ?_
  refine m_g8 (z := (Pc1 0 8)) rfl dX12_fresh_5 rfl ?_
  have f2 := b0_8 hBc1
  refine g_if_le (tgt := 13) dX12_fresh_8 (by decide) ⟨by have q0 := b0_8 hBc1; omega, by have q0 := b0_8 hBc1; omega⟩ (fun k3 => ?_) (fun k3 => ?_)
  · have hk4 : tK T (p) ≠ 4 := by omega
    have hl8 : Pc1 0 8 = P 0 8 ∧ Pc1 0 9 = P 0 9 := by omega
    clear hlx
    have htk := z1.tok hk4
    have hfr := fre_s T K p
    rw [fh_ok hk4] at hfr
    refine g_aload_n dX12_fresh_13 rfl ?_
    refine m_g3 (z := (P 0 3)) rfl dX12_fresh_14 ((hFc1.1 3 rfl).trans rfl) ?_
    refine g_iconst dX12_fresh_17 ?_
    have f4 := b0_3 hB
    refine g_icmp_ne (tgt := 32) dX12_fresh_18 (by decide) ⟨by have q0 := b0_3 hB; omega, by have q0 := b0_3 hB; omega⟩ (by decide) (fun k5 => ?_) (fun k5 => ?_)
    · have hfx : (fre T K p).1 = 1 ∧ (fre T K p).2 = tA T p := by omega
      clear hfr
      refine g_aload_n dX12_fresh_32 rfl ?_
      refine g_iconst dX12_fresh_33 ?_
      refine g_aload_n dX12_fresh_34 rfl ?_
      refine m_g4 (z := (P 0 4)) rfl dX12_fresh_35 ((hFc1.1 4 rfl).trans rfl) ?_
      have f6 := b0_4 hB
      refine g_vV (av := [vI 1, vI (P 0 4)]) (o := 0) (st := []) (f_X12_blame G Pc1 1 (P 0 4) (by decide) ⟨by have q0 := b0_4 hB; omega, by have q0 := b0_4 hB; omega⟩ hBc1  _ (fun Pc7 hBc7 hFc7 gc7_f gc7_pe gc7_b => ⟨rfl, ?_⟩)) cf_X12_blame t_1701 rfl (by decide) rfl rfl rfl (Nat.le_of_ble_eq_true rfl) (by decide) rfl dX12_fresh_38
      refine g_aload_n dX12_fresh_41 rfl ?_
      refine m_g8 (z := (Pc7 0 8)) rfl dX12_fresh_42 rfl ?_
      have f8 := b0_8 hBc7
      refine g_if_ne (tgt := 85) dX12_fresh_45 (by decide) ⟨by have q0 := b0_8 hBc7; omega, by have q0 := b0_8 hBc7; omega⟩ (fun k9 => ?_) (fun k9 => by exfalso; have q0 := b0_8 hBc7; omega)
      refine g_aload_n dX12_fresh_85 rfl ?_
      refine m_g7 (z := (P 0 7)) rfl dX12_fresh_86 ((hFc7.1 7 rfl).trans ((hFc1.1 7 rfl).trans rfl)) ?_
      refine g_lstore_n (l1 := [(1, vL (P 0 7)), (0, vR 0)]) dX12_fresh_89 (by decide) rfl ?_
      refine g_aload_n dX12_fresh_90 rfl ?_
      refine m_g8 (z := (Pc7 0 8)) rfl dX12_fresh_91 rfl ?_
      refine g_if_ne (tgt := 101) dX12_fresh_94 (by decide) ⟨by have q0 := b0_8 hBc7; omega, by have q0 := b0_8 hBc7; omega⟩ (fun k10 => ?_) (fun k10 => by exfalso; have q0 := b0_8 hBc7; omega)
      refine g_lload_n dX12_fresh_101 rfl ?_
      exact g_retL dX12_fresh_102 rfl (hQ (P 0 7) ⟨by have q0 := b0_7 hB; omega, by have q0 := b0_7 hB; omega⟩ _ hBc7 (FrM.c (FrM.c FrM.rf hFc1 rfl) hFc7 rfl) (by have q0 := b0_7 hB; have q1 := (((hFc7.1 3 rfl).trans ((hFc1.1 3 rfl).trans rfl)) : Pc7 0 3 = (P 0 3)); have q2 := b0_3 hB; have q3 := (((hFc7.1 4 rfl).trans ((hFc1.1 4 rfl).trans rfl)) : Pc7 0 4 = (P 0 4)); have q4 := b0_4 hB; have q5 := (((hFc7.1 5 rfl).trans ((hFc1.1 5 rfl).trans rfl)) : Pc7 0 5 = (P 0 5)); have q6 := b0_5 hB; omega) (by have q0 := b0_7 hB; have q1 := (((hFc7.1 4 rfl).trans ((hFc1.1 4 rfl).trans rfl)) : Pc7 0 4 = (P 0 4)); have q2 := b0_4 hB; omega) (by have q0 := b0_7 hB; have q1 := b0_8 hBc7; omega) (by have q0 := b0_7 hB; have q1 := b0_8 hBc7; have q2 := b0_9 hBc7; omega) (by have q0 := b0_7 hB; omega) ((fun h0 => by first | exact (by first | (rw [show (fre T K p).2 = p by omega]; exact (MS.fr (F := ([8, 9], [])) z1 (FrM.c (FrM.c FrM.rf hFc1 rfl) hFc7 rfl) rfl))) | (exfalso; omega))))
    · have hwd := z1.word (by omega)
      refine g_aload_n dX12_fresh_21 rfl ?_
      refine g_aload_n dX12_fresh_22 rfl ?_
      refine m_g7 (z := (P 0 7)) rfl dX12_fresh_23 ((hFc1.1 7 rfl).trans rfl) ?_
      have f11 := b0_7 hB
      refine g_vI (av := [vL (P 0 7)]) (o := 0) (st := []) (f_X12_isOwn G Pc1 (P 0 7) ⟨by have q0 := b0_7 hB; omega, by have q0 := b0_7 hB; omega⟩ hBc1  _ (fun rc12 hc12 gc12_o => ⟨rc12, rfl, ?_⟩)) cf_X12_isOwn t_1722 rfl (by decide) rfl rfl rfl (Nat.le_of_ble_eq_true rfl) (by decide) rfl dX12_fresh_26
      have hown := own_r (T := T) (p := p) gc12_o (fun h1 => by have q := (((hFc1.1 7 rfl).trans rfl) : Pc1 0 7 = (P 0 7)); omega) (by omega)
      clear gc12_o
      refine g_if_eq (tgt := 41) dX12_fresh_29 (by decide) ⟨by omega, by omega⟩ (fun k13 => ?_) (fun k13 => ?_)
      · refine g_aload_n dX12_fresh_41 rfl ?_
        refine m_g8 (z := (Pc1 0 8)) rfl dX12_fresh_42 rfl ?_
        refine g_if_ne (tgt := 85) dX12_fresh_45 (by decide) ⟨by have q0 := b0_8 hBc1; omega, by have q0 := b0_8 hBc1; omega⟩ (fun k14 => by exfalso; have q0 := b0_8 hBc1; omega) (fun k14 => ?_)
        refine g_aload_n dX12_fresh_48 rfl ?_
        refine g_aload_n dX12_fresh_49 rfl ?_
        refine m_g7 (z := (P 0 7)) rfl dX12_fresh_50 ((hFc1.1 7 rfl).trans rfl) ?_
        have hk1 : tK T p = 1 ∧ tO T p = -1 := by omega
        refine g_vI (av := [vL (P 0 7)]) (o := 0) (st := []) (f_X12_kindNamed G Pc1 (P 0 7) ⟨by have q0 := b0_7 hB; omega, by have q0 := b0_7 hB; omega⟩ hBc1  _ (fun rc15 hc15 gc15_k gc15_fx => ⟨rc15, rfl, ?_⟩)) cf_X12_kindNamed t_1736 rfl (by decide) rfl rfl rfl (Nat.le_of_ble_eq_true rfl) (by decide) rfl dX12_fresh_53
        have z16 : Pc1 0 37 = (P 0 37) := ((hFc1.1 37 rfl).trans rfl)
        have hkn : rc15 = kNm K (tV T p) := by
          have q := gc15_fx
          rw [hwd, ((MK.fr (F := ([8, 9], [])) z2 (FrM.c FrM.rf hFc1 rfl) rfl)).kn p_aw (NW.tok (T := T) (p := p) (by omega))] at q
          exact q
        refine g_iconst dX12_fresh_56 ?_
        refine g_icmp_ne (tgt := 76) dX12_fresh_57 (by decide) ⟨by omega, by omega⟩ (by decide) (fun k17 => ?_) (fun k17 => ?_)
        · refine g_aload_n dX12_fresh_76 rfl ?_
          refine g_iconst dX12_fresh_77 ?_
          refine g_aload_n dX12_fresh_78 rfl ?_
          refine m_g4 (z := (P 0 4)) rfl dX12_fresh_79 ((hFc1.1 4 rfl).trans rfl) ?_
          have f18 := b0_4 hB
          refine g_vV (av := [vI 2, vI (P 0 4)]) (o := 0) (st := []) (f_X12_blame G Pc1 2 (P 0 4) (by decide) ⟨by have q0 := b0_4 hB; omega, by have q0 := b0_4 hB; omega⟩ hBc1  _ (fun Pc19 hBc19 hFc19 gc19_f gc19_pe gc19_b => ⟨rfl, ?_⟩)) cf_X12_blame t_1701 rfl (by decide) rfl rfl rfl (Nat.le_of_ble_eq_true rfl) (by decide) rfl dX12_fresh_82
          refine g_aload_n dX12_fresh_85 rfl ?_
          refine m_g7 (z := (P 0 7)) rfl dX12_fresh_86 ((hFc19.1 7 rfl).trans ((hFc1.1 7 rfl).trans rfl)) ?_
          refine g_lstore_n (l1 := [(1, vL (P 0 7)), (0, vR 0)]) dX12_fresh_89 (by decide) rfl ?_
          refine g_aload_n dX12_fresh_90 rfl ?_
          refine m_g8 (z := (Pc19 0 8)) rfl dX12_fresh_91 rfl ?_
          have f20 := b0_8 hBc19
          refine g_if_ne (tgt := 101) dX12_fresh_94 (by decide) ⟨by have q0 := b0_8 hBc19; omega, by have q0 := b0_8 hBc19; omega⟩ (fun k21 => ?_) (fun k21 => by exfalso; have q0 := b0_8 hBc19; omega)
          refine g_lload_n dX12_fresh_101 rfl ?_
          exact g_retL dX12_fresh_102 rfl (hQ (P 0 7) ⟨by have q0 := b0_7 hB; omega, by have q0 := b0_7 hB; omega⟩ _ hBc19 (FrM.c (FrM.c FrM.rf hFc1 rfl) hFc19 rfl) (by have q0 := b0_7 hB; have q1 := (((hFc19.1 3 rfl).trans ((hFc1.1 3 rfl).trans rfl)) : Pc19 0 3 = (P 0 3)); have q2 := b0_3 hB; have q3 := (((hFc19.1 4 rfl).trans ((hFc1.1 4 rfl).trans rfl)) : Pc19 0 4 = (P 0 4)); have q4 := b0_4 hB; have q5 := (((hFc19.1 5 rfl).trans ((hFc1.1 5 rfl).trans rfl)) : Pc19 0 5 = (P 0 5)); have q6 := b0_5 hB; omega) (by have q0 := b0_7 hB; have q1 := (((hFc19.1 4 rfl).trans ((hFc1.1 4 rfl).trans rfl)) : Pc19 0 4 = (P 0 4)); have q2 := b0_4 hB; omega) (by have q0 := b0_7 hB; have q1 := b0_8 hBc19; omega) (by have q0 := b0_7 hB; have q1 := b0_8 hBc19; have q2 := b0_9 hBc19; omega) (by have q0 := b0_7 hB; omega) ((fun h0 => by first | exact (by first | (rw [show (fre T K p).2 = p by omega]; exact (MS.fr (F := ([8, 9], [])) z1 (FrM.c (FrM.c FrM.rf hFc1 rfl) hFc19 rfl) rfl))) | (exfalso; omega))))
        · refine g_aload_n dX12_fresh_60 rfl ?_
          refine g_aload_n dX12_fresh_61 rfl ?_
          refine m_g37 (z := (P 0 37)) rfl dX12_fresh_62 ((hFc1.1 37 rfl).trans rfl) ?_
          refine g_aload_n dX12_fresh_65 rfl ?_
          refine m_g7 (z := (P 0 7)) rfl dX12_fresh_66 ((hFc1.1 7 rfl).trans rfl) ?_
          have f22 := b0_37 hB
          refine g_vI (av := [vI (P 0 37), vL (P 0 7)]) (o := 0) (st := []) (f_X12_conNamed G Pc1 (P 0 37) (P 0 7) ⟨by have q0 := b0_37 hB; omega, by have q0 := b0_37 hB; omega⟩ ⟨by have q0 := b0_7 hB; omega, by have q0 := b0_7 hB; omega⟩ hBc1  _ (fun rc23 hc23 gc23_k gc23_fx => ⟨rc23, rfl, ?_⟩)) cf_X12_conNamed t_1740 rfl (by decide) rfl rfl rfl (Nat.le_of_ble_eq_true rfl) (by decide) rfl dX12_fresh_69
          have z24 : Pc1 5 (P 0 37) = (P 5 (P 0 37)) := ((congrFun (hFc1.2 5 rfl rfl) _).trans rfl)
          have hcn : rc23 = cNm K (tV T p) := by
            have q := gc23_fx
            rw [hwd, ← show Pc1 0 37 = P 0 37 from ((hFc1.1 37 rfl).trans rfl), ((MK.fr (F := ([8, 9], [])) z2 (FrM.c FrM.rf hFc1 rfl) rfl)).cn p_aw (NW.tok (T := T) (p := p) (by omega))] at q
            exact q
          refine g_iconst dX12_fresh_72 ?_
          refine g_icmp_eq (tgt := 85) dX12_fresh_73 (by decide) ⟨by omega, by omega⟩ (by decide) (fun k25 => ?_) (fun k25 => ?_)
          · refine g_aload_n dX12_fresh_85 rfl ?_
            refine m_g7 (z := (P 0 7)) rfl dX12_fresh_86 ((hFc1.1 7 rfl).trans rfl) ?_
            refine g_lstore_n (l1 := [(1, vL (P 0 7)), (0, vR 0)]) dX12_fresh_89 (by decide) rfl ?_
            refine g_aload_n dX12_fresh_90 rfl ?_
            refine m_g8 (z := (Pc1 0 8)) rfl dX12_fresh_91 rfl ?_
            refine g_if_ne (tgt := 101) dX12_fresh_94 (by decide) ⟨by have q0 := b0_8 hBc1; omega, by have q0 := b0_8 hBc1; omega⟩ (fun k26 => by exfalso; have q0 := b0_8 hBc1; omega) (fun k26 => ?_)
            refine g_aload_n dX12_fresh_97 rfl ?_
            refine g_vV (av := []) (o := 0) (st := []) (f_X12_ahead G Pc1 (T) (tE T p)  hBc1 (by have q := (((hFc1.1 5 rfl).trans rfl) : Pc1 0 5 = (P 0 5)); have q2 := z1.tok (by omega); have q3 := tE_b (T := T) (p := p) (by omega); have q4 := z1.at; omega) ((MT.fr (F := ([8, 9], [])) z0 (FrM.c FrM.rf hFc1 rfl) rfl)) _ (fun Pc27 hBc27 hFc27 gc27_lx gc27_nx ec27_0 => ⟨rfl, ?_⟩)) cf_X12_ahead t_1683 rfl (by decide) rfl rfl rfl (Nat.le_of_ble_eq_true rfl) (by decide) rfl dX12_fresh_98
            have z28 : Pc1 0 5 = (P 0 5) := ((hFc1.1 5 rfl).trans rfl)
            refine g_lload_n dX12_fresh_101 rfl ?_
            exact g_retL dX12_fresh_102 rfl (hQ (P 0 7) ⟨by have q0 := b0_7 hB; omega, by have q0 := b0_7 hB; omega⟩ _ hBc27 (FrM.c (FrM.c FrM.rf hFc1 rfl) hFc27 rfl) (by have q0 := b0_7 hB; have q1 := b0_3 hBc27; have q2 := b0_4 hBc27; have q3 := b0_5 hBc27; omega) (by have q0 := b0_7 hB; have q1 := b0_4 hBc27; omega) (by have q0 := b0_7 hB; have q1 := (((hFc27.1 8 rfl).trans rfl) : Pc27 0 8 = (Pc1 0 8)); have q2 := b0_8 hBc1; omega) (by have q0 := b0_7 hB; have q1 := (((hFc27.1 8 rfl).trans rfl) : Pc27 0 8 = (Pc1 0 8)); have q2 := b0_8 hBc1; have q3 := (((hFc27.1 9 rfl).trans rfl) : Pc27 0 9 = (Pc1 0 9)); have q4 := b0_9 hBc1; omega) (by have q0 := b0_7 hB; omega) ((fun h0 => by first | exact (by first | (rw [show (fre T K p).2 = (tE T p) by omega]; exact ec27_0)) | (exfalso; omega))))
          · refine g_aload_n dX12_fresh_76 rfl ?_
            refine g_iconst dX12_fresh_77 ?_
            refine g_aload_n dX12_fresh_78 rfl ?_
            refine m_g4 (z := (P 0 4)) rfl dX12_fresh_79 ((hFc1.1 4 rfl).trans rfl) ?_
            have f29 := b0_4 hB
            refine g_vV (av := [vI 2, vI (P 0 4)]) (o := 0) (st := []) (f_X12_blame G Pc1 2 (P 0 4) (by decide) ⟨by have q0 := b0_4 hB; omega, by have q0 := b0_4 hB; omega⟩ hBc1  _ (fun Pc30 hBc30 hFc30 gc30_f gc30_pe gc30_b => ⟨rfl, ?_⟩)) cf_X12_blame t_1701 rfl (by decide) rfl rfl rfl (Nat.le_of_ble_eq_true rfl) (by decide) rfl dX12_fresh_82
            refine g_aload_n dX12_fresh_85 rfl ?_
            refine m_g7 (z := (P 0 7)) rfl dX12_fresh_86 ((hFc30.1 7 rfl).trans ((hFc1.1 7 rfl).trans rfl)) ?_
            refine g_lstore_n (l1 := [(1, vL (P 0 7)), (0, vR 0)]) dX12_fresh_89 (by decide) rfl ?_
            refine g_aload_n dX12_fresh_90 rfl ?_
            refine m_g8 (z := (Pc30 0 8)) rfl dX12_fresh_91 rfl ?_
            have f31 := b0_8 hBc30
            refine g_if_ne (tgt := 101) dX12_fresh_94 (by decide) ⟨by have q0 := b0_8 hBc30; omega, by have q0 := b0_8 hBc30; omega⟩ (fun k32 => ?_) (fun k32 => by exfalso; have q0 := b0_8 hBc30; omega)
            refine g_lload_n dX12_fresh_101 rfl ?_
            exact g_retL dX12_fresh_102 rfl (hQ (P 0 7) ⟨by have q0 := b0_7 hB; omega, by have q0 := b0_7 hB; omega⟩ _ hBc30 (FrM.c (FrM.c FrM.rf hFc1 rfl) hFc30 rfl) (by have q0 := b0_7 hB; have q1 := (((hFc30.1 3 rfl).trans ((hFc1.1 3 rfl).trans rfl)) : Pc30 0 3 = (P 0 3)); have q2 := b0_3 hB; have q3 := (((hFc30.1 4 rfl).trans ((hFc1.1 4 rfl).trans rfl)) : Pc30 0 4 = (P 0 4)); have q4 := b0_4 hB; have q5 := (((hFc30.1 5 rfl).trans ((hFc1.1 5 rfl).trans rfl)) : Pc30 0 5 = (P 0 5)); have q6 := b0_5 hB; omega) (by have q0 := b0_7 hB; have q1 := (((hFc30.1 4 rfl).trans ((hFc1.1 4 rfl).trans rfl)) : Pc30 0 4 = (P 0 4)); have q2 := b0_4 hB; omega) (by have q0 := b0_7 hB; have q1 := b0_8 hBc30; omega) (by have q0 := b0_7 hB; have q1 := b0_8 hBc30; have q2 := b0_9 hBc30; omega) (by have q0 := b0_7 hB; omega) ((fun h0 => by first | exact (by first | (rw [show (fre T K p).2 = p by omega]; exact (MS.fr (F := ([8, 9], [])) z1 (FrM.c (FrM.c FrM.rf hFc1 rfl) hFc30 rfl) rfl))) | (exfalso; omega))))
      · have hfx : (fre T K p).1 = 1 ∧ (fre T K p).2 = tA T p := by omega
        clear hfr
        refine g_aload_n dX12_fresh_32 rfl ?_
        refine g_iconst dX12_fresh_33 ?_
        refine g_aload_n dX12_fresh_34 rfl ?_
        refine m_g4 (z := (P 0 4)) rfl dX12_fresh_35 ((hFc1.1 4 rfl).trans rfl) ?_
        have f33 := b0_4 hB
        refine g_vV (av := [vI 1, vI (P 0 4)]) (o := 0) (st := []) (f_X12_blame G Pc1 1 (P 0 4) (by decide) ⟨by have q0 := b0_4 hB; omega, by have q0 := b0_4 hB; omega⟩ hBc1  _ (fun Pc34 hBc34 hFc34 gc34_f gc34_pe gc34_b => ⟨rfl, ?_⟩)) cf_X12_blame t_1701 rfl (by decide) rfl rfl rfl (Nat.le_of_ble_eq_true rfl) (by decide) rfl dX12_fresh_38
        refine g_aload_n dX12_fresh_41 rfl ?_
        refine m_g8 (z := (Pc34 0 8)) rfl dX12_fresh_42 rfl ?_
        have f35 := b0_8 hBc34
        refine g_if_ne (tgt := 85) dX12_fresh_45 (by decide) ⟨by have q0 := b0_8 hBc34; omega, by have q0 := b0_8 hBc34; omega⟩ (fun k36 => ?_) (fun k36 => by exfalso; have q0 := b0_8 hBc34; omega)
        refine g_aload_n dX12_fresh_85 rfl ?_
        refine m_g7 (z := (P 0 7)) rfl dX12_fresh_86 ((hFc34.1 7 rfl).trans ((hFc1.1 7 rfl).trans rfl)) ?_
        refine g_lstore_n (l1 := [(1, vL (P 0 7)), (0, vR 0)]) dX12_fresh_89 (by decide) rfl ?_
        refine g_aload_n dX12_fresh_90 rfl ?_
        refine m_g8 (z := (Pc34 0 8)) rfl dX12_fresh_91 rfl ?_
        refine g_if_ne (tgt := 101) dX12_fresh_94 (by decide) ⟨by have q0 := b0_8 hBc34; omega, by have q0 := b0_8 hBc34; omega⟩ (fun k37 => ?_) (fun k37 => by exfalso; have q0 := b0_8 hBc34; omega)
        refine g_lload_n dX12_fresh_101 rfl ?_
        exact g_retL dX12_fresh_102 rfl (hQ (P 0 7) ⟨by have q0 := b0_7 hB; omega, by have q0 := b0_7 hB; omega⟩ _ hBc34 (FrM.c (FrM.c FrM.rf hFc1 rfl) hFc34 rfl) (by have q0 := b0_7 hB; have q1 := (((hFc34.1 3 rfl).trans ((hFc1.1 3 rfl).trans rfl)) : Pc34 0 3 = (P 0 3)); have q2 := b0_3 hB; have q3 := (((hFc34.1 4 rfl).trans ((hFc1.1 4 rfl).trans rfl)) : Pc34 0 4 = (P 0 4)); have q4 := b0_4 hB; have q5 := (((hFc34.1 5 rfl).trans ((hFc1.1 5 rfl).trans rfl)) : Pc34 0 5 = (P 0 5)); have q6 := b0_5 hB; omega) (by have q0 := b0_7 hB; have q1 := (((hFc34.1 4 rfl).trans ((hFc1.1 4 rfl).trans rfl)) : Pc34 0 4 = (P 0 4)); have q2 := b0_4 hB; omega) (by have q0 := b0_7 hB; have q1 := b0_8 hBc34; omega) (by have q0 := b0_7 hB; have q1 := b0_8 hBc34; have q2 := b0_9 hBc34; omega) (by have q0 := b0_7 hB; omega) ((fun h0 => by first | exact (by first | (rw [show (fre T K p).2 = p by omega]; exact (MS.fr (F := ([8, 9], [])) z1 (FrM.c (FrM.c FrM.rf hFc1 rfl) hFc34 rfl) rfl))) | (exfalso; omega))))
  · have hx : tK T p = 4 ∧ Pc1 0 8 = 1 ∧ Pc1 0 9 = tS T p := by omega
    have hfr : (fre T K p).1 = 1 ∧ (fre T K p).2 = tS T p := by rw [fre_4 hx.1]; exact ⟨rfl, rfl⟩
    clear hlx
    refine g_lconst (z := 0) dX12_fresh_11 (by decide) ?_
    exact g_retL dX12_fresh_12 rfl (hQ 0 (by decide) _ hBc1 (FrM.c FrM.rf hFc1 rfl) (by have q0 := (((hFc1.1 3 rfl).trans rfl) : Pc1 0 3 = (P 0 3)); have q1 := b0_3 hB; have q2 := (((hFc1.1 4 rfl).trans rfl) : Pc1 0 4 = (P 0 4)); have q3 := b0_4 hB; have q4 := (((hFc1.1 5 rfl).trans rfl) : Pc1 0 5 = (P 0 5)); have q5 := b0_5 hB; omega) (by have q0 := (((hFc1.1 4 rfl).trans rfl) : Pc1 0 4 = (P 0 4)); have q1 := b0_4 hB; omega) (by have q0 := b0_8 hBc1; omega) (by have q0 := b0_8 hBc1; have q1 := b0_9 hBc1; omega) (by omega) ((fun h0 => by first | exact (by first | (rw [show (fre T K p).2 = p by omega]; exact (MS.fr (F := ([8, 9], [])) z1 (FrM.c FrM.rf hFc1 rfl) rfl))) | (exfalso; omega))))
