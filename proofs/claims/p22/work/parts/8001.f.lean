/-! What the reference answers: X12_fresh. -/
set_option maxRecDepth 100000 in
set_option maxHeartbeats 4000000 in
theorem f_X12_fresh (G : GT) (P : PH) (T : TT) (K : PH) (p : Int) (hB : BdM P) (p_lx : (P 0 3 = 0 ∨ P 0 4 + 1 ≤ P 0 5) ∧ P 0 4 ≤ P 0 5) (p_fk : P 0 8 ≤ 0) (p_aw : AW K) (v_FP : FP P) (z0 : MT T P) (z1 : MS T p P) (z2 : MK K P) (Q : Option PV → PH → Prop) (hQ : ∀ (r : Int) (_ : (-9223372036854775808) ≤ r ∧ r ≤ 9223372036854775807) (P1 : PH) (_ : BdM P1) (_ : FrM ([3, 4, 5, 6, 7, 8, 9, 12], []) P P1) (_ : (P1 0 3 = 0 ∨ P1 0 4 + 1 ≤ P1 0 5) ∧ P1 0 4 ≤ P1 0 5) (_ : P 0 4 ≤ P1 0 4) (_ : P 0 8 ≤ 0 ∨ 0 < P1 0 8) (_ : P1 0 8 = (fre T K p).1 ∧ ((fre T K p).1 = 0 ∨ P1 0 9 = (fre T K p).2)) (_ : (fre T K p).1 ≠ 0 ∨ (r = tW T p ∧ tK T p = 1)) (_ : FP P1) (_ : CP (fre T K p).1 (MS T (fre T K p).2) P1), Q (some (vL r)) P1) : Ct WSM G 3 iX12_fresh [vR 0] P Q := by
  refine Ct.of (by decide) (l0 := [(0, vR 0)]) rfl (Nat.le_of_ble_eq_true rfl) ?_
  have hat := z1.at.1
  refine g_aload_n dX12_fresh_0 rfl ?_
  refine g_vV (av := []) (o := 0) (st := []) (f_X12_lex G P (T) (p)  hB v_FP ((fun h0 => by first | exact z1 | (exfalso; (first | (clear p_lx; omega) | omega)))) _ (fun Pc1 hBc1 hFc1 gc1_pe gc1_l vc1_FP => ⟨rfl, ?_⟩)) cf_X12_lex t_1697 rfl (by decide) rfl rfl rfl (Nat.le_of_ble_eq_true rfl) (by decide) rfl dX12_fresh_1
  have hlx := gc1_l
  clear gc1_l
  refine g_aload_n dX12_fresh_4 rfl ?_
  refine m_g8 (z := (Pc1 0 8)) rfl dX12_fresh_5 rfl ?_
  have f2 := b0_8 hBc1
  refine g_if_le (tgt := 13) dX12_fresh_8 (by decide) ⟨by have q0 := b0_8 hBc1; (clear p_lx gc1_pe hlx; omega), by have q0 := b0_8 hBc1; (clear p_lx gc1_pe hlx; omega)⟩ (fun k3 => ?_) (fun k3 => ?_)
  · skip
    skip
    have hk4 : tK T (p) ≠ 4 := by (clear p_lx gc1_pe; omega)
    have hl8 : Pc1 0 8 = P 0 8 ∧ Pc1 0 9 = P 0 9 := by (clear p_lx; omega)
    clear hlx
    have htk := z1.tok hk4
    have hfr := fre_s T K p
    rw [fh_ok hk4] at hfr
    refine g_aload_n dX12_fresh_13 rfl ?_
    refine m_g3 (z := (P 0 3)) rfl dX12_fresh_14 ((hFc1.1 3 rfl).trans rfl) ?_
    refine g_iconst dX12_fresh_17 ?_
    have f4 := b0_3 hB
    refine g_icmp_ne (tgt := 32) dX12_fresh_18 (by decide) ⟨by have q0 := b0_3 hB; (clear p_lx gc1_pe k3 hk4 hfr; omega), by have q0 := b0_3 hB; (clear p_lx gc1_pe k3 hk4 hfr; omega)⟩ (by decide) (fun k5 => ?_) (fun k5 => ?_)
    · skip
      have r_gc1_pe := (gc1_pe.resolve_right (by (clear p_lx gc1_pe k3 hk4 hfr k5; omega)))
      have hfx : (fre T K p).1 = 1 ∧ (fre T K p).2 = tA T p := by (clear p_lx gc1_pe k3 hk4; omega)
      clear hfr
      refine g_aload_n dX12_fresh_32 rfl ?_
      refine g_iconst dX12_fresh_33 ?_
      refine g_aload_n dX12_fresh_34 rfl ?_
      refine m_g4 (z := (P 0 4)) rfl dX12_fresh_35 ((hFc1.1 4 rfl).trans rfl) ?_
      have f6 := b0_4 hB
      refine g_vV (av := [vI 1, vI (P 0 4)]) (o := 0) (st := []) (f_X12_blame G Pc1 1 (P 0 4) (by decide) ⟨by have q0 := b0_4 hB; (clear p_lx gc1_pe k3 hk4 k5; omega), by have q0 := b0_4 hB; (clear p_lx gc1_pe k3 hk4 k5; omega)⟩ hBc1 (by have q0 := b0_4 hB; (clear p_lx gc1_pe k3 hk4 k5; omega)) vc1_FP _ (fun Pc7 hBc7 hFc7 gc7_f gc7_pe gc7_b vc7_FP => ⟨rfl, ?_⟩)) cf_X12_blame t_1701 rfl (by decide) rfl rfl rfl (Nat.le_of_ble_eq_true rfl) (by decide) rfl dX12_fresh_38
      refine g_aload_n dX12_fresh_41 rfl ?_
      refine m_g8 (z := (Pc7 0 8)) rfl dX12_fresh_42 rfl ?_
      have f8 := b0_8 hBc7
      refine g_if_ne (tgt := 85) dX12_fresh_45 (by decide) ⟨by have q0 := b0_8 hBc7; (clear p_lx gc1_pe k3 hk4 k5 gc7_f gc7_pe gc7_b; omega), by have q0 := b0_8 hBc7; (clear p_lx gc1_pe k3 hk4 k5 gc7_f gc7_pe gc7_b; omega)⟩ (fun k9 => ?_) (fun k9 => by exfalso; have q0 := b0_8 hBc7; (clear p_lx gc1_pe k3 hk4 k5 gc7_f gc7_pe; omega))
      have r_gc7_b := (gc7_b.resolve_left (by (clear p_lx gc1_pe k3 hk4 k5 gc7_f gc7_pe gc7_b k9; omega)))
      skip
      have r_gc7_f := (gc7_f.resolve_right (by (clear p_lx gc1_pe k3 hk4 k5 gc7_f gc7_pe gc7_b k9; omega)))
      skip
      refine g_aload_n dX12_fresh_85 rfl ?_
      refine m_g7 (z := (P 0 7)) rfl dX12_fresh_86 ((hFc7.1 7 rfl).trans ((hFc1.1 7 rfl).trans rfl)) ?_
      refine g_lstore_n (l1 := [(1, vL (P 0 7)), (0, vR 0)]) dX12_fresh_89 (by decide) rfl ?_
      refine g_aload_n dX12_fresh_90 rfl ?_
      refine m_g8 (z := (Pc7 0 8)) rfl dX12_fresh_91 rfl ?_
      refine g_if_ne (tgt := 101) dX12_fresh_94 (by decide) ⟨by have q0 := b0_8 hBc7; (clear p_lx gc1_pe k3 hk4 k5 gc7_f gc7_pe gc7_b k9; omega), by have q0 := b0_8 hBc7; (clear p_lx gc1_pe k3 hk4 k5 gc7_f gc7_pe gc7_b k9; omega)⟩ (fun k10 => ?_) (fun k10 => by exfalso; have q0 := b0_8 hBc7; (clear p_lx gc1_pe k3 hk4 k5 gc7_f gc7_pe gc7_b k9; omega))
      skip
      skip
      skip
      skip
      refine g_lload_n dX12_fresh_101 rfl ?_
      exact g_retL dX12_fresh_102 rfl (hQ (P 0 7) ⟨by have q0 := b0_7 hB; (clear p_lx gc1_pe k3 hk4 k5 gc7_f gc7_pe gc7_b k9 k10; omega), by have q0 := b0_7 hB; (clear p_lx gc1_pe k3 hk4 k5 gc7_f gc7_pe gc7_b k9 k10; omega)⟩ _ hBc7 (FrM.c (FrM.c FrM.rf hFc1 rfl) hFc7 rfl) (by have q0 := b0_7 hB; have q1 := (((hFc7.1 3 rfl).trans ((hFc1.1 3 rfl).trans rfl)) : Pc7 0 3 = (P 0 3)); have q2 := b0_3 hB; have q3 := (((hFc7.1 4 rfl).trans ((hFc1.1 4 rfl).trans rfl)) : Pc7 0 4 = (P 0 4)); have q4 := b0_4 hB; have q5 := (((hFc7.1 5 rfl).trans ((hFc1.1 5 rfl).trans rfl)) : Pc7 0 5 = (P 0 5)); have q6 := b0_5 hB; (omega)) (by have q0 := b0_7 hB; have q1 := (((hFc7.1 4 rfl).trans ((hFc1.1 4 rfl).trans rfl)) : Pc7 0 4 = (P 0 4)); have q2 := b0_4 hB; (clear p_lx gc1_pe k3 hk4 k5 gc7_f gc7_pe gc7_b k9 k10; omega)) (by have q0 := b0_7 hB; have q1 := b0_8 hBc7; (clear p_lx gc1_pe k3 hk4 k5 gc7_f gc7_pe gc7_b k9 k10; omega)) (by have q0 := b0_7 hB; have q1 := b0_8 hBc7; have q2 := b0_9 hBc7; (clear p_lx gc1_pe k3 hk4 k5 gc7_f gc7_pe gc7_b k9 k10; omega)) (by have q0 := b0_7 hB; (clear p_lx gc1_pe k3 hk4 k5 gc7_f gc7_pe gc7_b k9 k10; omega)) vc7_FP ((fun h0 => by first | exact (by first | (rw [show (fre T K p).2 = p by (clear p_lx gc1_pe k3 hk4 k5 gc7_f gc7_pe gc7_b k9 k10; omega)]; exact (MS.fr (F := ([8, 9], [])) z1 (FrM.c (FrM.c FrM.rf hFc1 rfl) hFc7 rfl) rfl))) | (exfalso; (first | (clear p_lx gc1_pe k3 hk4 k5 gc7_f gc7_pe gc7_b k9 k10; omega) | (clear p_lx gc1_pe k3 hk4 k5 gc7_f gc7_pe gc7_b k9; omega) | (clear p_lx gc1_pe k3 hk4 k5 gc7_f gc7_pe gc7_b k10; omega) | (clear p_lx gc1_pe k3 hk4 k5 gc7_f gc7_pe k9 k10; omega) | (clear p_lx gc1_pe k3 hk4 k5 gc7_f gc7_b k9 k10; omega) | (clear p_lx gc1_pe k3 hk4 k5 gc7_pe gc7_b k9 k10; omega) | (clear p_lx gc1_pe k3 hk4 gc7_f gc7_pe gc7_b k9 k10; omega) | (clear p_lx gc1_pe k3 k5 gc7_f gc7_pe gc7_b k9 k10; omega) | (clear p_lx gc1_pe hk4 k5 gc7_f gc7_pe gc7_b k9 k10; omega) | (clear p_lx gc1_pe k3 hk4 k5 gc7_f gc7_pe gc7_b; omega) | (clear gc7_f k5 hk4 k3 gc1_pe p_lx; omega) | omega)))))
    · skip
      have r_gc1_pe := (gc1_pe.resolve_right (by (clear p_lx gc1_pe k3 hk4 hfr k5; omega)))
      have hwd := z1.word (by (clear p_lx gc1_pe k3 hk4 hfr; omega))
      refine g_aload_n dX12_fresh_21 rfl ?_
      refine g_aload_n dX12_fresh_22 rfl ?_
      refine m_g7 (z := (P 0 7)) rfl dX12_fresh_23 ((hFc1.1 7 rfl).trans rfl) ?_
      have f11 := b0_7 hB
      refine g_vI (av := [vL (P 0 7)]) (o := 0) (st := []) (f_X12_isOwn G Pc1 (P 0 7) ⟨by have q0 := b0_7 hB; (clear p_lx gc1_pe k3 hk4 hfr k5; omega), by have q0 := b0_7 hB; (clear p_lx gc1_pe k3 hk4 hfr k5; omega)⟩ hBc1  _ (fun rc12 hc12 gc12_o => ⟨rc12, rfl, ?_⟩)) cf_X12_isOwn t_1722 rfl (by decide) rfl rfl rfl (Nat.le_of_ble_eq_true rfl) (by decide) rfl dX12_fresh_26
      have hown := own_r (T := T) (p := p) gc12_o (fun h1 => by have q := (((hFc1.1 7 rfl).trans rfl) : Pc1 0 7 = (P 0 7)); (clear p_lx gc1_pe k3 hk4 hfr k5 gc12_o; omega)) (by (clear p_lx gc1_pe k3 hk4 hfr gc12_o; omega))
      clear gc12_o
      refine g_if_eq (tgt := 41) dX12_fresh_29 (by decide) ⟨by (clear p_lx gc1_pe k3 hk4 hfr k5 hown; omega), by (clear p_lx gc1_pe k3 hk4 hfr k5 hown; omega)⟩ (fun k13 => ?_) (fun k13 => ?_)
      · skip
        skip
        skip
        refine g_aload_n dX12_fresh_41 rfl ?_
        refine m_g8 (z := (Pc1 0 8)) rfl dX12_fresh_42 rfl ?_
        refine g_if_ne (tgt := 85) dX12_fresh_45 (by decide) ⟨by have q0 := b0_8 hBc1; (clear p_lx gc1_pe k3 hk4 hfr k5 hown k13; omega), by have q0 := b0_8 hBc1; (clear p_lx gc1_pe k3 hk4 hfr k5 hown k13; omega)⟩ (fun k14 => by exfalso; have q0 := b0_8 hBc1; (clear p_lx gc1_pe k3 hk4 hfr k5 hown k13; omega)) (fun k14 => ?_)
        skip
        skip
        skip
        refine g_aload_n dX12_fresh_48 rfl ?_
        refine g_aload_n dX12_fresh_49 rfl ?_
        refine m_g7 (z := (P 0 7)) rfl dX12_fresh_50 ((hFc1.1 7 rfl).trans rfl) ?_
        have hk1 : tK T p = 1 ∧ tO T p = -1 := by (clear hfr hk4 k3 gc1_pe p_lx; omega)
        refine g_vI (av := [vL (P 0 7)]) (o := 0) (st := []) (f_X12_kindNamed G Pc1 (P 0 7) ⟨by have q0 := b0_7 hB; (clear p_lx gc1_pe k3 hk4 hfr k5 hown k13 k14; omega), by have q0 := b0_7 hB; (clear p_lx gc1_pe k3 hk4 hfr k5 hown k13 k14; omega)⟩ hBc1  _ (fun rc15 hc15 gc15_k gc15_fx => ⟨rc15, rfl, ?_⟩)) cf_X12_kindNamed t_1736 rfl (by decide) rfl rfl rfl (Nat.le_of_ble_eq_true rfl) (by decide) rfl dX12_fresh_53
        have z16 : Pc1 0 37 = (P 0 37) := ((hFc1.1 37 rfl).trans rfl)
        have hkn : rc15 = kNm K (tV T p) := by
          have q := gc15_fx
          rw [hwd, ((MK.fr (F := ([8, 9], [])) z2 (FrM.c FrM.rf hFc1 rfl) rfl)).kn p_aw (NW.tok (T := T) (p := p) (by (clear p_lx gc1_pe k3 hk4 hfr k5 hown k13 k14; omega)))] at q
          exact q
        refine g_iconst dX12_fresh_56 ?_
        refine g_icmp_ne (tgt := 76) dX12_fresh_57 (by decide) ⟨by (clear p_lx gc1_pe k3 hk4 hfr k5 hown k13 k14; omega), by (clear p_lx gc1_pe k3 hk4 hfr k5 hown k13 k14; omega)⟩ (by decide) (fun k17 => ?_) (fun k17 => ?_)
        · have k17n : 0 ≤ rc15 := by (clear p_lx gc1_pe k3 hk4 hfr k5 hown k13 k14; omega)
          clear k17
          have r_hown := (hown.resolve_left (by (clear p_lx gc1_pe k3 hk4 hfr k5 hown k13 k14; omega)))
          have r_hfr := ((hfr.resolve_left (by (clear p_lx gc1_pe k3 hk4 hfr k5 hown k13 k14; omega))).resolve_right (by (clear p_lx gc1_pe k3 hk4 hfr k5 hown k13 k14; omega)))
          skip
          refine g_aload_n dX12_fresh_76 rfl ?_
          refine g_iconst dX12_fresh_77 ?_
          refine g_aload_n dX12_fresh_78 rfl ?_
          refine m_g4 (z := (P 0 4)) rfl dX12_fresh_79 ((hFc1.1 4 rfl).trans rfl) ?_
          have f18 := b0_4 hB
          refine g_vV (av := [vI 2, vI (P 0 4)]) (o := 0) (st := []) (f_X12_blame G Pc1 2 (P 0 4) (by decide) ⟨by have q0 := b0_4 hB; (clear p_lx gc1_pe k3 hk4 hfr k5 hown k13 k14; omega), by have q0 := b0_4 hB; (clear p_lx gc1_pe k3 hk4 hfr k5 hown k13 k14; omega)⟩ hBc1 (by have q0 := b0_4 hB; (clear p_lx gc1_pe k3 hk4 hfr k5 hown k13 k14; omega)) vc1_FP _ (fun Pc19 hBc19 hFc19 gc19_f gc19_pe gc19_b vc19_FP => ⟨rfl, ?_⟩)) cf_X12_blame t_1701 rfl (by decide) rfl rfl rfl (Nat.le_of_ble_eq_true rfl) (by decide) rfl dX12_fresh_82
          refine g_aload_n dX12_fresh_85 rfl ?_
          refine m_g7 (z := (P 0 7)) rfl dX12_fresh_86 ((hFc19.1 7 rfl).trans ((hFc1.1 7 rfl).trans rfl)) ?_
          refine g_lstore_n (l1 := [(1, vL (P 0 7)), (0, vR 0)]) dX12_fresh_89 (by decide) rfl ?_
          refine g_aload_n dX12_fresh_90 rfl ?_
          refine m_g8 (z := (Pc19 0 8)) rfl dX12_fresh_91 rfl ?_
          have f20 := b0_8 hBc19
          refine g_if_ne (tgt := 101) dX12_fresh_94 (by decide) ⟨by have q0 := b0_8 hBc19; (clear p_lx gc1_pe k3 hk4 hfr k5 hown k13 k14 gc19_f gc19_pe gc19_b; omega), by have q0 := b0_8 hBc19; (clear p_lx gc1_pe k3 hk4 hfr k5 hown k13 k14 gc19_f gc19_pe gc19_b; omega)⟩ (fun k21 => ?_) (fun k21 => by exfalso; have q0 := b0_8 hBc19; (clear p_lx gc1_pe k3 hk4 hfr k5 hown k13 k14 gc19_f gc19_pe; omega))
          have r_gc19_b := (gc19_b.resolve_left (by (clear p_lx gc1_pe k3 hk4 hfr k5 hown k13 k14 gc19_f gc19_pe gc19_b k21; omega)))
          skip
          have r_gc19_f := (gc19_f.resolve_right (by (clear p_lx gc1_pe k3 hk4 hfr k5 hown k13 k14 gc19_f gc19_pe gc19_b k21; omega)))
          skip
          skip
          skip
          refine g_lload_n dX12_fresh_101 rfl ?_
          exact g_retL dX12_fresh_102 rfl (hQ (P 0 7) ⟨by have q0 := b0_7 hB; (clear p_lx gc1_pe k3 hk4 hfr k5 hown k13 k14 gc19_f gc19_pe gc19_b k21; omega), by have q0 := b0_7 hB; (clear p_lx gc1_pe k3 hk4 hfr k5 hown k13 k14 gc19_f gc19_pe gc19_b k21; omega)⟩ _ hBc19 (FrM.c (FrM.c FrM.rf hFc1 rfl) hFc19 rfl) (by have q0 := b0_7 hB; have q1 := (((hFc19.1 3 rfl).trans ((hFc1.1 3 rfl).trans rfl)) : Pc19 0 3 = (P 0 3)); have q2 := b0_3 hB; have q3 := (((hFc19.1 4 rfl).trans ((hFc1.1 4 rfl).trans rfl)) : Pc19 0 4 = (P 0 4)); have q4 := b0_4 hB; have q5 := (((hFc19.1 5 rfl).trans ((hFc1.1 5 rfl).trans rfl)) : Pc19 0 5 = (P 0 5)); have q6 := b0_5 hB; (omega)) (by have q0 := b0_7 hB; have q1 := (((hFc19.1 4 rfl).trans ((hFc1.1 4 rfl).trans rfl)) : Pc19 0 4 = (P 0 4)); have q2 := b0_4 hB; (clear p_lx gc1_pe k3 hk4 hfr k5 hown k13 k14 gc19_f gc19_pe gc19_b k21; omega)) (by have q0 := b0_7 hB; have q1 := b0_8 hBc19; (clear p_lx gc1_pe k3 hk4 hfr k5 hown k13 k14 gc19_f gc19_pe gc19_b k21; omega)) (by have q0 := b0_7 hB; have q1 := b0_8 hBc19; have q2 := b0_9 hBc19; (clear p_lx gc1_pe k3 hk4 hfr k5 hown k13 k14 gc19_f gc19_pe gc19_b k21; omega)) (by have q0 := b0_7 hB; (clear p_lx gc1_pe k3 hk4 hfr k5 hown k13 k14 gc19_f gc19_pe gc19_b k21; omega)) vc19_FP ((fun h0 => by first | exact (by first | (rw [show (fre T K p).2 = p by (clear p_lx gc1_pe k3 hk4 hfr k5 hown k13 k14 gc19_f gc19_pe gc19_b k21; omega)]; exact (MS.fr (F := ([8, 9], [])) z1 (FrM.c (FrM.c FrM.rf hFc1 rfl) hFc19 rfl) rfl))) | (exfalso; (first | (clear p_lx gc1_pe k3 hk4 hfr k5 hown k13 k14 gc19_f gc19_pe gc19_b k21; omega) | (clear p_lx gc1_pe k3 hk4 hfr k5 hown k13 k14 gc19_f gc19_pe gc19_b; omega) | (clear p_lx gc1_pe k3 hk4 hfr k5 hown k13 k14 gc19_f gc19_pe k21; omega) | (clear p_lx gc1_pe k3 hk4 hfr k5 hown k13 k14 gc19_f gc19_b k21; omega) | (clear p_lx gc1_pe k3 hk4 hfr k5 hown k13 k14 gc19_pe gc19_b k21; omega) | (clear p_lx gc1_pe k3 hk4 hfr k5 hown k13 gc19_f gc19_pe gc19_b k21; omega) | (clear p_lx gc1_pe k3 hk4 hfr k5 hown k14 gc19_f gc19_pe gc19_b k21; omega) | (clear p_lx gc1_pe k3 hk4 hfr k5 k13 k14 gc19_f gc19_pe gc19_b k21; omega) | (clear p_lx gc1_pe k3 hk4 hfr hown k13 k14 gc19_f gc19_pe gc19_b k21; omega) | (clear p_lx gc1_pe k3 hk4 hfr k5 hown k13 k14 gc19_f gc19_pe; omega) | (clear k14 k13 hown k5 hfr hk4 k3 gc1_pe p_lx; omega) | omega)))))
        · have r_hown := (hown.resolve_left (by (clear p_lx gc1_pe k3 hk4 hfr k5 hown k13 k14 k17; omega)))
          skip
          skip
          refine g_aload_n dX12_fresh_60 rfl ?_
          refine g_aload_n dX12_fresh_61 rfl ?_
          refine m_g37 (z := (P 0 37)) rfl dX12_fresh_62 ((hFc1.1 37 rfl).trans rfl) ?_
          refine g_aload_n dX12_fresh_65 rfl ?_
          refine m_g7 (z := (P 0 7)) rfl dX12_fresh_66 ((hFc1.1 7 rfl).trans rfl) ?_
          have f22 := b0_37 hB
          refine g_vI (av := [vI (P 0 37), vL (P 0 7)]) (o := 0) (st := []) (f_X12_conNamed G Pc1 (P 0 37) (P 0 7) ⟨by have q0 := b0_37 hB; (clear p_lx gc1_pe k3 hk4 hfr k5 hown k13 k14 k17; omega), by have q0 := b0_37 hB; (clear p_lx gc1_pe k3 hk4 hfr k5 hown k13 k14 k17; omega)⟩ ⟨by have q0 := b0_7 hB; (clear p_lx gc1_pe k3 hk4 hfr k5 hown k13 k14 k17; omega), by have q0 := b0_7 hB; (clear p_lx gc1_pe k3 hk4 hfr k5 hown k13 k14 k17; omega)⟩ hBc1  _ (fun rc23 hc23 gc23_k gc23_fx => ⟨rc23, rfl, ?_⟩)) cf_X12_conNamed t_1740 rfl (by decide) rfl rfl rfl (Nat.le_of_ble_eq_true rfl) (by decide) rfl dX12_fresh_69
          have z24 : Pc1 5 (P 0 37) = (P 5 (P 0 37)) := ((congrFun (hFc1.2 5 rfl rfl) _).trans rfl)
          have hcn : rc23 = cNm K (tV T p) := by
            have q := gc23_fx
            rw [hwd, ← show Pc1 0 37 = P 0 37 from ((hFc1.1 37 rfl).trans rfl), ((MK.fr (F := ([8, 9], [])) z2 (FrM.c FrM.rf hFc1 rfl) rfl)).cn p_aw (NW.tok (T := T) (p := p) (by (clear p_lx gc1_pe k3 hk4 hfr k5 hown k13 k14 k17 gc23_k; omega)))] at q
            exact q
          refine g_iconst dX12_fresh_72 ?_
          refine g_icmp_eq (tgt := 85) dX12_fresh_73 (by decide) ⟨by (clear p_lx gc1_pe k3 hk4 hfr k5 hown k13 k14 k17 gc23_k; omega), by (clear p_lx gc1_pe k3 hk4 hfr k5 hown k13 k14 k17 gc23_k; omega)⟩ (by decide) (fun k25 => ?_) (fun k25 => ?_)
          · skip
            skip
            skip
            skip
            refine g_aload_n dX12_fresh_85 rfl ?_
            refine m_g7 (z := (P 0 7)) rfl dX12_fresh_86 ((hFc1.1 7 rfl).trans rfl) ?_
            refine g_lstore_n (l1 := [(1, vL (P 0 7)), (0, vR 0)]) dX12_fresh_89 (by decide) rfl ?_
            refine g_aload_n dX12_fresh_90 rfl ?_
            refine m_g8 (z := (Pc1 0 8)) rfl dX12_fresh_91 rfl ?_
            refine g_if_ne (tgt := 101) dX12_fresh_94 (by decide) ⟨by have q0 := b0_8 hBc1; (clear p_lx gc1_pe k3 hk4 hfr k5 hown k13 k14 k17 gc23_k k25; omega), by have q0 := b0_8 hBc1; (clear p_lx gc1_pe k3 hk4 hfr k5 hown k13 k14 k17 gc23_k k25; omega)⟩ (fun k26 => by exfalso; have q0 := b0_8 hBc1; (clear p_lx gc1_pe k3 hk4 hfr k5 hown k13 k14 k17 gc23_k k25; omega)) (fun k26 => ?_)
            skip
            skip
            skip
            skip
            refine g_aload_n dX12_fresh_97 rfl ?_
            refine g_vV (av := []) (o := 0) (st := []) (f_X12_ahead G Pc1 (T) (tE T p)  hBc1 (by have q := (((hFc1.1 5 rfl).trans rfl) : Pc1 0 5 = (P 0 5)); have q2 := z1.tok (by (clear p_lx gc1_pe k3 hk4 hfr k5 hown k13 k14 k17 gc23_k k25; omega)); have q3 := tE_b (T := T) (p := p) (by (clear p_lx gc1_pe k3 hk4 hfr k5 hown k13 k14 k17 gc23_k k25; omega)); have q4 := z1.at; (clear p_lx gc1_pe k3 hk4 hfr k5 hown k13 k14 k17 gc23_k k25; omega)) ((MT.fr (F := ([8, 9], [])) z0 (FrM.c FrM.rf hFc1 rfl) rfl)) _ (fun Pc27 hBc27 hFc27 gc27_lx gc27_nx ec27_0 => ⟨rfl, ?_⟩)) cf_X12_ahead t_1683 rfl (by decide) rfl rfl rfl (Nat.le_of_ble_eq_true rfl) (by decide) rfl dX12_fresh_98
            have z28 : Pc1 0 5 = (P 0 5) := ((hFc1.1 5 rfl).trans rfl)
            refine g_lload_n dX12_fresh_101 rfl ?_
            exact g_retL dX12_fresh_102 rfl (hQ (P 0 7) ⟨by have q0 := b0_7 hB; (clear p_lx gc1_pe k3 hk4 hfr k5 hown k13 k14 k17 gc23_k k25 gc27_lx; omega), by have q0 := b0_7 hB; (clear p_lx gc1_pe k3 hk4 hfr k5 hown k13 k14 k17 gc23_k k25 gc27_lx; omega)⟩ _ hBc27 (FrM.c (FrM.c FrM.rf hFc1 rfl) hFc27 rfl) (by have q0 := b0_7 hB; have q1 := b0_3 hBc27; have q2 := b0_4 hBc27; have q3 := b0_5 hBc27; (clear p_lx gc1_pe k3 hk4 hfr k5 hown k13 k14 k17 gc23_k k25; omega)) (by have q0 := b0_7 hB; have q1 := b0_4 hBc27; (omega)) (by have q0 := b0_7 hB; have q1 := (((hFc27.1 8 rfl).trans rfl) : Pc27 0 8 = (Pc1 0 8)); have q2 := b0_8 hBc1; (clear p_lx gc1_pe k3 hk4 hfr k5 hown k13 k14 k17 gc23_k k25 gc27_lx; omega)) (by have q0 := b0_7 hB; have q1 := (((hFc27.1 8 rfl).trans rfl) : Pc27 0 8 = (Pc1 0 8)); have q2 := b0_8 hBc1; have q3 := (((hFc27.1 9 rfl).trans rfl) : Pc27 0 9 = (Pc1 0 9)); have q4 := b0_9 hBc1; (omega)) (by have q0 := b0_7 hB; (clear p_lx gc1_pe k3 hk4 hfr k5 hown k13 k14 k17 gc23_k k25 gc27_lx; omega)) (FP.fr (F := ([3, 4, 5, 6, 7, 12], [])) vc1_FP (FrM.c FrM.rf hFc27 rfl) rfl) ((fun h0 => by first | exact (by first | (rw [show (fre T K p).2 = (tE T p) by (omega)]; exact ec27_0)) | (exfalso; (first | (clear p_lx gc1_pe k3 hk4 hfr k5 hown k13 k14 k17 gc23_k k25 gc27_lx; omega) | (clear p_lx gc1_pe k3 hk4 hfr k5 hown k13 k14 k17 gc23_k k25; omega) | (clear p_lx gc1_pe k3 hk4 hfr k5 hown k13 k14 k17 gc23_k gc27_lx; omega) | (clear p_lx gc1_pe k3 hk4 hfr k5 hown k13 k14 k17 k25 gc27_lx; omega) | (clear p_lx gc1_pe k3 hk4 hfr k5 hown k13 k14 gc23_k k25 gc27_lx; omega) | (clear p_lx gc1_pe k3 hk4 hfr k5 hown k13 k17 gc23_k k25 gc27_lx; omega) | (clear p_lx gc1_pe k3 hk4 hfr k5 hown k14 k17 gc23_k k25 gc27_lx; omega) | (clear p_lx gc1_pe k3 hk4 hfr k5 k13 k14 k17 gc23_k k25 gc27_lx; omega) | (clear p_lx gc1_pe k3 hk4 hfr hown k13 k14 k17 gc23_k k25 gc27_lx; omega) | (clear p_lx gc1_pe k3 hk4 hfr k5 hown k13 k14 k17 gc23_k; omega) | (clear k14 k13 hown k5 hfr hk4 k3 gc1_pe p_lx; omega) | omega)))))
          · have k25n : 0 ≤ rc23 := by (clear p_lx gc1_pe k3 hk4 hfr k5 hown k13 k14 k17 gc23_k; omega)
            clear k25
            have r_gc23_k := (gc23_k.resolve_right (by (clear p_lx gc1_pe k3 hk4 hfr k5 hown k13 k14 k17 gc23_k; omega)))
            skip
            have r_hfr := ((hfr.resolve_left (by (clear p_lx gc1_pe k3 hk4 hfr k5 hown k13 k14 k17 gc23_k; omega))).resolve_right (by (clear p_lx gc1_pe k3 hk4 hfr k5 hown k13 k14 k17 gc23_k; omega)))
            skip
            refine g_aload_n dX12_fresh_76 rfl ?_
            refine g_iconst dX12_fresh_77 ?_
            refine g_aload_n dX12_fresh_78 rfl ?_
            refine m_g4 (z := (P 0 4)) rfl dX12_fresh_79 ((hFc1.1 4 rfl).trans rfl) ?_
            have f29 := b0_4 hB
            refine g_vV (av := [vI 2, vI (P 0 4)]) (o := 0) (st := []) (f_X12_blame G Pc1 2 (P 0 4) (by decide) ⟨by have q0 := b0_4 hB; (clear p_lx gc1_pe k3 hk4 hfr k5 hown k13 k14 k17 gc23_k; omega), by have q0 := b0_4 hB; (clear p_lx gc1_pe k3 hk4 hfr k5 hown k13 k14 k17 gc23_k; omega)⟩ hBc1 (by have q0 := b0_4 hB; (clear p_lx gc1_pe k3 hk4 hfr k5 hown k13 k14 k17 gc23_k; omega)) vc1_FP _ (fun Pc30 hBc30 hFc30 gc30_f gc30_pe gc30_b vc30_FP => ⟨rfl, ?_⟩)) cf_X12_blame t_1701 rfl (by decide) rfl rfl rfl (Nat.le_of_ble_eq_true rfl) (by decide) rfl dX12_fresh_82
            refine g_aload_n dX12_fresh_85 rfl ?_
            refine m_g7 (z := (P 0 7)) rfl dX12_fresh_86 ((hFc30.1 7 rfl).trans ((hFc1.1 7 rfl).trans rfl)) ?_
            refine g_lstore_n (l1 := [(1, vL (P 0 7)), (0, vR 0)]) dX12_fresh_89 (by decide) rfl ?_
            refine g_aload_n dX12_fresh_90 rfl ?_
            refine m_g8 (z := (Pc30 0 8)) rfl dX12_fresh_91 rfl ?_
            have f31 := b0_8 hBc30
            refine g_if_ne (tgt := 101) dX12_fresh_94 (by decide) ⟨by have q0 := b0_8 hBc30; (clear p_lx gc1_pe k3 hk4 hfr k5 hown k13 k14 k17 gc23_k gc30_f gc30_pe gc30_b; omega), by have q0 := b0_8 hBc30; (clear p_lx gc1_pe k3 hk4 hfr k5 hown k13 k14 k17 gc23_k gc30_f gc30_pe gc30_b; omega)⟩ (fun k32 => ?_) (fun k32 => by exfalso; have q0 := b0_8 hBc30; (clear p_lx gc1_pe k3 hk4 hfr k5 hown k13 k14 k17 gc23_k gc30_f gc30_pe; omega))
            have r_gc30_b := (gc30_b.resolve_left (by (clear p_lx gc1_pe k3 hk4 hfr k5 hown k13 k14 k17 gc23_k gc30_f gc30_pe gc30_b k32; omega)))
            skip
            have r_gc30_f := (gc30_f.resolve_right (by (clear p_lx gc1_pe k3 hk4 hfr k5 hown k13 k14 k17 gc23_k gc30_f gc30_pe gc30_b k32; omega)))
            skip
            skip
            skip
            skip
            refine g_lload_n dX12_fresh_101 rfl ?_
            exact g_retL dX12_fresh_102 rfl (hQ (P 0 7) ⟨by have q0 := b0_7 hB; (clear p_lx gc1_pe k3 hk4 hfr k5 hown k13 k14 k17 gc23_k gc30_f gc30_pe gc30_b k32; omega), by have q0 := b0_7 hB; (clear p_lx gc1_pe k3 hk4 hfr k5 hown k13 k14 k17 gc23_k gc30_f gc30_pe gc30_b k32; omega)⟩ _ hBc30 (FrM.c (FrM.c FrM.rf hFc1 rfl) hFc30 rfl) (by have q0 := b0_7 hB; have q1 := (((hFc30.1 3 rfl).trans ((hFc1.1 3 rfl).trans rfl)) : Pc30 0 3 = (P 0 3)); have q2 := b0_3 hB; have q3 := (((hFc30.1 4 rfl).trans ((hFc1.1 4 rfl).trans rfl)) : Pc30 0 4 = (P 0 4)); have q4 := b0_4 hB; have q5 := (((hFc30.1 5 rfl).trans ((hFc1.1 5 rfl).trans rfl)) : Pc30 0 5 = (P 0 5)); have q6 := b0_5 hB; (omega)) (by have q0 := b0_7 hB; have q1 := (((hFc30.1 4 rfl).trans ((hFc1.1 4 rfl).trans rfl)) : Pc30 0 4 = (P 0 4)); have q2 := b0_4 hB; (clear p_lx gc1_pe k3 hk4 hfr k5 hown k13 k14 k17 gc23_k gc30_f gc30_pe gc30_b k32; omega)) (by have q0 := b0_7 hB; have q1 := b0_8 hBc30; (clear p_lx gc1_pe k3 hk4 hfr k5 hown k13 k14 k17 gc23_k gc30_f gc30_pe gc30_b k32; omega)) (by have q0 := b0_7 hB; have q1 := b0_8 hBc30; have q2 := b0_9 hBc30; (clear p_lx gc1_pe k3 hk4 hfr k5 hown k13 k14 k17 gc23_k gc30_f gc30_pe gc30_b k32; omega)) (by have q0 := b0_7 hB; (clear p_lx gc1_pe k3 hk4 hfr k5 hown k13 k14 k17 gc23_k gc30_f gc30_pe gc30_b k32; omega)) vc30_FP ((fun h0 => by first | exact (by first | (rw [show (fre T K p).2 = p by (clear p_lx gc1_pe k3 hk4 hfr k5 hown k13 k14 k17 gc23_k gc30_f gc30_pe gc30_b k32; omega)]; exact (MS.fr (F := ([8, 9], [])) z1 (FrM.c (FrM.c FrM.rf hFc1 rfl) hFc30 rfl) rfl))) | (exfalso; (first | (clear p_lx gc1_pe k3 hk4 hfr k5 hown k13 k14 k17 gc23_k gc30_f gc30_pe gc30_b k32; omega) | (clear p_lx gc1_pe k3 hk4 hfr k5 hown k13 k14 k17 gc23_k gc30_f gc30_pe gc30_b; omega) | (clear p_lx gc1_pe k3 hk4 hfr k5 hown k13 k14 k17 gc23_k gc30_f gc30_pe k32; omega) | (clear p_lx gc1_pe k3 hk4 hfr k5 hown k13 k14 k17 gc23_k gc30_f gc30_b k32; omega) | (clear p_lx gc1_pe k3 hk4 hfr k5 hown k13 k14 k17 gc23_k gc30_pe gc30_b k32; omega) | (clear p_lx gc1_pe k3 hk4 hfr k5 hown k13 k14 k17 gc30_f gc30_pe gc30_b k32; omega) | (clear p_lx gc1_pe k3 hk4 hfr k5 hown k13 k14 gc23_k gc30_f gc30_pe gc30_b k32; omega) | (clear p_lx gc1_pe k3 hk4 hfr k5 hown k13 k17 gc23_k gc30_f gc30_pe gc30_b k32; omega) | (clear p_lx gc1_pe k3 hk4 hfr k5 hown k14 k17 gc23_k gc30_f gc30_pe gc30_b k32; omega) | (clear p_lx gc1_pe k3 hk4 hfr k5 hown k13 k14 k17 gc23_k gc30_f gc30_pe; omega) | (clear gc23_k k17 k14 k13 hown k5 hfr hk4 k3 gc1_pe p_lx; omega) | omega)))))
      · have k13n : 1 ≤ rc12 := by (clear p_lx gc1_pe k3 hk4 hfr k5 hown; omega)
        clear k13
        have r_hown := (hown.resolve_right (by (clear p_lx gc1_pe k3 hk4 hfr k5 hown; omega)))
        have r_hfr := ((hfr.resolve_left (by (clear p_lx gc1_pe k3 hk4 hfr k5 hown; omega))).resolve_left (by (clear p_lx gc1_pe k3 hk4 hfr k5 hown; omega)))
        skip
        have hfx : (fre T K p).1 = 1 ∧ (fre T K p).2 = tA T p := by (clear p_lx gc1_pe k3 hk4 hfr k5 hown; omega)
        clear hfr
        refine g_aload_n dX12_fresh_32 rfl ?_
        refine g_iconst dX12_fresh_33 ?_
        refine g_aload_n dX12_fresh_34 rfl ?_
        refine m_g4 (z := (P 0 4)) rfl dX12_fresh_35 ((hFc1.1 4 rfl).trans rfl) ?_
        have f33 := b0_4 hB
        refine g_vV (av := [vI 1, vI (P 0 4)]) (o := 0) (st := []) (f_X12_blame G Pc1 1 (P 0 4) (by decide) ⟨by have q0 := b0_4 hB; (clear p_lx gc1_pe k3 hk4 k5 hown; omega), by have q0 := b0_4 hB; (clear p_lx gc1_pe k3 hk4 k5 hown; omega)⟩ hBc1 (by have q0 := b0_4 hB; (clear p_lx gc1_pe k3 hk4 k5 hown; omega)) vc1_FP _ (fun Pc34 hBc34 hFc34 gc34_f gc34_pe gc34_b vc34_FP => ⟨rfl, ?_⟩)) cf_X12_blame t_1701 rfl (by decide) rfl rfl rfl (Nat.le_of_ble_eq_true rfl) (by decide) rfl dX12_fresh_38
        refine g_aload_n dX12_fresh_41 rfl ?_
        refine m_g8 (z := (Pc34 0 8)) rfl dX12_fresh_42 rfl ?_
        have f35 := b0_8 hBc34
        refine g_if_ne (tgt := 85) dX12_fresh_45 (by decide) ⟨by have q0 := b0_8 hBc34; (clear p_lx gc1_pe k3 hk4 k5 hown gc34_f gc34_pe gc34_b; omega), by have q0 := b0_8 hBc34; (clear p_lx gc1_pe k3 hk4 k5 hown gc34_f gc34_pe gc34_b; omega)⟩ (fun k36 => ?_) (fun k36 => by exfalso; have q0 := b0_8 hBc34; (clear p_lx gc1_pe k3 hk4 k5 hown gc34_f gc34_pe; omega))
        have r_gc34_b := (gc34_b.resolve_left (by (clear p_lx gc1_pe k3 hk4 k5 hown gc34_f gc34_pe gc34_b k36; omega)))
        skip
        have r_gc34_f := (gc34_f.resolve_right (by (clear p_lx gc1_pe k3 hk4 k5 hown gc34_f gc34_pe gc34_b k36; omega)))
        skip
        skip
        refine g_aload_n dX12_fresh_85 rfl ?_
        refine m_g7 (z := (P 0 7)) rfl dX12_fresh_86 ((hFc34.1 7 rfl).trans ((hFc1.1 7 rfl).trans rfl)) ?_
        refine g_lstore_n (l1 := [(1, vL (P 0 7)), (0, vR 0)]) dX12_fresh_89 (by decide) rfl ?_
        refine g_aload_n dX12_fresh_90 rfl ?_
        refine m_g8 (z := (Pc34 0 8)) rfl dX12_fresh_91 rfl ?_
        refine g_if_ne (tgt := 101) dX12_fresh_94 (by decide) ⟨by have q0 := b0_8 hBc34; (clear p_lx gc1_pe k3 hk4 k5 hown gc34_f gc34_pe gc34_b k36; omega), by have q0 := b0_8 hBc34; (clear p_lx gc1_pe k3 hk4 k5 hown gc34_f gc34_pe gc34_b k36; omega)⟩ (fun k37 => ?_) (fun k37 => by exfalso; have q0 := b0_8 hBc34; (clear p_lx gc1_pe k3 hk4 k5 hown gc34_f gc34_pe gc34_b k36; omega))
        skip
        skip
        skip
        skip
        skip
        refine g_lload_n dX12_fresh_101 rfl ?_
        exact g_retL dX12_fresh_102 rfl (hQ (P 0 7) ⟨by have q0 := b0_7 hB; (clear p_lx gc1_pe k3 hk4 k5 hown gc34_f gc34_pe gc34_b k36 k37; omega), by have q0 := b0_7 hB; (clear p_lx gc1_pe k3 hk4 k5 hown gc34_f gc34_pe gc34_b k36 k37; omega)⟩ _ hBc34 (FrM.c (FrM.c FrM.rf hFc1 rfl) hFc34 rfl) (by have q0 := b0_7 hB; have q1 := (((hFc34.1 3 rfl).trans ((hFc1.1 3 rfl).trans rfl)) : Pc34 0 3 = (P 0 3)); have q2 := b0_3 hB; have q3 := (((hFc34.1 4 rfl).trans ((hFc1.1 4 rfl).trans rfl)) : Pc34 0 4 = (P 0 4)); have q4 := b0_4 hB; have q5 := (((hFc34.1 5 rfl).trans ((hFc1.1 5 rfl).trans rfl)) : Pc34 0 5 = (P 0 5)); have q6 := b0_5 hB; (omega)) (by have q0 := b0_7 hB; have q1 := (((hFc34.1 4 rfl).trans ((hFc1.1 4 rfl).trans rfl)) : Pc34 0 4 = (P 0 4)); have q2 := b0_4 hB; (clear p_lx gc1_pe k3 hk4 k5 hown gc34_f gc34_pe gc34_b k36 k37; omega)) (by have q0 := b0_7 hB; have q1 := b0_8 hBc34; (clear p_lx gc1_pe k3 hk4 k5 hown gc34_f gc34_pe gc34_b k36 k37; omega)) (by have q0 := b0_7 hB; have q1 := b0_8 hBc34; have q2 := b0_9 hBc34; (clear p_lx gc1_pe k3 hk4 k5 hown gc34_f gc34_pe gc34_b k36 k37; omega)) (by have q0 := b0_7 hB; (clear p_lx gc1_pe k3 hk4 k5 hown gc34_f gc34_pe gc34_b k36 k37; omega)) vc34_FP ((fun h0 => by first | exact (by first | (rw [show (fre T K p).2 = p by (clear p_lx gc1_pe k3 hk4 k5 hown gc34_f gc34_pe gc34_b k36 k37; omega)]; exact (MS.fr (F := ([8, 9], [])) z1 (FrM.c (FrM.c FrM.rf hFc1 rfl) hFc34 rfl) rfl))) | (exfalso; (first | (clear p_lx gc1_pe k3 hk4 k5 hown gc34_f gc34_pe gc34_b k36 k37; omega) | (clear p_lx gc1_pe k3 hk4 k5 hown gc34_f gc34_pe gc34_b k36; omega) | (clear p_lx gc1_pe k3 hk4 k5 hown gc34_f gc34_pe gc34_b k37; omega) | (clear p_lx gc1_pe k3 hk4 k5 hown gc34_f gc34_pe k36 k37; omega) | (clear p_lx gc1_pe k3 hk4 k5 hown gc34_f gc34_b k36 k37; omega) | (clear p_lx gc1_pe k3 hk4 k5 hown gc34_pe gc34_b k36 k37; omega) | (clear p_lx gc1_pe k3 hk4 k5 gc34_f gc34_pe gc34_b k36 k37; omega) | (clear p_lx gc1_pe k3 hk4 hown gc34_f gc34_pe gc34_b k36 k37; omega) | (clear p_lx gc1_pe k3 k5 hown gc34_f gc34_pe gc34_b k36 k37; omega) | (clear p_lx gc1_pe k3 hk4 k5 hown gc34_f gc34_pe gc34_b; omega) | (clear gc34_f hown k5 hk4 k3 gc1_pe p_lx; omega) | omega)))))
  · skip
    skip
    have hx : tK T p = 4 ∧ Pc1 0 8 = 1 ∧ Pc1 0 9 = tS T p := by (clear p_lx gc1_pe; omega)
    have hfr : (fre T K p).1 = 1 ∧ (fre T K p).2 = tS T p := by rw [fre_4 hx.1]; exact ⟨rfl, rfl⟩
    clear hlx
    refine g_lconst (z := 0) dX12_fresh_11 (by decide) ?_
    exact g_retL dX12_fresh_12 rfl (hQ 0 (by decide) _ hBc1 (FrM.c FrM.rf hFc1 rfl) (by have q0 := (((hFc1.1 3 rfl).trans rfl) : Pc1 0 3 = (P 0 3)); have q1 := b0_3 hB; have q2 := (((hFc1.1 4 rfl).trans rfl) : Pc1 0 4 = (P 0 4)); have q3 := b0_4 hB; have q4 := (((hFc1.1 5 rfl).trans rfl) : Pc1 0 5 = (P 0 5)); have q5 := b0_5 hB; (clear gc1_pe k3; omega)) (by have q0 := (((hFc1.1 4 rfl).trans rfl) : Pc1 0 4 = (P 0 4)); have q1 := b0_4 hB; (clear p_lx gc1_pe k3; omega)) (by have q0 := b0_8 hBc1; (clear p_lx gc1_pe k3; omega)) (by have q0 := b0_8 hBc1; have q1 := b0_9 hBc1; (clear p_lx gc1_pe k3; omega)) (by (clear p_lx gc1_pe k3; omega)) vc1_FP ((fun h0 => by first | exact (by first | (rw [show (fre T K p).2 = p by (clear p_lx gc1_pe k3; omega)]; exact (MS.fr (F := ([8, 9], [])) z1 (FrM.c FrM.rf hFc1 rfl) rfl))) | (exfalso; (first | (clear p_lx gc1_pe k3; omega) | (clear p_lx gc1_pe; omega) | (clear p_lx k3; omega) | (clear gc1_pe k3; omega) | (clear p_lx; omega) | omega)))))
/-! What the reference answers: X12_known. -/
set_option maxRecDepth 100000 in
set_option maxHeartbeats 4000000 in
theorem f_X12_known (G : GT) (P : PH) (T : TT) (K : PH) (p : Int) (a1 : Int) (h_a1 : (-1) ≤ a1 ∧ a1 ≤ 4) (hB : BdM P) (p_lx : (P 0 3 = 0 ∨ P 0 4 + 1 ≤ P 0 5) ∧ P 0 4 ≤ P 0 5) (p_aw : AW K) (p_kw : tK T p = 1 ∧ (tO T p = -1 ∨ tO T p = 7)) (v_FP : FP P) (z0 : MS T p P) (z1 : MK K P) (Q : Option PV → PH → Prop) (hQ : ∀ (r : Int) (_ : 0 ≤ r ∧ r ≤ 4) (P1 : PH) (_ : BdM P1) (_ : FrM ([8, 9], []) P P1) (_ : (P1 0 3 = 0 ∨ P1 0 4 + 1 ≤ P1 0 5) ∧ P1 0 4 ≤ P1 0 5) (_ : P 0 4 ≤ P1 0 4) (_ : P 0 8 ≤ 0 ∨ 0 < P1 0 8) (_ : 0 < P1 0 8 ∨ r = 4 ∨ (r < a1 ∧ 1 ≤ P1 3 (4 * P 0 37 + r) ∧ r < P1 2 (P 0 37))) (_ : (0 < P 0 8 ∧ P1 0 8 = P 0 8 ∧ P1 0 9 = P 0 9) ∨ (P 0 8 ≤ 0 ∧ tO T p = -1 ∧ (kHe T K p = -1 ∨ a1 ≤ kHe T K p ∨ K 2 (kHe T K p) = 0) ∧ P1 0 8 = 3 ∧ P1 0 9 = tA T p) ∨ (P 0 8 ≤ 0 ∧ P1 0 8 = 0 ∧ ((tO T p = 7 ∧ r = 4 ∧ kHe T K p = -1) ∨ (tO T p = -1 ∧ r = kHe T K p ∧ 0 ≤ r ∧ r ≤ 3 ∧ r < a1 ∧ 1 ≤ K 2 (kHe T K p))))) (_ : FP P1), Q (some (vI r)) P1) : Ct WSM G 3 iX12_known [vR 0, vI a1] P Q := by
  refine Ct.of (by decide) (l0 := [(0, vR 0), (1, vI a1)]) rfl (Nat.le_of_ble_eq_true rfl) ?_
  have hat := z0.at.1
  have hs3 := (z0.tok (by (clear p_lx; omega))).1
  have hwd := z0.word (by (clear p_lx; omega))
  have ho7 : tW T p = 7239021 ↔ tO T p = 7 := ⟨fun h => (own_is 7 (by decide) 7239021 (by decide +kernel)).mp ⟨p_kw.1, h⟩, fun h => ((own_is 7 (by decide) 7239021 (by decide +kernel)).mpr h).2⟩
  have hmb := z1.b.1
  have hkb := (kHe_b (T := T) p_aw p).1
  refine g_aload_n dX12_known_0 rfl ?_
  refine g_vV (av := []) (o := 0) (st := []) (f_X12_lex G P (T) (p)  hB v_FP ((fun h0 => by first | exact z0 | (exfalso; (first | (clear p_lx p_kw ho7; omega) | (clear p_lx p_kw; omega) | (clear p_lx ho7; omega) | (clear p_kw ho7; omega) | (clear p_lx; omega) | omega)))) _ (fun Pc1 hBc1 hFc1 gc1_pe gc1_l vc1_FP => ⟨rfl, ?_⟩)) cf_X12_lex t_1697 rfl (by decide) rfl rfl rfl (Nat.le_of_ble_eq_true rfl) (by decide) rfl dX12_known_1
  have hl8 : Pc1 0 8 = P 0 8 ∧ Pc1 0 9 = P 0 9 := by (clear p_lx; omega)
  clear gc1_l
  refine g_aload_n dX12_known_4 rfl ?_
  refine m_g8 (z := (Pc1 0 8)) rfl dX12_known_5 rfl ?_
  have f2 := b0_8 hBc1
  refine g_if_le (tgt := 13) dX12_known_8 (by decide) ⟨by have q0 := b0_8 hBc1; (clear p_lx p_kw ho7 gc1_pe; omega), by have q0 := b0_8 hBc1; (clear p_lx p_kw ho7 gc1_pe; omega)⟩ (fun k3 => ?_) (fun k3 => ?_)
  · skip
    refine g_aload_n dX12_known_13 rfl ?_
    refine g_ldc2 (z := 7239021) dX12_known_14 t_1732 (by decide) ?_
    refine g_vI (av := [vL 7239021]) (o := 0) (st := []) (f_X12_isWord G Pc1 (T) (p) 7239021 (by decide) hBc1 ((MS.fr (F := ([8, 9], [])) z0 (FrM.c FrM.rf hFc1 rfl) rfl)) _ (fun rc4 hc4 gc4_w gc4_f => ⟨rc4, rfl, ?_⟩)) cf_X12_isWord t_1706 rfl (by decide) rfl rfl rfl (Nat.le_of_ble_eq_true rfl) (by decide) rfl dX12_known_17
    have z5 : Pc1 0 3 = (P 0 3) := ((hFc1.1 3 rfl).trans rfl)
    have z6 : Pc1 0 7 = (P 0 7) := ((hFc1.1 7 rfl).trans rfl)
    have hw7 : (rc4 = 1 ∧ tO T p = 7 ∧ kHe T K p = -1) ∨ (rc4 = 0 ∧ tO T p = -1) := by have q := kHe_s T K p; (omega)
    clear gc4_f ho7
    refine g_istore_n (l1 := [(2, vI rc4), (0, vR 0), (1, vI a1)]) dX12_known_20 (by decide) rfl ?_
    refine g_aload_n dX12_known_21 rfl ?_
    refine m_g3 (z := (P 0 3)) rfl dX12_known_22 ((hFc1.1 3 rfl).trans rfl) ?_
    refine g_iconst dX12_known_25 ?_
    have f7 := b0_3 hB
    refine g_icmp_ne (tgt := 44) dX12_known_26 (by decide) ⟨by have q0 := b0_3 hB; (clear p_lx p_kw gc1_pe k3 gc4_w hw7; omega), by have q0 := b0_3 hB; (clear p_lx p_kw gc1_pe k3 gc4_w hw7; omega)⟩ (by decide) (fun k8 => ?_) (fun k8 => ?_)
    · skip
      skip
      skip
      exfalso; (omega)
    · skip
      skip
      skip
      refine g_aload_n dX12_known_29 rfl ?_
      refine g_aload_n dX12_known_30 rfl ?_
      refine m_g7 (z := (P 0 7)) rfl dX12_known_31 ((hFc1.1 7 rfl).trans rfl) ?_
      have f9 := b0_7 hB
      refine g_vI (av := [vL (P 0 7)]) (o := 0) (st := []) (f_X12_isOwn G Pc1 (P 0 7) ⟨by have q0 := b0_7 hB; (clear p_lx p_kw gc1_pe k3 gc4_w hw7 k8; omega), by have q0 := b0_7 hB; (clear p_lx p_kw gc1_pe k3 gc4_w hw7 k8; omega)⟩ hBc1  _ (fun rc10 hc10 gc10_o => ⟨rc10, rfl, ?_⟩)) cf_X12_isOwn t_1722 rfl (by decide) rfl rfl rfl (Nat.le_of_ble_eq_true rfl) (by decide) rfl dX12_known_34
      have hown := own_r (T := T) (p := p) gc10_o (fun h1 => by have q := (((hFc1.1 7 rfl).trans rfl) : Pc1 0 7 = (P 0 7)); (clear p_lx p_kw gc1_pe k3 gc4_w hw7 k8 gc10_o; omega)) (by (clear p_lx p_kw gc1_pe k3 gc4_w hw7 gc10_o; omega))
      clear gc10_o
      refine g_if_eq (tgt := 53) dX12_known_37 (by decide) ⟨by (clear p_lx p_kw gc1_pe k3 gc4_w hw7 k8 hown; omega), by (clear p_lx p_kw gc1_pe k3 gc4_w hw7 k8 hown; omega)⟩ (fun k11 => ?_) (fun k11 => ?_)
      · have r_hown := (hown.resolve_left (by (clear p_lx p_kw gc1_pe k3 gc4_w hw7 k8 hown; omega)))
        have r_hw7 := (hw7.resolve_left (by (clear p_lx p_kw gc1_pe k3 gc4_w hw7 k8 hown; omega)))
        skip
        skip
        refine g_aload_n dX12_known_53 rfl ?_
        refine m_g8 (z := (Pc1 0 8)) rfl dX12_known_54 rfl ?_
        refine g_if_gt (tgt := 64) dX12_known_57 (by decide) ⟨by have q0 := b0_8 hBc1; (clear p_lx p_kw gc1_pe k3 gc4_w hw7 k8 hown; omega), by have q0 := b0_8 hBc1; (clear p_lx p_kw gc1_pe k3 gc4_w hw7 k8 hown; omega)⟩ (fun k12 => by exfalso; have q0 := b0_8 hBc1; (clear p_lx p_kw gc1_pe gc4_w hw7 k8 hown; omega)) (fun k12 => ?_)
        skip
        skip
        skip
        skip
        refine g_iload_n dX12_known_60 rfl ?_
        refine g_if_eq (tgt := 68) dX12_known_61 (by decide) ⟨by (clear p_lx p_kw gc1_pe k3 gc4_w hw7 k8 hown k12; omega), by (clear p_lx p_kw gc1_pe k3 gc4_w hw7 k8 hown k12; omega)⟩ (fun k13 => ?_) (fun k13 => ?_)
        · skip
          skip
          skip
          skip
          refine g_aload_n dX12_known_68 rfl ?_
          refine g_aload_n dX12_known_69 rfl ?_
          refine m_g7 (z := (P 0 7)) rfl dX12_known_70 ((hFc1.1 7 rfl).trans rfl) ?_
          refine g_vI (av := [vL (P 0 7)]) (o := 0) (st := []) (f_X12_kindNamed G Pc1 (P 0 7) ⟨by have q0 := b0_7 hB; (clear p_lx p_kw gc1_pe k3 gc4_w hw7 k8 hown k12 k13; omega), by have q0 := b0_7 hB; (clear p_lx p_kw gc1_pe k3 gc4_w hw7 k8 hown k12 k13; omega)⟩ hBc1  _ (fun rc14 hc14 gc14_k gc14_fx => ⟨rc14, rfl, ?_⟩)) cf_X12_kindNamed t_1736 rfl (by decide) rfl rfl rfl (Nat.le_of_ble_eq_true rfl) (by decide) rfl dX12_known_73
          have z15 : Pc1 0 37 = (P 0 37) := ((hFc1.1 37 rfl).trans rfl)
          have ek37 := (((hFc1.1 37 rfl).trans rfl) : Pc1 0 37 = (P 0 37))
          try rw [ek37] at gc14_k
          have ek2 := (((congrFun (hFc1.2 2 rfl rfl) _).trans rfl) : Pc1 2 (P 0 37) = (P 2 (P 0 37)))
          try rw [ek2] at gc14_k
          have hkn : rc14 = kNm K (tV T p) := by
            have q := gc14_fx
            rw [hwd, ((MK.fr (F := ([8, 9], [])) z1 (FrM.c FrM.rf hFc1 rfl) rfl)).kn p_aw (NW.tok (T := T) (p := p) (by (clear p_lx p_kw gc1_pe k3 gc4_w hw7 hown k12 k13; omega)))] at q
            exact q
          have hkk : kHe T K p = rc14 := by have q := kHe_s T K p; (clear p_lx p_kw gc1_pe k3 gc4_w hw7 k8 hown k12 k13; omega)
          have hk0 := p_aw.1
          have hv3 : rc14 ≠ -1 → P 3 (4 * P 0 37 + rc14) = K 2 (kHe T K p) := fun h => by rw [hkk]; exact (z1.k (by (clear p_lx p_kw gc1_pe k3 gc4_w hw7 k8 hown k12 k13; omega)) (by have q := kNm_b p_aw (tV T p); (clear p_lx p_kw gc1_pe k3 gc4_w hw7 k8 hown k12 k13; omega))).2.1
          refine g_istore_n (l1 := [(3, vI rc14), (2, vI rc4), (0, vR 0), (1, vI a1)]) dX12_known_76 (by decide) rfl ?_
          refine g_aload_n dX12_known_77 rfl ?_
          refine m_g8 (z := (Pc1 0 8)) rfl dX12_known_78 rfl ?_
          refine g_if_ne (tgt := 123) dX12_known_81 (by decide) ⟨by have q0 := b0_8 hBc1; (clear p_lx p_kw gc1_pe k3 gc4_w hw7 k8 hown k12 k13 hv3; omega), by have q0 := b0_8 hBc1; (clear p_lx p_kw gc1_pe k3 gc4_w hw7 k8 hown k12 k13 hv3; omega)⟩ (fun k16 => by exfalso; have q0 := b0_8 hBc1; (clear p_lx p_kw gc1_pe k3 gc4_w hw7 k8 hown k13 hv3; omega)) (fun k16 => ?_)
          skip
          skip
          skip
          skip
          refine g_iload_n dX12_known_84 rfl ?_
          refine g_if_ne (tgt := 123) dX12_known_85 (by decide) ⟨by (clear p_lx p_kw gc1_pe k3 gc4_w hw7 k8 hown k12 k13 hv3 k16; omega), by (clear p_lx p_kw gc1_pe k3 gc4_w hw7 k8 hown k12 k13 hv3 k16; omega)⟩ (fun k17 => by exfalso; (clear p_lx p_kw gc1_pe k3 gc4_w hw7 k8 hown k12 k13 hv3 k16; omega)) (fun k17 => ?_)
          skip
          skip
          skip
          skip
          refine g_iload_n dX12_known_88 rfl ?_
          refine g_iconst dX12_known_89 ?_
          refine g_icmp_eq (tgt := 114) dX12_known_90 (by decide) ⟨by (clear p_lx p_kw gc1_pe k3 gc4_w hw7 k8 hown k12 k13 hv3 k16 k17; omega), by (clear p_lx p_kw gc1_pe k3 gc4_w hw7 k8 hown k12 k13 hv3 k16 k17; omega)⟩ (by decide) (fun k18 => ?_) (fun k18 => ?_)
          · skip
            skip
            skip
            skip
            refine g_aload_n dX12_known_114 rfl ?_
            refine g_iconst dX12_known_115 ?_
            refine g_aload_n dX12_known_116 rfl ?_
            refine m_g4 (z := (P 0 4)) rfl dX12_known_117 ((hFc1.1 4 rfl).trans rfl) ?_
            have f19 := b0_4 hB
            refine g_vV (av := [vI 3, vI (P 0 4)]) (o := 0) (st := []) (f_X12_blame G Pc1 3 (P 0 4) (by decide) ⟨by have q0 := b0_4 hB; (clear p_lx p_kw gc1_pe k3 gc4_w hw7 k8 hown k12 k13 hv3 k16 k17 k18; omega), by have q0 := b0_4 hB; (clear p_lx p_kw gc1_pe k3 gc4_w hw7 k8 hown k12 k13 hv3 k16 k17 k18; omega)⟩ hBc1 (by have q0 := b0_4 hB; (clear p_lx p_kw gc1_pe k3 gc4_w hw7 k8 hown k12 k13 hv3 k16 k17 k18; omega)) vc1_FP _ (fun Pc20 hBc20 hFc20 gc20_f gc20_pe gc20_b vc20_FP => ⟨rfl, ?_⟩)) cf_X12_blame t_1701 rfl (by decide) rfl rfl rfl (Nat.le_of_ble_eq_true rfl) (by decide) rfl dX12_known_120
            refine g_aload_n dX12_known_123 rfl ?_
            refine m_g8 (z := (Pc20 0 8)) rfl dX12_known_124 rfl ?_
            have f21 := b0_8 hBc20
            refine g_if_le (tgt := 134) dX12_known_127 (by decide) ⟨by have q0 := b0_8 hBc20; (clear p_lx p_kw gc1_pe k3 gc4_w hw7 k8 hown k12 k13 hv3 k16 k17 k18 gc20_f gc20_pe gc20_b; omega), by have q0 := b0_8 hBc20; (clear p_lx p_kw gc1_pe k3 gc4_w hw7 k8 hown k12 k13 hv3 k16 k17 k18 gc20_f gc20_pe gc20_b; omega)⟩ (fun k22 => by exfalso; have q0 := b0_8 hBc20; (clear p_lx p_kw gc1_pe k3 gc4_w hw7 k8 hown k12 k13 hv3 k16 k17 k18 gc20_f gc20_pe; omega)) (fun k22 => ?_)
            skip
            skip
            have r_gc20_f := (gc20_f.resolve_right (by (clear p_lx p_kw gc1_pe k3 gc4_w hw7 k8 hown k12 k13 hv3 k16 k17 k18 gc20_f gc20_pe gc20_b k22; omega)))
            skip
            skip
            skip
            skip
            refine g_iconst dX12_known_130 ?_
            refine g_goto (tgt := 135) dX12_known_131 (by decide) ?_
            exact g_retI dX12_known_135 rfl (hQ 4 (by decide) _ hBc20 (FrM.c (FrM.c FrM.rf hFc1 rfl) hFc20 rfl) (by have q0 := (((hFc20.1 3 rfl).trans ((hFc1.1 3 rfl).trans rfl)) : Pc20 0 3 = (P 0 3)); have q1 := b0_3 hB; have q2 := (((hFc20.1 4 rfl).trans ((hFc1.1 4 rfl).trans rfl)) : Pc20 0 4 = (P 0 4)); have q3 := b0_4 hB; have q4 := (((hFc20.1 5 rfl).trans ((hFc1.1 5 rfl).trans rfl)) : Pc20 0 5 = (P 0 5)); have q5 := b0_5 hB; (omega)) (by have q0 := (((hFc20.1 4 rfl).trans ((hFc1.1 4 rfl).trans rfl)) : Pc20 0 4 = (P 0 4)); have q1 := b0_4 hB; (clear p_lx p_kw gc1_pe k3 gc4_w hw7 k8 hown k12 k13 hv3 k16 k17 k18 gc20_f gc20_pe gc20_b k22; omega)) (by have q0 := b0_8 hBc20; (clear p_lx p_kw gc1_pe k3 gc4_w hw7 k8 hown k12 k13 hv3 k16 k17 k18 gc20_f gc20_pe gc20_b k22; omega)) (by first | (left; have q8 := (rfl : Pc20 0 8 = (Pc20 0 8)); (clear p_lx p_kw gc1_pe k3 gc4_w hw7 k8 hown k12 k13 hv3 k16 k17 k18 gc20_f gc20_pe gc20_b k22; omega)) | (have q2 := (((congrFun (hFc20.2 2 rfl rfl) _).trans ((congrFun (hFc1.2 2 rfl rfl) _).trans rfl)) : Pc20 2 (P 0 37) = (P 2 (P 0 37))); have q3 := (((congrFun (hFc20.2 3 rfl rfl) _).trans ((congrFun (hFc1.2 3 rfl rfl) _).trans rfl)) : Pc20 3 (4 * P 0 37 + 4) = (P 3 (4 * P 0 37 + 4))); (first | (clear p_lx p_kw gc1_pe k3 gc4_w hw7 k8 hown k12 k13 hv3 k16 k17 k18 gc20_f gc20_pe gc20_b k22; omega) | (clear p_lx p_kw gc1_pe k3 gc4_w hw7 k8 hown k12 k13 hv3 k16 k17 k18 gc20_f gc20_pe gc20_b; omega) | (clear p_lx p_kw gc1_pe k3 gc4_w hw7 k8 hown k12 k13 hv3 k16 k17 k18 gc20_f gc20_pe k22; omega) | (clear p_lx p_kw gc1_pe k3 gc4_w hw7 k8 hown k12 k13 hv3 k16 k17 k18 gc20_f gc20_b k22; omega) | (clear p_lx p_kw gc1_pe k3 gc4_w hw7 k8 hown k12 k13 hv3 k16 k17 k18 gc20_pe gc20_b k22; omega) | (clear p_lx p_kw gc1_pe k3 gc4_w hw7 k8 hown k12 k13 hv3 k16 k17 gc20_f gc20_pe gc20_b k22; omega) | (clear p_lx p_kw gc1_pe k3 gc4_w hw7 k8 hown k12 k13 hv3 k16 k18 gc20_f gc20_pe gc20_b k22; omega) | (clear p_lx p_kw gc1_pe k3 gc4_w hw7 k8 hown k12 k13 hv3 k17 k18 gc20_f gc20_pe gc20_b k22; omega) | (clear p_lx p_kw gc1_pe k3 gc4_w hw7 k8 hown k12 k13 k16 k17 k18 gc20_f gc20_pe gc20_b k22; omega) | (clear p_lx p_kw gc1_pe k3 gc4_w hw7 k8 hown k12 k13 hv3 k16 k17 k18 gc20_f gc20_pe; omega) | (clear k18 k17 k16 hv3 k13 k12 hown k8 hw7 gc4_w k3 gc1_pe p_kw p_lx; omega) | omega))) (by have q0 := b0_8 hBc20; have q1 := b0_9 hBc20; (omega)) vc20_FP)
          · have k18n : 0 ≤ rc14 := by (clear p_lx p_kw gc1_pe k3 gc4_w hw7 k8 hown k12 k13 hv3 k16 k17; omega)
            clear k18
            skip
            skip
            skip
            skip
            refine g_iload_n dX12_known_93 rfl ?_
            refine g_iload_n dX12_known_94 rfl ?_
            refine g_icmp_ge (tgt := 114) dX12_known_95 (by decide) ⟨by (clear p_lx p_kw gc1_pe k3 gc4_w hw7 k8 hown k12 k13 hv3 k16 k17; omega), by (clear p_lx p_kw gc1_pe k3 gc4_w hw7 k8 hown k12 k13 hv3 k16 k17; omega)⟩ ⟨by (clear p_lx p_kw gc1_pe k3 gc4_w hw7 k8 hown k12 k13 hv3 k16 k17; omega), by (clear p_lx p_kw gc1_pe k3 gc4_w hw7 k8 hown k12 k13 hv3 k16 k17; omega)⟩ (fun k23 => ?_) (fun k23 => ?_)
            · skip
              skip
              skip
              skip
              refine g_aload_n dX12_known_114 rfl ?_
              refine g_iconst dX12_known_115 ?_
              refine g_aload_n dX12_known_116 rfl ?_
              refine m_g4 (z := (P 0 4)) rfl dX12_known_117 ((hFc1.1 4 rfl).trans rfl) ?_
              have f24 := b0_4 hB
              refine g_vV (av := [vI 3, vI (P 0 4)]) (o := 0) (st := []) (f_X12_blame G Pc1 3 (P 0 4) (by decide) ⟨by have q0 := b0_4 hB; (clear p_lx p_kw gc1_pe k3 gc4_w hw7 k8 hown k12 k13 hv3 k16 k17; omega), by have q0 := b0_4 hB; (clear p_lx p_kw gc1_pe k3 gc4_w hw7 k8 hown k12 k13 hv3 k16 k17; omega)⟩ hBc1 (by have q0 := b0_4 hB; (clear p_lx p_kw gc1_pe k3 gc4_w hw7 k8 hown k12 k13 hv3 k16 k17; omega)) vc1_FP _ (fun Pc25 hBc25 hFc25 gc25_f gc25_pe gc25_b vc25_FP => ⟨rfl, ?_⟩)) cf_X12_blame t_1701 rfl (by decide) rfl rfl rfl (Nat.le_of_ble_eq_true rfl) (by decide) rfl dX12_known_120
              refine g_aload_n dX12_known_123 rfl ?_
              refine m_g8 (z := (Pc25 0 8)) rfl dX12_known_124 rfl ?_
              have f26 := b0_8 hBc25
              refine g_if_le (tgt := 134) dX12_known_127 (by decide) ⟨by have q0 := b0_8 hBc25; (clear p_lx p_kw gc1_pe k3 gc4_w hw7 k8 hown k12 k13 hv3 k16 k17 gc25_f gc25_pe gc25_b; omega), by have q0 := b0_8 hBc25; (clear p_lx p_kw gc1_pe k3 gc4_w hw7 k8 hown k12 k13 hv3 k16 k17 gc25_f gc25_pe gc25_b; omega)⟩ (fun k27 => by exfalso; have q0 := b0_8 hBc25; (clear p_lx p_kw gc1_pe k3 gc4_w hw7 k8 hown k12 k13 hv3 k16 k17 gc25_f gc25_pe; omega)) (fun k27 => ?_)
              skip
              skip
              have r_gc25_f := (gc25_f.resolve_right (by (clear p_lx p_kw gc1_pe k3 gc4_w hw7 k8 hown k12 k13 hv3 k16 k17 gc25_f gc25_pe gc25_b; omega)))
              skip
              skip
              skip
              skip
              refine g_iconst dX12_known_130 ?_
              refine g_goto (tgt := 135) dX12_known_131 (by decide) ?_
              exact g_retI dX12_known_135 rfl (hQ 4 (by decide) _ hBc25 (FrM.c (FrM.c FrM.rf hFc1 rfl) hFc25 rfl) (by have q0 := (((hFc25.1 3 rfl).trans ((hFc1.1 3 rfl).trans rfl)) : Pc25 0 3 = (P 0 3)); have q1 := b0_3 hB; have q2 := (((hFc25.1 4 rfl).trans ((hFc1.1 4 rfl).trans rfl)) : Pc25 0 4 = (P 0 4)); have q3 := b0_4 hB; have q4 := (((hFc25.1 5 rfl).trans ((hFc1.1 5 rfl).trans rfl)) : Pc25 0 5 = (P 0 5)); have q5 := b0_5 hB; (omega)) (by have q0 := (((hFc25.1 4 rfl).trans ((hFc1.1 4 rfl).trans rfl)) : Pc25 0 4 = (P 0 4)); have q1 := b0_4 hB; (clear p_lx p_kw gc1_pe k3 gc4_w hw7 k8 hown k12 k13 hv3 k16 k17 gc25_f gc25_pe gc25_b; omega)) (by have q0 := b0_8 hBc25; (clear p_lx p_kw gc1_pe k3 gc4_w hw7 k8 hown k12 k13 hv3 k16 k17 gc25_f gc25_pe gc25_b; omega)) (by first | (left; have q8 := (rfl : Pc25 0 8 = (Pc25 0 8)); (clear p_lx p_kw gc1_pe k3 gc4_w hw7 k8 hown k12 k13 hv3 k16 k17 gc25_f gc25_pe gc25_b; omega)) | (have q2 := (((congrFun (hFc25.2 2 rfl rfl) _).trans ((congrFun (hFc1.2 2 rfl rfl) _).trans rfl)) : Pc25 2 (P 0 37) = (P 2 (P 0 37))); have q3 := (((congrFun (hFc25.2 3 rfl rfl) _).trans ((congrFun (hFc1.2 3 rfl rfl) _).trans rfl)) : Pc25 3 (4 * P 0 37 + 4) = (P 3 (4 * P 0 37 + 4))); (first | (clear p_lx p_kw gc1_pe k3 gc4_w hw7 k8 hown k12 k13 hv3 k16 k17 gc25_f gc25_pe gc25_b; omega) | (clear p_lx p_kw gc1_pe k3 gc4_w hw7 k8 hown k12 k13 hv3 k16 k17 gc25_f gc25_pe; omega) | (clear p_lx p_kw gc1_pe k3 gc4_w hw7 k8 hown k12 k13 hv3 k16 k17 gc25_f gc25_b; omega) | (clear p_lx p_kw gc1_pe k3 gc4_w hw7 k8 hown k12 k13 hv3 k16 k17 gc25_pe gc25_b; omega) | (clear p_lx p_kw gc1_pe k3 gc4_w hw7 k8 hown k12 k13 hv3 k16 gc25_f gc25_pe gc25_b; omega) | (clear p_lx p_kw gc1_pe k3 gc4_w hw7 k8 hown k12 k13 hv3 k17 gc25_f gc25_pe gc25_b; omega) | (clear p_lx p_kw gc1_pe k3 gc4_w hw7 k8 hown k12 k13 k16 k17 gc25_f gc25_pe gc25_b; omega) | (clear p_lx p_kw gc1_pe k3 gc4_w hw7 k8 hown k12 hv3 k16 k17 gc25_f gc25_pe gc25_b; omega) | (clear p_lx p_kw gc1_pe k3 gc4_w hw7 k8 hown k13 hv3 k16 k17 gc25_f gc25_pe gc25_b; omega) | (clear p_lx p_kw gc1_pe k3 gc4_w hw7 k8 hown k12 k13 hv3 k16 k17 gc25_f; omega) | (clear k16 hv3 k13 k12 hown k8 hw7 gc4_w k3 gc1_pe p_kw p_lx; omega) | omega))) (by have q0 := b0_8 hBc25; have q1 := b0_9 hBc25; (clear p_lx p_kw gc1_pe k3 gc4_w hw7 k8 hown k12 k13 hv3 k16 k17 gc25_f gc25_pe; omega)) vc25_FP)
            · skip
              skip
              skip
              skip
              refine g_aload_n dX12_known_98 rfl ?_
              refine m_g15 rfl dX12_known_99 ?_
              refine g_iconst dX12_known_102 ?_
              refine g_aload_n dX12_known_103 rfl ?_
              refine m_g37 (z := (P 0 37)) rfl dX12_known_104 ((hFc1.1 37 rfl).trans rfl) ?_
              refine g_imul dX12_known_107 ?_
              refine g_iload_n dX12_known_108 rfl ?_
              refine g_iadd dX12_known_109 ?_
              refine m_l3 (z := (P 3 ((4 * (P 0 37)) + rc14))) dX12_known_110 ⟨by have q0 := b0_37 hB; (clear p_lx p_kw gc1_pe k3 gc4_w hw7 k8 hown k12 k13 hv3 k16 k17; omega), by have q0 := b0_37 hB; (clear p_lx p_kw gc1_pe k3 gc4_w hw7 k8 hown k12 k13 hv3 k16 k17; omega)⟩ ((congrFun (hFc1.2 3 rfl rfl) _).trans rfl) ?_
              have f28 := bl_3 (k := ((4 * (P 0 37)) + rc14)) hB
              refine g_if_ne (tgt := 123) dX12_known_111 (by decide) ⟨by have q0 := bl_3 (k := ((4 * (P 0 37)) + rc14)) hB; (clear p_lx p_kw gc1_pe k3 gc4_w hw7 k8 hown k12 k13 hv3 k16 k17; omega), by have q0 := bl_3 (k := ((4 * (P 0 37)) + rc14)) hB; (clear p_lx p_kw gc1_pe k3 gc4_w hw7 k8 hown k12 k13 hv3 k16 k17; omega)⟩ (fun k29 => ?_) (fun k29 => ?_)
              · have k29n : 1 ≤ (P 3 ((4 * (P 0 37)) + rc14)) := by have q0 := bl_3 (k := ((4 * (P 0 37)) + rc14)) hB; (clear p_lx p_kw gc1_pe k3 gc4_w hw7 k8 hown k12 k13 hv3 k16 k17; omega)
                clear k29
                skip
                skip
                skip
                skip
                refine g_aload_n dX12_known_123 rfl ?_
                refine m_g8 (z := (Pc1 0 8)) rfl dX12_known_124 rfl ?_
                refine g_if_le (tgt := 134) dX12_known_127 (by decide) ⟨by have q0 := b0_8 hBc1; (clear p_lx p_kw gc1_pe k3 gc4_w hw7 k8 hown k12 k13 hv3 k16 k17; omega), by have q0 := b0_8 hBc1; (clear p_lx p_kw gc1_pe k3 gc4_w hw7 k8 hown k12 k13 hv3 k16 k17; omega)⟩ (fun k30 => ?_) (fun k30 => by exfalso; have q0 := b0_8 hBc1; (clear p_lx p_kw gc1_pe k3 gc4_w hw7 k8 hown k12 k13 hv3 k17; omega))
                skip
                skip
                skip
                have r_gc1_pe := (gc1_pe.resolve_right (by (clear p_lx p_kw gc1_pe k3 gc4_w hw7 k8 hown k12 k13 hv3 k16 k17; omega)))
                refine g_iload_n dX12_known_134 rfl ?_
                exact g_retI dX12_known_135 rfl (hQ rc14 ⟨by (clear p_lx p_kw gc1_pe k3 gc4_w hw7 k8 hown k12 k13 hv3 k16 k17; omega), by (clear p_lx p_kw gc1_pe k3 gc4_w hw7 k8 hown k12 k13 hv3 k16 k17; omega)⟩ _ hBc1 (FrM.c FrM.rf hFc1 rfl) (by have q0 := (((hFc1.1 3 rfl).trans rfl) : Pc1 0 3 = (P 0 3)); have q1 := b0_3 hB; have q2 := (((hFc1.1 4 rfl).trans rfl) : Pc1 0 4 = (P 0 4)); have q3 := b0_4 hB; have q4 := (((hFc1.1 5 rfl).trans rfl) : Pc1 0 5 = (P 0 5)); have q5 := b0_5 hB; (omega)) (by have q0 := (((hFc1.1 4 rfl).trans rfl) : Pc1 0 4 = (P 0 4)); have q1 := b0_4 hB; (clear p_lx p_kw gc1_pe k3 gc4_w hw7 k8 hown k12 k13 hv3 k16 k17; omega)) (by have q0 := b0_8 hBc1; (clear p_lx p_kw gc1_pe k3 gc4_w hw7 k8 hown k12 k13 hv3 k16 k17; omega)) (by first | (left; have q8 := (rfl : Pc1 0 8 = (Pc1 0 8)); (first | (clear p_lx p_kw gc1_pe k3 gc4_w hw7 k8 hown k12 k13 hv3 k16 k17; omega) | (clear p_lx p_kw gc1_pe k3 gc4_w hw7 k8 hown k12 k13 hv3 k16; omega) | (clear p_lx p_kw gc1_pe k3 gc4_w hw7 k8 hown k12 k13 hv3 k17; omega) | (clear p_lx p_kw gc1_pe k3 gc4_w hw7 k8 hown k12 k13 k16 k17; omega) | (clear p_lx p_kw gc1_pe k3 gc4_w hw7 k8 hown k12 hv3 k16 k17; omega) | (clear p_lx p_kw gc1_pe k3 gc4_w hw7 k8 hown k13 hv3 k16 k17; omega) | (clear p_lx p_kw gc1_pe k3 gc4_w hw7 k8 k12 k13 hv3 k16 k17; omega) | (clear p_lx p_kw gc1_pe k3 gc4_w hw7 hown k12 k13 hv3 k16 k17; omega) | (clear p_lx p_kw gc1_pe k3 gc4_w k8 hown k12 k13 hv3 k16 k17; omega) | (clear p_lx p_kw gc1_pe k3 gc4_w hw7 k8 hown k12 k13 hv3; omega) | (clear k12 hown k8 hw7 gc4_w k3 gc1_pe p_kw p_lx; omega) | omega)) | (have q2 := (((congrFun (hFc1.2 2 rfl rfl) _).trans rfl) : Pc1 2 (P 0 37) = (P 2 (P 0 37))); have q3 := (((congrFun (hFc1.2 3 rfl rfl) _).trans rfl) : Pc1 3 (4 * P 0 37 + rc14) = (P 3 (4 * P 0 37 + rc14))); (clear p_lx p_kw gc1_pe k3 gc4_w hw7 k8 hown k12 k13 hv3 k16 k17; omega))) (by have q0 := b0_8 hBc1; have q1 := b0_9 hBc1; (clear p_lx p_kw gc1_pe k3 gc4_w hw7 k8 hown k12 k13 k16 k17; omega)) vc1_FP)
              · skip
                skip
                skip
                skip
                refine g_aload_n dX12_known_114 rfl ?_
                refine g_iconst dX12_known_115 ?_
                refine g_aload_n dX12_known_116 rfl ?_
                refine m_g4 (z := (P 0 4)) rfl dX12_known_117 ((hFc1.1 4 rfl).trans rfl) ?_
                have f31 := b0_4 hB
                refine g_vV (av := [vI 3, vI (P 0 4)]) (o := 0) (st := []) (f_X12_blame G Pc1 3 (P 0 4) (by decide) ⟨by have q0 := b0_4 hB; (clear p_lx p_kw gc1_pe k3 gc4_w hw7 k8 hown k12 k13 hv3 k16 k17 k29; omega), by have q0 := b0_4 hB; (clear p_lx p_kw gc1_pe k3 gc4_w hw7 k8 hown k12 k13 hv3 k16 k17 k29; omega)⟩ hBc1 (by have q0 := b0_4 hB; (clear p_lx p_kw gc1_pe k3 gc4_w hw7 k8 hown k12 k13 hv3 k16 k17 k29; omega)) vc1_FP _ (fun Pc32 hBc32 hFc32 gc32_f gc32_pe gc32_b vc32_FP => ⟨rfl, ?_⟩)) cf_X12_blame t_1701 rfl (by decide) rfl rfl rfl (Nat.le_of_ble_eq_true rfl) (by decide) rfl dX12_known_120
                refine g_aload_n dX12_known_123 rfl ?_
                refine m_g8 (z := (Pc32 0 8)) rfl dX12_known_124 rfl ?_
                have f33 := b0_8 hBc32
                refine g_if_le (tgt := 134) dX12_known_127 (by decide) ⟨by have q0 := b0_8 hBc32; (clear p_lx p_kw gc1_pe k3 gc4_w hw7 k8 hown k12 k13 hv3 k16 k17 k29 gc32_f gc32_pe gc32_b; omega), by have q0 := b0_8 hBc32; (clear p_lx p_kw gc1_pe k3 gc4_w hw7 k8 hown k12 k13 hv3 k16 k17 k29 gc32_f gc32_pe gc32_b; omega)⟩ (fun k34 => by exfalso; have q0 := b0_8 hBc32; (clear p_lx p_kw gc1_pe k3 gc4_w hw7 k8 hown k12 k13 hv3 k16 k17 k29 gc32_f gc32_pe; omega)) (fun k34 => ?_)
                skip
                skip
                have r_gc32_f := (gc32_f.resolve_right (by (clear p_lx p_kw gc1_pe k3 gc4_w hw7 k8 hown k12 k13 hv3 k16 k17 k29 gc32_f gc32_pe gc32_b; omega)))
                skip
                skip
                skip
                skip
                refine g_iconst dX12_known_130 ?_
                refine g_goto (tgt := 135) dX12_known_131 (by decide) ?_
                exact g_retI dX12_known_135 rfl (hQ 4 (by decide) _ hBc32 (FrM.c (FrM.c FrM.rf hFc1 rfl) hFc32 rfl) (by have q0 := (((hFc32.1 3 rfl).trans ((hFc1.1 3 rfl).trans rfl)) : Pc32 0 3 = (P 0 3)); have q1 := b0_3 hB; have q2 := (((hFc32.1 4 rfl).trans ((hFc1.1 4 rfl).trans rfl)) : Pc32 0 4 = (P 0 4)); have q3 := b0_4 hB; have q4 := (((hFc32.1 5 rfl).trans ((hFc1.1 5 rfl).trans rfl)) : Pc32 0 5 = (P 0 5)); have q5 := b0_5 hB; (omega)) (by have q0 := (((hFc32.1 4 rfl).trans ((hFc1.1 4 rfl).trans rfl)) : Pc32 0 4 = (P 0 4)); have q1 := b0_4 hB; (clear p_lx p_kw gc1_pe k3 gc4_w hw7 k8 hown k12 k13 hv3 k16 k17 k29 gc32_f gc32_pe gc32_b; omega)) (by have q0 := b0_8 hBc32; (clear p_lx p_kw gc1_pe k3 gc4_w hw7 k8 hown k12 k13 hv3 k16 k17 k29 gc32_f gc32_pe gc32_b; omega)) (by first | (left; have q8 := (rfl : Pc32 0 8 = (Pc32 0 8)); (clear p_lx p_kw gc1_pe k3 gc4_w hw7 k8 hown k12 k13 hv3 k16 k17 k29 gc32_f gc32_pe gc32_b; omega)) | (have q2 := (((congrFun (hFc32.2 2 rfl rfl) _).trans ((congrFun (hFc1.2 2 rfl rfl) _).trans rfl)) : Pc32 2 (P 0 37) = (P 2 (P 0 37))); have q3 := (((congrFun (hFc32.2 3 rfl rfl) _).trans ((congrFun (hFc1.2 3 rfl rfl) _).trans rfl)) : Pc32 3 (4 * P 0 37 + 4) = (P 3 (4 * P 0 37 + 4))); (first | (clear p_lx p_kw gc1_pe k3 gc4_w hw7 k8 hown k12 k13 hv3 k16 k17 k29 gc32_f gc32_pe gc32_b; omega) | (clear p_lx p_kw gc1_pe k3 gc4_w hw7 k8 hown k12 k13 hv3 k16 k17 k29 gc32_f gc32_pe; omega) | (clear p_lx p_kw gc1_pe k3 gc4_w hw7 k8 hown k12 k13 hv3 k16 k17 k29 gc32_f gc32_b; omega) | (clear p_lx p_kw gc1_pe k3 gc4_w hw7 k8 hown k12 k13 hv3 k16 k17 k29 gc32_pe gc32_b; omega) | (clear p_lx p_kw gc1_pe k3 gc4_w hw7 k8 hown k12 k13 hv3 k16 k17 gc32_f gc32_pe gc32_b; omega) | (clear p_lx p_kw gc1_pe k3 gc4_w hw7 k8 hown k12 k13 hv3 k16 k29 gc32_f gc32_pe gc32_b; omega) | (clear p_lx p_kw gc1_pe k3 gc4_w hw7 k8 hown k12 k13 hv3 k17 k29 gc32_f gc32_pe gc32_b; omega) | (clear p_lx p_kw gc1_pe k3 gc4_w hw7 k8 hown k12 k13 k16 k17 k29 gc32_f gc32_pe gc32_b; omega) | (clear p_lx p_kw gc1_pe k3 gc4_w hw7 k8 hown k12 hv3 k16 k17 k29 gc32_f gc32_pe gc32_b; omega) | (clear p_lx p_kw gc1_pe k3 gc4_w hw7 k8 hown k12 k13 hv3 k16 k17 k29 gc32_f; omega) | (clear k17 k16 hv3 k13 k12 hown k8 hw7 gc4_w k3 gc1_pe p_kw p_lx; omega) | omega))) (by have q0 := b0_8 hBc32; have q1 := b0_9 hBc32; (omega)) vc32_FP)
        · have k13n : 1 ≤ rc4 := by (clear p_lx p_kw gc1_pe k3 gc4_w hw7 k8 hown k12; omega)
          clear k13
          skip
          skip
          have r_gc4_w := (gc4_w.resolve_right (by (clear p_lx p_kw gc1_pe k3 gc4_w hw7 k8 hown k12; omega)))
          have r_gc1_pe := (gc1_pe.resolve_right (by (clear p_lx p_kw gc1_pe k3 gc4_w hw7 k8 hown k12; omega)))
          refine g_iconst dX12_known_64 ?_
          refine g_goto (tgt := 76) dX12_known_65 (by decide) ?_
          refine g_istore_n (l1 := [(3, vI 4), (2, vI rc4), (0, vR 0), (1, vI a1)]) dX12_known_76 (by decide) rfl ?_
          refine g_aload_n dX12_known_77 rfl ?_
          refine m_g8 (z := (Pc1 0 8)) rfl dX12_known_78 rfl ?_
          refine g_if_ne (tgt := 123) dX12_known_81 (by decide) ⟨by have q0 := b0_8 hBc1; (clear p_lx p_kw gc1_pe k3 gc4_w hw7 k8 hown k12; omega), by have q0 := b0_8 hBc1; (clear p_lx p_kw gc1_pe k3 gc4_w hw7 k8 hown k12; omega)⟩ (fun k35 => by exfalso; have q0 := b0_8 hBc1; (clear p_lx p_kw gc1_pe k3 gc4_w hw7 k8 hown k12; omega)) (fun k35 => ?_)
          skip
          skip
          skip
          skip
          refine g_iload_n dX12_known_84 rfl ?_
          refine g_if_ne (tgt := 123) dX12_known_85 (by decide) ⟨by (clear p_lx p_kw gc1_pe k3 gc4_w hw7 k8 hown k12; omega), by (clear p_lx p_kw gc1_pe k3 gc4_w hw7 k8 hown k12; omega)⟩ (fun k36 => ?_) (fun k36 => by exfalso; (clear p_lx p_kw gc1_pe k3 gc4_w hw7 k8 hown k12; omega))
          skip
          skip
          skip
          skip
          refine g_aload_n dX12_known_123 rfl ?_
          refine m_g8 (z := (Pc1 0 8)) rfl dX12_known_124 rfl ?_
          refine g_if_le (tgt := 134) dX12_known_127 (by decide) ⟨by have q0 := b0_8 hBc1; (clear p_lx p_kw gc1_pe k3 gc4_w hw7 k8 hown k12 k36; omega), by have q0 := b0_8 hBc1; (clear p_lx p_kw gc1_pe k3 gc4_w hw7 k8 hown k12 k36; omega)⟩ (fun k37 => ?_) (fun k37 => by exfalso; have q0 := b0_8 hBc1; (clear p_lx p_kw gc1_pe k3 gc4_w hw7 k8 hown k12 k36; omega))
          skip
          skip
          skip
          skip
          refine g_iload_n dX12_known_134 rfl ?_
          exact g_retI dX12_known_135 rfl (hQ 4 (by decide) _ hBc1 (FrM.c FrM.rf hFc1 rfl) (by have q0 := (((hFc1.1 3 rfl).trans rfl) : Pc1 0 3 = (P 0 3)); have q1 := b0_3 hB; have q2 := (((hFc1.1 4 rfl).trans rfl) : Pc1 0 4 = (P 0 4)); have q3 := b0_4 hB; have q4 := (((hFc1.1 5 rfl).trans rfl) : Pc1 0 5 = (P 0 5)); have q5 := b0_5 hB; (clear p_lx p_kw gc1_pe k3 gc4_w hw7 k8 hown k12 k36 k37; omega)) (by have q0 := (((hFc1.1 4 rfl).trans rfl) : Pc1 0 4 = (P 0 4)); have q1 := b0_4 hB; (clear p_lx p_kw gc1_pe k3 gc4_w hw7 k8 hown k12 k36 k37; omega)) (by have q0 := b0_8 hBc1; (clear p_lx p_kw gc1_pe k3 gc4_w hw7 k8 hown k12 k36 k37; omega)) (by first | (left; have q8 := (rfl : Pc1 0 8 = (Pc1 0 8)); (clear p_lx p_kw gc1_pe k3 gc4_w hw7 k8 hown k12 k36 k37; omega)) | (have q2 := (((congrFun (hFc1.2 2 rfl rfl) _).trans rfl) : Pc1 2 (P 0 37) = (P 2 (P 0 37))); have q3 := (((congrFun (hFc1.2 3 rfl rfl) _).trans rfl) : Pc1 3 (4 * P 0 37 + 4) = (P 3 (4 * P 0 37 + 4))); (first | (clear p_lx p_kw gc1_pe k3 gc4_w hw7 k8 hown k12 k36 k37; omega) | (clear p_lx p_kw gc1_pe k3 gc4_w hw7 k8 hown k12 k36; omega) | (clear p_lx p_kw gc1_pe k3 gc4_w hw7 k8 hown k12 k37; omega) | (clear p_lx p_kw gc1_pe k3 gc4_w hw7 k8 hown k36 k37; omega) | (clear p_lx p_kw gc1_pe k3 gc4_w hw7 k8 k12 k36 k37; omega) | (clear p_lx p_kw gc1_pe k3 gc4_w hw7 hown k12 k36 k37; omega) | (clear p_lx p_kw gc1_pe k3 gc4_w k8 hown k12 k36 k37; omega) | (clear p_lx p_kw gc1_pe k3 hw7 k8 hown k12 k36 k37; omega) | (clear p_lx p_kw gc1_pe gc4_w hw7 k8 hown k12 k36 k37; omega) | (clear p_lx p_kw gc1_pe k3 gc4_w hw7 k8 hown k12; omega) | (clear k8 hw7 gc4_w k3 gc1_pe p_kw p_lx; omega) | omega))) (by have q0 := b0_8 hBc1; have q1 := b0_9 hBc1; (clear p_lx p_kw gc1_pe k3 gc4_w hw7 k8 hown k12 k36 k37; omega)) vc1_FP)
      · have k11n : 1 ≤ rc10 := by (clear p_lx p_kw gc1_pe k3 gc4_w hw7 k8 hown; omega)
        clear k11
        have r_hown := (hown.resolve_right (by (clear p_lx p_kw gc1_pe k3 gc4_w hw7 k8 hown; omega)))
        have r_hw7 := (hw7.resolve_right (by (clear p_lx p_kw gc1_pe k3 gc4_w hw7 k8 hown; omega)))
        have r_gc4_w := (gc4_w.resolve_left (by (clear p_lx p_kw gc1_pe k3 gc4_w hw7 k8 hown; omega)))
        skip
        refine g_iload_n dX12_known_40 rfl ?_
        refine g_if_ne (tgt := 53) dX12_known_41 (by decide) ⟨by (clear p_lx p_kw gc1_pe k3 gc4_w hw7 k8 hown; omega), by (clear p_lx p_kw gc1_pe k3 gc4_w hw7 k8 hown; omega)⟩ (fun k38 => ?_) (fun k38 => ?_)
        · have k38n : 1 ≤ rc4 := by (clear p_lx p_kw gc1_pe k3 gc4_w hw7 k8 hown; omega)
          clear k38
          skip
          skip
          skip
          skip
          refine g_aload_n dX12_known_53 rfl ?_
          refine m_g8 (z := (Pc1 0 8)) rfl dX12_known_54 rfl ?_
          refine g_if_gt (tgt := 64) dX12_known_57 (by decide) ⟨by have q0 := b0_8 hBc1; (clear p_lx p_kw gc1_pe k3 gc4_w hw7 k8 hown; omega), by have q0 := b0_8 hBc1; (clear p_lx p_kw gc1_pe k3 gc4_w hw7 k8 hown; omega)⟩ (fun k39 => by exfalso; have q0 := b0_8 hBc1; (clear p_lx p_kw gc1_pe gc4_w hw7 k8 hown; omega)) (fun k39 => ?_)
          skip
          skip
          skip
          have r_gc1_pe := (gc1_pe.resolve_right (by (clear p_lx p_kw gc1_pe k3 gc4_w hw7 k8 hown; omega)))
          refine g_iload_n dX12_known_60 rfl ?_
          refine g_if_eq (tgt := 68) dX12_known_61 (by decide) ⟨by (clear p_lx p_kw gc1_pe k3 gc4_w hw7 k8 hown; omega), by (clear p_lx p_kw gc1_pe k3 gc4_w hw7 k8 hown; omega)⟩ (fun k40 => by exfalso; (clear p_lx p_kw gc1_pe k3 gc4_w hw7 k8 hown; omega)) (fun k40 => ?_)
          skip
          skip
          skip
          skip
          refine g_iconst dX12_known_64 ?_
          refine g_goto (tgt := 76) dX12_known_65 (by decide) ?_
          refine g_istore_n (l1 := [(3, vI 4), (2, vI rc4), (0, vR 0), (1, vI a1)]) dX12_known_76 (by decide) rfl ?_
          refine g_aload_n dX12_known_77 rfl ?_
          refine m_g8 (z := (Pc1 0 8)) rfl dX12_known_78 rfl ?_
          refine g_if_ne (tgt := 123) dX12_known_81 (by decide) ⟨by have q0 := b0_8 hBc1; (clear p_lx p_kw gc1_pe k3 gc4_w hw7 k8 hown k40; omega), by have q0 := b0_8 hBc1; (clear p_lx p_kw gc1_pe k3 gc4_w hw7 k8 hown k40; omega)⟩ (fun k41 => by exfalso; have q0 := b0_8 hBc1; (clear p_lx p_kw gc1_pe k3 gc4_w hw7 k8 hown k40; omega)) (fun k41 => ?_)
          skip
          skip
          skip
          skip
          refine g_iload_n dX12_known_84 rfl ?_
          refine g_if_ne (tgt := 123) dX12_known_85 (by decide) ⟨by (clear p_lx p_kw gc1_pe k3 gc4_w hw7 k8 hown k40 k41; omega), by (clear p_lx p_kw gc1_pe k3 gc4_w hw7 k8 hown k40 k41; omega)⟩ (fun k42 => ?_) (fun k42 => by exfalso; (clear p_lx p_kw gc1_pe k3 gc4_w hw7 k8 hown k40 k41; omega))
          skip
          skip
          skip
          skip
          refine g_aload_n dX12_known_123 rfl ?_
          refine m_g8 (z := (Pc1 0 8)) rfl dX12_known_124 rfl ?_
          refine g_if_le (tgt := 134) dX12_known_127 (by decide) ⟨by have q0 := b0_8 hBc1; (clear p_lx p_kw gc1_pe k3 gc4_w hw7 k8 hown k40 k41 k42; omega), by have q0 := b0_8 hBc1; (clear p_lx p_kw gc1_pe k3 gc4_w hw7 k8 hown k40 k41 k42; omega)⟩ (fun k43 => ?_) (fun k43 => by exfalso; have q0 := b0_8 hBc1; (clear p_lx p_kw gc1_pe k3 gc4_w hw7 k8 hown k40 k41 k42; omega))
          skip
          skip
          skip
          skip
          refine g_iload_n dX12_known_134 rfl ?_
          exact g_retI dX12_known_135 rfl (hQ 4 (by decide) _ hBc1 (FrM.c FrM.rf hFc1 rfl) (by have q0 := (((hFc1.1 3 rfl).trans rfl) : Pc1 0 3 = (P 0 3)); have q1 := b0_3 hB; have q2 := (((hFc1.1 4 rfl).trans rfl) : Pc1 0 4 = (P 0 4)); have q3 := b0_4 hB; have q4 := (((hFc1.1 5 rfl).trans rfl) : Pc1 0 5 = (P 0 5)); have q5 := b0_5 hB; (omega)) (by have q0 := (((hFc1.1 4 rfl).trans rfl) : Pc1 0 4 = (P 0 4)); have q1 := b0_4 hB; (clear p_lx p_kw gc1_pe k3 gc4_w hw7 k8 hown k40 k41 k42; omega)) (by have q0 := b0_8 hBc1; (clear p_lx p_kw gc1_pe k3 gc4_w hw7 k8 hown k40 k41 k42; omega)) (by first | (left; have q8 := (rfl : Pc1 0 8 = (Pc1 0 8)); (first | (clear p_lx p_kw gc1_pe k3 gc4_w hw7 k8 hown k40 k41 k42; omega) | (clear p_lx p_kw gc1_pe k3 gc4_w hw7 k8 hown k40 k41; omega) | (clear p_lx p_kw gc1_pe k3 gc4_w hw7 k8 hown k40 k42; omega) | (clear p_lx p_kw gc1_pe k3 gc4_w hw7 k8 hown k41 k42; omega) | (clear p_lx p_kw gc1_pe k3 gc4_w hw7 k8 k40 k41 k42; omega) | (clear p_lx p_kw gc1_pe k3 gc4_w hw7 hown k40 k41 k42; omega) | (clear p_lx p_kw gc1_pe k3 gc4_w k8 hown k40 k41 k42; omega) | (clear p_lx p_kw gc1_pe k3 hw7 k8 hown k40 k41 k42; omega) | (clear p_lx p_kw gc1_pe gc4_w hw7 k8 hown k40 k41 k42; omega) | (clear p_lx p_kw gc1_pe k3 gc4_w hw7 k8 hown k40; omega) | (clear k8 hw7 gc4_w k3 gc1_pe p_kw p_lx; omega) | omega)) | (have q2 := (((congrFun (hFc1.2 2 rfl rfl) _).trans rfl) : Pc1 2 (P 0 37) = (P 2 (P 0 37))); have q3 := (((congrFun (hFc1.2 3 rfl rfl) _).trans rfl) : Pc1 3 (4 * P 0 37 + 4) = (P 3 (4 * P 0 37 + 4))); (clear p_lx p_kw gc1_pe k3 gc4_w hw7 k8 hown k40 k41 k42; omega))) (by have q0 := b0_8 hBc1; have q1 := b0_9 hBc1; (clear p_lx p_kw gc1_pe k3 gc4_w hw7 k8 hown k40 k41 k42; omega)) vc1_FP)
        · skip
          skip
          skip
          have r_gc1_pe := (gc1_pe.resolve_right (by (clear p_lx p_kw gc1_pe k3 gc4_w hw7 k8 hown; omega)))
          exfalso; (clear p_lx p_kw gc1_pe k3 gc4_w hw7 k8 hown; omega)
  · skip
    refine g_iconst dX12_known_11 ?_
    exact g_retI dX12_known_12 rfl (hQ 0 (by decide) _ hBc1 (FrM.c FrM.rf hFc1 rfl) (by have q0 := (((hFc1.1 3 rfl).trans rfl) : Pc1 0 3 = (P 0 3)); have q1 := b0_3 hB; have q2 := (((hFc1.1 4 rfl).trans rfl) : Pc1 0 4 = (P 0 4)); have q3 := b0_4 hB; have q4 := (((hFc1.1 5 rfl).trans rfl) : Pc1 0 5 = (P 0 5)); have q5 := b0_5 hB; (clear p_kw ho7 gc1_pe k3; omega)) (by have q0 := (((hFc1.1 4 rfl).trans rfl) : Pc1 0 4 = (P 0 4)); have q1 := b0_4 hB; (clear p_lx p_kw ho7 gc1_pe k3; omega)) (by have q0 := b0_8 hBc1; (clear p_lx p_kw ho7 gc1_pe k3; omega)) (by first | (left; have q8 := (rfl : Pc1 0 8 = (Pc1 0 8)); (clear p_lx p_kw ho7 gc1_pe; omega)) | (have q2 := (((congrFun (hFc1.2 2 rfl rfl) _).trans rfl) : Pc1 2 (P 0 37) = (P 2 (P 0 37))); have q3 := (((congrFun (hFc1.2 3 rfl rfl) _).trans rfl) : Pc1 3 (4 * P 0 37 + 0) = (P 3 (4 * P 0 37 + 0))); (first | (clear p_lx p_kw ho7 gc1_pe k3; omega) | (clear p_lx p_kw ho7 gc1_pe; omega) | (clear p_lx p_kw ho7 k3; omega) | (clear p_lx p_kw gc1_pe k3; omega) | (clear p_lx ho7 gc1_pe k3; omega) | (clear p_kw ho7 gc1_pe k3; omega) | (clear p_lx p_kw ho7; omega) | (clear p_lx; omega) | omega))) (by have q0 := b0_8 hBc1; have q1 := b0_9 hBc1; (clear p_lx p_kw ho7 gc1_pe; omega)) vc1_FP)
