section
/-! Contracts of the reference: m6. -/
set_option maxRecDepth 100000 in
set_option maxHeartbeats 4000000 in
theorem m_X12_nextBranch (G : GT) (P : PH) (a1 : Int) (h_a1 : 0 ≤ a1 ∧ a1 ≤ 39) (hB : BdM P) (p_o : 0 ≤ P 55 a1 ∧ P 55 a1 ≤ 2009) (v_MV : MV P) (Q : Option PV → PH → Prop) (hQ : ∀ (r : Int) (_ : (-1) ≤ r ∧ r ≤ 65535) (P1 : PH) (_ : BdM P1) (_ : FrM ([78], [49, 50, 55]) P P1) (_ : r = -1 ∨ wgt r + 1 ≤ wgt (P 54 a1)) (_ : r = -1 ∨ (0 ≤ P1 55 a1 ∧ P1 55 a1 ≤ 2009)) (_ : ∀ j : Int, j ≠ a1 → P1 55 j = P 55 j) (_ : MV P1), Q (some (vI r)) P1) : Ct WSM G 5 iX12_nextBranch [vR 0, vI a1] P Q := by
  refine Ct.of (by decide) (l0 := [(0, vR 0), (1, vI a1)]) rfl (Nat.le_of_ble_eq_true rfl) ?_
  refine g_aload_n dX12_nextBranch_0 rfl ?_
  refine m_g83 rfl dX12_nextBranch_1 ?_
  refine g_iload_n dX12_nextBranch_4 rfl ?_
  refine m_l54 (z := (P 54 a1)) dX12_nextBranch_5 ⟨by omega, by omega⟩ rfl ?_
  refine g_istore_n (l1 := [(2, vI (P 54 a1)), (0, vR 0), (1, vI a1)]) dX12_nextBranch_6 (by decide) rfl ?_
  refine g_aload_n dX12_nextBranch_7 rfl ?_
  refine g_iload_n dX12_nextBranch_8 rfl ?_
  have f1 := bl_54 (k := a1) hB
  refine g_vI (av := [vI (P 54 a1)]) (o := 0) (st := []) (m_X12_asksFor G P (P 54 a1) ⟨by have q0 := bl_54 (k := a1) hB; omega, by have q0 := bl_54 (k := a1) hB; omega⟩ hB v_MV _ (fun rc2 hc2 Pc2 hBc2 hFc2 gc2_b vc2_MV => ⟨rc2, rfl, ?_⟩)) cf_X12_asksFor t_2020 rfl (by decide) rfl rfl rfl (Nat.le_of_ble_eq_true rfl) (by decide) rfl dX12_nextBranch_9
  refine g_istore_n (l1 := [(3, vI rc2), (2, vI (P 54 a1)), (0, vR 0), (1, vI a1)]) dX12_nextBranch_12 (by decide) rfl ?_
  refine g_iload_n dX12_nextBranch_13 rfl ?_
  refine g_iconst dX12_nextBranch_14 ?_
  refine g_icmp_ne (tgt := 55) dX12_nextBranch_15 (by decide) ⟨by omega, by omega⟩ (by decide) (fun k3 => ?_) (fun k3 => ?_)
  · have L55_3 : ∀ (n55_3 : Nat) (H55_3 : PH) (hB55_3 : BdM H55_3) (hE55_3 : FrM ([], [55]) Pc2 H55_3) (i55_0_3 : 0 ≤ H55_3 55 a1 ∧ H55_3 55 a1 ≤ 2009) (i55_1_3 : ∀ j : Int, j ≠ a1 → H55_3 55 j = P 55 j) (hm55_3 : (2010 - H55_3 55 a1 : Int).toNat < n55_3), Go WSM G 5 iX12_nextBranch 55 [(0, vR 0), (1, vI a1), (2, vI (P 54 a1)), (3, vI rc2)] [] H55_3 Q := by
      intro n55_3
      induction n55_3 with
      | zero => intro H55_3 hB55_3 hE55_3 i55_0_3 i55_1_3 hm55_3; exact absurd hm55_3 (Nat.not_lt_zero _)
      | succ n55_3 ih55_3 =>
      intro H55_3 hB55_3 hE55_3 i55_0_3 i55_1_3 hm55_3
      refine g_aload_n dX12_nextBranch_55 rfl ?_
      refine m_g84 rfl dX12_nextBranch_56 ?_
      refine g_iload_n dX12_nextBranch_59 rfl ?_
      refine m_l55 (z := (H55_3 55 a1)) dX12_nextBranch_60 ⟨by omega, by omega⟩ rfl ?_
      refine g_aload_n dX12_nextBranch_61 rfl ?_
      refine m_g50 rfl dX12_nextBranch_62 ?_
      refine g_iload_n dX12_nextBranch_65 rfl ?_
      refine m_l33 (z := (P 33 rc2)) dX12_nextBranch_66 ⟨by omega, by omega⟩ ((congrFun (hE55_3.2 33 rfl rfl) _).trans ((congrFun (hFc2.2 33 rfl rfl) _).trans rfl)) ?_
      have f41 := bl_55 (k := a1) hB55_3
      have f42 := bl_33 (k := rc2) hB
      refine g_icmp_ge (tgt := 125) dX12_nextBranch_67 (by decide) ⟨by have q0 := bl_55 (k := a1) hB55_3; omega, by have q0 := bl_55 (k := a1) hB55_3; omega⟩ ⟨by have q0 := bl_33 (k := rc2) hB; omega, by have q0 := bl_33 (k := rc2) hB; omega⟩ (fun k43 => ?_) (fun k43 => ?_)
      · refine g_iconst dX12_nextBranch_125 ?_
        exact g_retI dX12_nextBranch_126 rfl (hQ (-1) (by decide) _ hB55_3 (FrM.c (FrM.c FrM.rf hFc2 rfl) hE55_3 rfl) (by have q0 := (((congrFun (hE55_3.2 54 rfl rfl) _).trans ((congrFun (hFc2.2 54 rfl rfl) _).trans rfl)) : H55_3 54 a1 = (P 54 a1)); have q1 := bl_54 (k := a1) hB; omega) (by have q0 := bl_55 (k := a1) hB55_3; omega) (fun j hj => (i55_1_3 j hj)) (MV.fr (F := ([], [55])) vc2_MV (FrM.c FrM.rf hE55_3 rfl) rfl))
      · refine g_aload_n dX12_nextBranch_70 rfl ?_
        refine m_g84 rfl dX12_nextBranch_71 ?_
        refine g_iload_n dX12_nextBranch_74 rfl ?_
        refine m_l55 (z := (H55_3 55 a1)) dX12_nextBranch_75 ⟨by omega, by omega⟩ rfl ?_
        refine g_istore (l1 := [(4, vI (H55_3 55 a1)), (0, vR 0), (1, vI a1), (2, vI (P 54 a1)), (3, vI rc2)]) dX12_nextBranch_76 (by decide) rfl ?_
        refine g_aload_n dX12_nextBranch_78 rfl ?_
        refine m_g84 rfl dX12_nextBranch_79 ?_
        refine g_iload_n dX12_nextBranch_82 rfl ?_
        refine g_dup2 dX12_nextBranch_83 rfl rfl ?_
        refine m_l55 (z := (H55_3 55 a1)) dX12_nextBranch_84 ⟨by omega, by omega⟩ rfl ?_
        refine g_iconst dX12_nextBranch_85 ?_
        refine g_iadd dX12_nextBranch_86 ?_
        refine m_s55 dX12_nextBranch_87 ⟨by omega, by omega⟩ ?_
        have hB44 := ba_55 (z := ((H55_3 55 a1) + 1)) (k := a1) hB55_3 ⟨by have q0 := bl_55 (k := a1) hB55_3; omega, by have q0 := bl_55 (k := a1) hB55_3; omega⟩
        refine g_aload_n dX12_nextBranch_88 rfl ?_
        refine g_iload_n dX12_nextBranch_89 rfl ?_
        refine g_sI (av := [vI (P 54 a1)]) (st := [vR 0]) (m_X12_armsIn G (up H55_3 55 a1 ((H55_3 55 a1) + 1)) (P 54 a1) ⟨by have q0 := bl_54 (k := a1) hB; omega, by have q0 := bl_54 (k := a1) hB; omega⟩ hB44  _ (fun rc45 hc45 gc45_v => ⟨rc45, rfl, ?_⟩)) cf_X12_armsIn t_2017 rfl (Nat.le_of_ble_eq_true rfl) (by decide) rfl dX12_nextBranch_90
        refine g_iload_n dX12_nextBranch_93 rfl ?_
        refine g_iload dX12_nextBranch_94 rfl ?_
        refine g_vI (av := [vI rc45, vI rc2, vI (H55_3 55 a1)]) (o := 0) (st := []) (m_X12_isNewSet G (up H55_3 55 a1 ((H55_3 55 a1) + 1)) rc45 rc2 (H55_3 55 a1) ⟨by omega, by omega⟩ ⟨by omega, by omega⟩ ⟨by have q0 := bl_55 (k := a1) hB55_3; omega, by have q0 := bl_55 (k := a1) hB55_3; omega⟩ hB44  _ (fun rc46 hc46 => ⟨rc46, rfl, ?_⟩)) cf_X12_isNewSet t_2081 rfl (by decide) rfl rfl rfl (Nat.le_of_ble_eq_true rfl) (by decide) rfl dX12_nextBranch_96
        refine g_if_eq (tgt := 122) dX12_nextBranch_99 (by decide) ⟨by omega, by omega⟩ (fun k47 => ?_) (fun k47 => ?_)
        · refine g_goto (tgt := 55) dX12_nextBranch_122 (by decide) ?_
          refine g_forget (l1 := [(0, vR 0), (1, vI a1), (2, vI (P 54 a1)), (3, vI rc2)]) (by intro q hq; simp only [List.mem_cons, List.not_mem_nil, or_false] at hq ⊢; rcases hq with rfl | rfl | rfl | rfl <;> simp) ?_
          exact ih55_3 _ hB44 (FrM.a (FrM.c FrM.rf hE55_3 rfl) rfl rfl) (by have q0 := (up_same : (up H55_3 55 a1 ((H55_3 55 a1) + 1)) 55 a1 = ((H55_3 55 a1) + 1)); have q1 := bl_55 (k := a1) hB55_3; omega) (fun j hj => ((up_k hj).trans (i55_1_3 j hj))) (by have q0 := (up_same : (up H55_3 55 a1 ((H55_3 55 a1) + 1)) 55 a1 = ((H55_3 55 a1) + 1)); have q1 := bl_55 (k := a1) hB55_3; omega)
        · refine g_aload_n dX12_nextBranch_102 rfl ?_
          refine g_iload_n dX12_nextBranch_103 rfl ?_
          refine g_iload_n dX12_nextBranch_104 rfl ?_
          refine g_aload_n dX12_nextBranch_105 rfl ?_
          refine m_g63 rfl dX12_nextBranch_106 ?_
          refine g_sipush dX12_nextBranch_109 (by decide) ?_
          refine g_iload_n dX12_nextBranch_112 rfl ?_
          refine g_imul dX12_nextBranch_113 ?_
          refine g_iload dX12_nextBranch_114 rfl ?_
          refine g_iadd dX12_nextBranch_116 ?_
          refine m_l41 (z := (P 41 ((2010 * rc2) + (H55_3 55 a1)))) dX12_nextBranch_117 ⟨by have q0 := bl_55 (k := a1) hB55_3; omega, by have q0 := bl_55 (k := a1) hB55_3; omega⟩ ((up_o (by decide)).trans ((congrFun (hE55_3.2 41 rfl rfl) _).trans ((congrFun (hFc2.2 41 rfl rfl) _).trans rfl))) ?_
          have f48 := bl_41 (k := ((2010 * rc2) + (H55_3 55 a1))) hB
          refine g_vI (av := [vI (P 54 a1), vI rc2, vI (P 41 ((2010 * rc2) + (H55_3 55 a1)))]) (o := 0) (st := []) (m_X12_branchOf G (up H55_3 55 a1 ((H55_3 55 a1) + 1)) (P 54 a1) rc2 (P 41 ((2010 * rc2) + (H55_3 55 a1))) ⟨by have q0 := bl_54 (k := a1) hB; omega, by have q0 := bl_54 (k := a1) hB; omega⟩ ⟨by omega, by omega⟩ ⟨by have q0 := bl_41 (k := ((2010 * rc2) + (H55_3 55 a1))) hB; omega, by have q0 := bl_41 (k := ((2010 * rc2) + (H55_3 55 a1))) hB; omega⟩ hB44  _ (fun rc49 hc49 gc49_lt gc49_le gc49_wl => ⟨rc49, rfl, ?_⟩)) cf_X12_branchOf t_2037 rfl (by decide) rfl rfl rfl (Nat.le_of_ble_eq_true rfl) (by decide) rfl dX12_nextBranch_118
          exact g_retI dX12_nextBranch_121 rfl (hQ rc49 ⟨by omega, by omega⟩ _ hB44 (FrM.a (FrM.c (FrM.c FrM.rf hFc2 rfl) hE55_3 rfl) rfl rfl) (by have q0 := (((up_o (by decide)).trans ((congrFun (hE55_3.2 54 rfl rfl) _).trans ((congrFun (hFc2.2 54 rfl rfl) _).trans rfl))) : (up H55_3 55 a1 ((H55_3 55 a1) + 1)) 54 a1 = (P 54 a1)); have q1 := bl_54 (k := a1) hB; omega) (by have q0 := (up_same : (up H55_3 55 a1 ((H55_3 55 a1) + 1)) 55 a1 = ((H55_3 55 a1) + 1)); have q1 := bl_55 (k := a1) hB55_3; omega) (fun j hj => ((up_k hj).trans (i55_1_3 j hj))) (MV.fr (F := ([], [55])) vc2_MV (FrM.a (FrM.c FrM.rf hE55_3 rfl) rfl rfl) rfl))
    refine g_forget (l1 := [(0, vR 0), (1, vI a1), (2, vI (P 54 a1)), (3, vI rc2)]) (by intro q hq; simp only [List.mem_cons, List.not_mem_nil, or_false] at hq ⊢; rcases hq with rfl | rfl | rfl | rfl <;> simp) ?_
    exact L55_3 _ _ hBc2 FrM.rf (by have q0 := (((congrFun (hFc2.2 55 rfl rfl) _).trans rfl) : Pc2 55 a1 = (P 55 a1)); have q1 := bl_55 (k := a1) hB; omega) (fun j hj => ((congrFun (hFc2.2 55 rfl rfl) _).trans rfl)) (Nat.lt_succ_self _)
  · refine g_aload_n dX12_nextBranch_18 rfl ?_
    refine m_g84 rfl dX12_nextBranch_19 ?_
    refine g_iload_n dX12_nextBranch_22 rfl ?_
    refine g_dup2 dX12_nextBranch_23 rfl rfl ?_
    refine m_l55 (z := (P 55 a1)) dX12_nextBranch_24 ⟨by omega, by omega⟩ ((congrFun (hFc2.2 55 rfl rfl) _).trans rfl) ?_
    refine g_iconst dX12_nextBranch_25 ?_
    refine g_iadd dX12_nextBranch_26 ?_
    refine g_norm (fun r50 h_r50 e_r50 => ?_)
    refine m_s55 dX12_nextBranch_27 ⟨by omega, by omega⟩ ?_
    have hB51 := ba_55 (z := r50) (k := a1) hBc2 ⟨by omega, by omega⟩
    refine g_aload_n dX12_nextBranch_28 rfl ?_
    refine m_g84 rfl dX12_nextBranch_29 ?_
    refine g_iload_n dX12_nextBranch_32 rfl ?_
    refine m_l55 (z := r50) dX12_nextBranch_33 ⟨by omega, by omega⟩ up_same ?_
    refine g_iconst dX12_nextBranch_34 ?_
    refine g_icmp_ne (tgt := 53) dX12_nextBranch_35 (by decide) ⟨by omega, by omega⟩ (by decide) (fun k52 => ?_) (fun k52 => ?_)
    · refine g_iconst dX12_nextBranch_53 ?_
      exact g_retI dX12_nextBranch_54 rfl (hQ (-1) (by decide) _ hB51 (FrM.a (FrM.c FrM.rf hFc2 rfl) rfl rfl) (by have q0 := (((up_o (by decide)).trans ((congrFun (hFc2.2 54 rfl rfl) _).trans rfl)) : (up Pc2 55 a1 r50) 54 a1 = (P 54 a1)); have q1 := bl_54 (k := a1) hB; omega) (by have q0 := (up_same : (up Pc2 55 a1 r50) 55 a1 = r50); omega) (fun j hj => ((up_k hj).trans ((congrFun (hFc2.2 55 rfl rfl) _).trans rfl))) (MV.fr (F := ([], [55])) vc2_MV (FrM.a FrM.rf rfl rfl) rfl))
    · refine g_aload_n dX12_nextBranch_38 rfl ?_
      refine g_iload_n dX12_nextBranch_39 rfl ?_
      refine g_vI (av := [vI (P 54 a1)]) (o := 0) (st := []) (m_X12_isDoor G (up Pc2 55 a1 r50) (P 54 a1) ⟨by have q0 := bl_54 (k := a1) hB; omega, by have q0 := bl_54 (k := a1) hB; omega⟩ hB51 (MV.fr (F := ([], [55])) vc2_MV (FrM.a FrM.rf rfl rfl) rfl) _ (fun rc53 hc53 Pc53 hBc53 hFc53 gc53_d vc53_MV => ⟨rc53, rfl, ?_⟩)) cf_X12_isDoor t_2049 rfl (by decide) rfl rfl rfl (Nat.le_of_ble_eq_true rfl) (by decide) rfl dX12_nextBranch_40
      refine g_if_eq (tgt := 53) dX12_nextBranch_43 (by decide) ⟨by omega, by omega⟩ (fun k54 => ?_) (fun k54 => ?_)
      · refine g_iconst dX12_nextBranch_53 ?_
        exact g_retI dX12_nextBranch_54 rfl (hQ (-1) (by decide) _ hBc53 (FrM.c (FrM.a (FrM.c FrM.rf hFc2 rfl) rfl rfl) hFc53 rfl) (by have q0 := (((congrFun (hFc53.2 54 rfl rfl) _).trans ((up_o (by decide)).trans ((congrFun (hFc2.2 54 rfl rfl) _).trans rfl))) : Pc53 54 a1 = (P 54 a1)); have q1 := bl_54 (k := a1) hB; omega) (by have q0 := (((congrFun (hFc53.2 55 rfl rfl) _).trans up_same) : Pc53 55 a1 = r50); omega) (fun j hj => ((congrFun (hFc53.2 55 rfl rfl) _).trans ((up_k hj).trans ((congrFun (hFc2.2 55 rfl rfl) _).trans rfl)))) vc53_MV)
      · refine g_iload_n dX12_nextBranch_46 rfl ?_
        refine g_sI (av := [vI (P 54 a1)]) (st := []) (m_X12_throughDoor G Pc53 (P 54 a1) ⟨by have q0 := bl_54 (k := a1) hB; omega, by have q0 := bl_54 (k := a1) hB; omega⟩ hBc53  _ (fun rc55 hc55 gc55_lt gc55_le gc55_wl => ⟨rc55, rfl, ?_⟩)) cf_X12_throughDoor t_2034 rfl (Nat.le_of_ble_eq_true rfl) (by decide) rfl dX12_nextBranch_47
        refine g_goto (tgt := 54) dX12_nextBranch_50 (by decide) ?_
        exact g_retI dX12_nextBranch_54 rfl (hQ rc55 ⟨by omega, by omega⟩ _ hBc53 (FrM.c (FrM.a (FrM.c FrM.rf hFc2 rfl) rfl rfl) hFc53 rfl) (by have q0 := (((congrFun (hFc53.2 54 rfl rfl) _).trans ((up_o (by decide)).trans ((congrFun (hFc2.2 54 rfl rfl) _).trans rfl))) : Pc53 54 a1 = (P 54 a1)); have q1 := bl_54 (k := a1) hB; omega) (by have q0 := (((congrFun (hFc53.2 55 rfl rfl) _).trans up_same) : Pc53 55 a1 = r50); omega) (fun j hj => ((congrFun (hFc53.2 55 rfl rfl) _).trans ((up_k hj).trans ((congrFun (hFc2.2 55 rfl rfl) _).trans rfl)))) vc53_MV)
set_option maxRecDepth 100000 in
set_option maxHeartbeats 4000000 in
theorem m_X12_builds (G : GT) (P : PH) (hB : BdM P) (p_b : 1 ≤ P 16 (P 0 13) ∧ P 16 (P 0 13) ≤ 999) (v_MV : MV P) (Q : Option PV → PH → Prop) (hQ : ∀ (P1 : PH) (_ : BdM P1) (_ : FrM ([78, 87, 88, 89, 90], [49, 50, 54, 55, 56, 57]) P P1) (_ : MV P1), Q none P1) : Ct WSM G 6 iX12_builds [vR 0] P Q := by
  refine Ct.of (by decide) (l0 := [(0, vR 0)]) rfl (Nat.le_of_ble_eq_true rfl) ?_
  refine g_aload_n dX12_builds_0 rfl ?_
  refine g_iconst dX12_builds_1 ?_
  refine m_p87 rfl dX12_builds_2 ?_
  have hB1 := bs_87 (z := 0) hB (by decide)
  refine g_aload_n dX12_builds_5 rfl ?_
  refine g_iconst dX12_builds_6 ?_
  refine m_p88 rfl dX12_builds_7 ?_
  have hB2 := bs_88 (z := 0) hB1 (by decide)
  refine g_aload_n dX12_builds_10 rfl ?_
  refine g_iconst dX12_builds_11 ?_
  refine m_p89 rfl dX12_builds_12 ?_
  have hB3 := bs_89 (z := 0) hB2 (by decide)
  refine g_aload_n dX12_builds_15 rfl ?_
  refine g_iconst dX12_builds_16 ?_
  refine m_p90 rfl dX12_builds_17 (by decide) ?_
  have hB4 := bs_90 (z := 0) hB3 (by decide)
  refine g_iconst dX12_builds_20 ?_
  refine g_istore_n (l1 := [(1, vI 0), (0, vR 0)]) dX12_builds_21 (by decide) rfl ?_
  refine g_aload_n dX12_builds_22 rfl ?_
  refine g_iconst dX12_builds_23 ?_
  refine g_aload_n dX12_builds_24 rfl ?_
  refine g_vI (av := []) (o := 0) (st := [vI 0, vR 0]) (m_X12_root G (up (up (up (up P 0 87 0) 0 88 0) 0 89 0) 0 90 0)  hB4  _ (fun rc5 hc5 => ⟨rc5, rfl, ?_⟩)) cf_X12_root t_2010 rfl (by decide) rfl rfl rfl (Nat.le_of_ble_eq_true rfl) (by decide) rfl dX12_builds_25
  refine g_vV (av := [vI 0, vI rc5]) (o := 0) (st := []) (m_X12_opensScope G (up (up (up (up P 0 87 0) 0 88 0) 0 89 0) 0 90 0) 0 rc5 (by decide) ⟨by omega, by omega⟩ hB4 (by have q0 := (((up_k (by decide)).trans ((up_k (by decide)).trans ((up_k (by decide)).trans up_same))) : (up (up (up (up P 0 87 0) 0 88 0) 0 89 0) 0 90 0) 0 87 = 0); omega) _ (fun Pc6 hBc6 hFc6 gc6_s gc6_n gc6_l gc6_nq gc6_lq => ⟨rfl, ?_⟩)) cf_X12_opensScope t_2073 rfl (by decide) rfl rfl rfl (Nat.le_of_ble_eq_true rfl) (by decide) rfl dX12_builds_28
  have z7 : (up (up (up (up P 0 87 0) 0 88 0) 0 89 0) 0 90 0) 0 87 = 0 := ((up_k (by decide)).trans ((up_k (by decide)).trans ((up_k (by decide)).trans up_same)))
  have hn2 : ∀ j : Int, 0 ≤ j → j ≤ 0 → 0 ≤ Pc6 55 j ∧ Pc6 55 j ≤ 2009 := fun j h0 h1 => by rw [show j = 0 by omega, gc6_n]; exact ⟨by omega, by omega⟩
  have hn3 : ∀ j : Int, 0 ≤ j → j ≤ 0 → wgt (Pc6 54 j) + j ≤ 24 := fun j h0 h1 => by rw [show j = 0 by omega]; have q := wgt_b (Pc6 54 0); omega
  have L31_7 : ∀ (n31_7 : Nat) (x31_1_7 : Int) (h_x31_1_7 : (-1) ≤ x31_1_7 ∧ x31_1_7 ≤ 24) (H31_7 : PH) (hB31_7 : BdM H31_7) (hE31_7 : FrM ([78, 87, 88, 89, 90], [49, 50, 54, 55, 56, 57]) Pc6 H31_7) (i31_0_7 : H31_7 0 88 + x31_1_7 + 1 = H31_7 0 87) (i31_1_7 : H31_7 0 87 ≤ P 16 (P 0 13)) (i31_2_7 : ∀ j : Int, 0 ≤ j → j ≤ x31_1_7 → 0 ≤ H31_7 55 j ∧ H31_7 55 j ≤ 2009) (i31_3_7 : ∀ j : Int, 0 ≤ j → j ≤ x31_1_7 → wgt (H31_7 54 j) + j ≤ 24) (w31_MV_7 : MV H31_7) (w31_MVw_7 : MVw H31_7) (hm31_7 : (2 * (1000 - H31_7 0 87) + x31_1_7 + 1 : Int).toNat < n31_7), Go WSM G 6 iX12_builds 31 [(0, vR 0), (1, vI x31_1_7)] [] H31_7 Q := by
    intro n31_7
    induction n31_7 with
    | zero => intro x31_1_7 h_x31_1_7 H31_7 hB31_7 hE31_7 i31_0_7 i31_1_7 i31_2_7 i31_3_7 w31_MV_7 w31_MVw_7 hm31_7; exact absurd hm31_7 (Nat.not_lt_zero _)
    | succ n31_7 ih31_7 =>
    intro x31_1_7 h_x31_1_7 H31_7 hB31_7 hE31_7 i31_0_7 i31_1_7 i31_2_7 i31_3_7 w31_MV_7 w31_MVw_7 hm31_7
    refine g_iload_n dX12_builds_31 rfl ?_
    refine g_if_lt (tgt := 133) dX12_builds_32 (by decide) ⟨by omega, by omega⟩ (fun k100 => ?_) (fun k100 => ?_)
    · exact g_retV dX12_builds_133 rfl (hQ _ hB31_7 (FrM.c (FrM.c (FrM.s (FrM.s (FrM.s (FrM.s FrM.rf rfl) rfl) rfl) rfl) hFc6 rfl) hE31_7 rfl) w31_MV_7)
    · refine g_aload_n dX12_builds_35 rfl ?_
      refine m_g90 (z := (H31_7 0 90)) rfl dX12_builds_36 rfl ?_
      have f101 := b0_90 hB31_7
      refine g_if_eq (tgt := 46) dX12_builds_39 (by decide) ⟨by have q0 := b0_90 hB31_7; omega, by have q0 := b0_90 hB31_7; omega⟩ (fun k102 => ?_) (fun k102 => ?_)
      · refine g_aload_n dX12_builds_46 rfl ?_
        refine g_iload_n dX12_builds_47 rfl ?_
        refine g_vI (av := [vI x31_1_7]) (o := 0) (st := []) (m_X12_nextBranch G H31_7 x31_1_7 ⟨by omega, by omega⟩ hB31_7 (by have q0 := i31_2_7 x31_1_7 (by omega) (by omega); have q1 := bl_55 (k := x31_1_7) hB31_7; omega) w31_MV_7 _ (fun rc103 hc103 Pc103 hBc103 hFc103 gc103_w gc103_o gc103_q vc103_MV => ⟨rc103, rfl, ?_⟩)) cf_X12_nextBranch t_2077 rfl (by decide) rfl rfl rfl (Nat.le_of_ble_eq_true rfl) (by decide) rfl dX12_builds_48
        have hb9 : ∀ j : Int, j = x31_1_7 → rc103 = -1 ∨ (0 ≤ Pc103 55 j ∧ Pc103 55 j ≤ 2009) := fun j hj => by rw [hj]; exact gc103_o
        have hw8 := wgt_b rc103
        have hw9 : rc103 = -1 ∨ wgt rc103 + x31_1_7 + 1 ≤ 24 := by have q := i31_3_7 x31_1_7 (by omega) (by omega); omega
        have h29 : ∀ j : Int, 0 ≤ j → j ≤ x31_1_7 - 1 → 0 ≤ Pc103 55 j ∧ Pc103 55 j ≤ 2009 := fun j h0 h1 => by rw [gc103_q j (by omega)]; exact i31_2_7 j h0 (by omega)
        have h39 : ∀ j : Int, 0 ≤ j → j ≤ x31_1_7 → wgt (Pc103 54 j) + j ≤ 24 := fun j h0 h1 => by rw [congrFun (hFc103.2 54 rfl rfl) j]; exact i31_3_7 j h0 h1
        refine g_istore_n (l1 := [(2, vI rc103), (0, vR 0), (1, vI x31_1_7)]) dX12_builds_51 (by decide) rfl ?_
        refine g_iload_n dX12_builds_52 rfl ?_
        refine g_iconst dX12_builds_53 ?_
        refine g_icmp_eq (tgt := 78) dX12_builds_54 (by decide) ⟨by omega, by omega⟩ (by decide) (fun k104 => ?_) (fun k104 => ?_)
        · refine g_iload_n dX12_builds_78 rfl ?_
          refine g_iconst dX12_builds_79 ?_
          refine g_icmp_eq (tgt := 102) dX12_builds_80 (by decide) ⟨by omega, by omega⟩ (by decide) (fun k105 => ?_) (fun k105 => by exfalso; omega)
          refine g_aload_n dX12_builds_102 rfl ?_
          refine m_g86 rfl dX12_builds_103 ?_
          refine g_aload_n dX12_builds_106 rfl ?_
          refine m_g88 (z := (H31_7 0 88)) rfl dX12_builds_107 ((hFc103.1 88 rfl).trans rfl) ?_
          refine g_aload_n dX12_builds_110 rfl ?_
          refine m_g85 rfl dX12_builds_111 ?_
          refine g_iload_n dX12_builds_114 rfl ?_
          refine m_l56 (z := (H31_7 56 x31_1_7)) dX12_builds_115 ⟨by omega, by omega⟩ ((congrFun (hFc103.2 56 rfl rfl) _).trans rfl) ?_
          refine m_s57 dX12_builds_116 ⟨by have q0 := b0_88 hB31_7; omega, by have q0 := b0_88 hB31_7; omega⟩ ?_
          have hB106 := ba_57 (z := (H31_7 56 x31_1_7)) (k := (H31_7 0 88)) hBc103 ⟨by have q0 := bl_56 (k := x31_1_7) hB31_7; omega, by have q0 := bl_56 (k := x31_1_7) hB31_7; omega⟩
          refine g_aload_n dX12_builds_117 rfl ?_
          refine g_dup dX12_builds_118 rfl ?_
          refine m_g88 (z := (H31_7 0 88)) rfl dX12_builds_119 ((up_o (by decide)).trans ((hFc103.1 88 rfl).trans rfl)) ?_
          refine g_iconst dX12_builds_122 ?_
          refine g_iadd dX12_builds_123 ?_
          refine m_p88 rfl dX12_builds_124 ?_
          have hB107 := bs_88 (z := ((H31_7 0 88) + 1)) hB106 ⟨by have q0 := b0_88 hB31_7; omega, by have q0 := b0_88 hB31_7; omega⟩
          refine g_iinc (l1 := [(1, vI (x31_1_7 + (-1))), (2, vI rc103), (0, vR 0)]) dX12_builds_127 rfl (by decide) rfl ?_
          have hn2 : ∀ j : Int, 0 ≤ j → j ≤ (x31_1_7 + (-1)) → 0 ≤ (up (up Pc103 57 (H31_7 0 88) (H31_7 56 x31_1_7)) 0 88 ((H31_7 0 88) + 1)) 55 j ∧ (up (up Pc103 57 (H31_7 0 88) (H31_7 56 x31_1_7)) 0 88 ((H31_7 0 88) + 1)) 55 j ≤ 2009 := fun j h0 h1 => by
            rw [show (up (up Pc103 57 (H31_7 0 88) (H31_7 56 x31_1_7)) 0 88 ((H31_7 0 88) + 1)) 55 j = _ from ((up_o (by decide)).trans ((up_o (by decide)).trans rfl))]
            first | exact h29 j h0 (by omega) | exact i31_2_7 j h0 (by omega)
          have hn3 : ∀ j : Int, 0 ≤ j → j ≤ (x31_1_7 + (-1)) → wgt ((up (up Pc103 57 (H31_7 0 88) (H31_7 56 x31_1_7)) 0 88 ((H31_7 0 88) + 1)) 54 j) + j ≤ 24 := fun j h0 h1 => by
            rw [show (up (up Pc103 57 (H31_7 0 88) (H31_7 56 x31_1_7)) 0 88 ((H31_7 0 88) + 1)) 54 j = _ from ((up_o (by decide)).trans ((up_o (by decide)).trans ((congrFun (hFc103.2 54 rfl rfl) _).trans rfl)))]
            first | exact h39 j h0 (by omega) | exact i31_3_7 j h0 (by omega)
          refine g_goto (tgt := 31) dX12_builds_130 (by decide) ?_
          refine g_forget (l1 := [(0, vR 0), (1, vI (x31_1_7 + (-1)))]) (by intro q hq; simp only [List.mem_cons, List.not_mem_nil, or_false] at hq ⊢; rcases hq with rfl | rfl <;> simp) ?_
          exact ih31_7 (x31_1_7 + (-1)) ⟨by omega, by omega⟩ _ hB107 (FrM.s (FrM.a (FrM.c (FrM.c FrM.rf hE31_7 rfl) hFc103 rfl) rfl rfl) rfl) (by have q0 := (up_same : (up (up Pc103 57 (H31_7 0 88) (H31_7 56 x31_1_7)) 0 88 ((H31_7 0 88) + 1)) 0 88 = ((H31_7 0 88) + 1)); have q1 := b0_88 hB31_7; have q2 := (((up_k (by decide)).trans ((up_o (by decide)).trans ((hFc103.1 87 rfl).trans rfl))) : (up (up Pc103 57 (H31_7 0 88) (H31_7 56 x31_1_7)) 0 88 ((H31_7 0 88) + 1)) 0 87 = (H31_7 0 87)); have q3 := b0_87 hB31_7; omega) (by have q0 := (((up_k (by decide)).trans ((up_o (by decide)).trans ((hFc103.1 87 rfl).trans rfl))) : (up (up Pc103 57 (H31_7 0 88) (H31_7 56 x31_1_7)) 0 88 ((H31_7 0 88) + 1)) 0 87 = (H31_7 0 87)); have q1 := b0_87 hB31_7; omega) (hn2) (hn3) (MV.fr (F := ([88], [57])) vc103_MV (FrM.s (FrM.a FrM.rf rfl rfl) rfl) rfl) ((MV.fr (F := ([88], [57])) vc103_MV (FrM.s (FrM.a FrM.rf rfl rfl) rfl) rfl).w) (by have q0 := (((up_k (by decide)).trans ((up_o (by decide)).trans ((hFc103.1 87 rfl).trans rfl))) : (up (up Pc103 57 (H31_7 0 88) (H31_7 56 x31_1_7)) 0 88 ((H31_7 0 88) + 1)) 0 87 = (H31_7 0 87)); have q1 := b0_87 hB31_7; omega)
        · refine g_aload_n dX12_builds_57 rfl ?_
          refine m_g87 (z := (H31_7 0 87)) rfl dX12_builds_58 ((hFc103.1 87 rfl).trans rfl) ?_
          refine g_aload_n dX12_builds_61 rfl ?_
          refine m_g28 rfl dX12_builds_62 ?_
          refine g_aload_n dX12_builds_65 rfl ?_
          refine m_g13 (z := (P 0 13)) rfl dX12_builds_66 ((hFc103.1 13 rfl).trans ((hE31_7.1 13 rfl).trans ((hFc6.1 13 rfl).trans ((up_k (by decide)).trans ((up_k (by decide)).trans ((up_k (by decide)).trans ((up_k (by decide)).trans rfl))))))) ?_
          refine m_l16 (z := (P 16 (P 0 13))) dX12_builds_69 ⟨by have q0 := b0_13 hB; omega, by have q0 := b0_13 hB; omega⟩ ((congrFun (hFc103.2 16 rfl rfl) _).trans ((congrFun (hE31_7.2 16 rfl rfl) _).trans ((congrFun (hFc6.2 16 rfl rfl) _).trans ((up_o (by decide)).trans ((up_o (by decide)).trans ((up_o (by decide)).trans ((up_o (by decide)).trans rfl))))))) ?_
          have f108 := b0_87 hB31_7
          have f109 := bl_16 (k := (P 0 13)) hB
          refine g_icmp_ne (tgt := 78) dX12_builds_70 (by decide) ⟨by have q0 := b0_87 hB31_7; omega, by have q0 := b0_87 hB31_7; omega⟩ ⟨by have q0 := bl_16 (k := (P 0 13)) hB; omega, by have q0 := bl_16 (k := (P 0 13)) hB; omega⟩ (fun k110 => ?_) (fun k110 => ?_)
          · refine g_iload_n dX12_builds_78 rfl ?_
            refine g_iconst dX12_builds_79 ?_
            refine g_icmp_eq (tgt := 102) dX12_builds_80 (by decide) ⟨by omega, by omega⟩ (by decide) (fun k111 => by exfalso; omega) (fun k111 => ?_)
            refine g_aload_n dX12_builds_83 rfl ?_
            refine m_g90 (z := (H31_7 0 90)) rfl dX12_builds_84 ((hFc103.1 90 rfl).trans rfl) ?_
            refine g_if_ne (tgt := 102) dX12_builds_87 (by decide) ⟨by have q0 := b0_90 hB31_7; omega, by have q0 := b0_90 hB31_7; omega⟩ (fun k112 => by exfalso; have q0 := b0_90 hB31_7; omega) (fun k112 => ?_)
            refine g_iinc (l1 := [(1, vI (x31_1_7 + 1)), (2, vI rc103), (0, vR 0)]) dX12_builds_90 rfl (by decide) rfl ?_
            refine g_aload_n dX12_builds_93 rfl ?_
            refine g_iload_n dX12_builds_94 rfl ?_
            refine g_iload_n dX12_builds_95 rfl ?_
            refine g_vV (av := [vI (x31_1_7 + 1), vI rc103]) (o := 0) (st := []) (m_X12_opensScope G Pc103 (x31_1_7 + 1) rc103 ⟨by omega, by omega⟩ ⟨by omega, by omega⟩ hBc103 (by have q0 := (((hFc103.1 87 rfl).trans rfl) : Pc103 0 87 = (H31_7 0 87)); have q1 := b0_87 hB31_7; omega) _ (fun Pc113 hBc113 hFc113 gc113_s gc113_n gc113_l gc113_nq gc113_lq => ⟨rfl, ?_⟩)) cf_X12_opensScope t_2073 rfl (by decide) rfl rfl rfl (Nat.le_of_ble_eq_true rfl) (by decide) rfl dX12_builds_96
            have z114 : Pc103 0 87 = (H31_7 0 87) := ((hFc103.1 87 rfl).trans rfl)
            have hn2 : ∀ j : Int, 0 ≤ j → j ≤ (x31_1_7 + 1) → 0 ≤ Pc113 55 j ∧ Pc113 55 j ≤ 2009 := fun j h0 h1 => by
              rcases (show j = (x31_1_7 + 1) ∨ j = (x31_1_7 + 1) - 1 ∨ j ≤ (x31_1_7 + 1) - 2 by omega) with h | h | h
              · rw [h, gc113_n]; exact ⟨by omega, by omega⟩
              · rw [gc113_nq j (by omega)]; have q := hb9 j (by omega); omega
              · rw [gc113_nq j (by omega)]; exact h29 j h0 (by omega)
            have hn3 : ∀ j : Int, 0 ≤ j → j ≤ (x31_1_7 + 1) → wgt (Pc113 54 j) + j ≤ 24 := fun j h0 h1 => by
              rcases (show j = (x31_1_7 + 1) ∨ j ≤ (x31_1_7 + 1) - 1 by omega) with h | h
              · rw [h, gc113_l]; omega
              · rw [gc113_lq j (by omega)]; exact h39 j h0 (by omega)
            refine g_goto (tgt := 31) dX12_builds_99 (by decide) ?_
            refine g_forget (l1 := [(0, vR 0), (1, vI (x31_1_7 + 1))]) (by intro q hq; simp only [List.mem_cons, List.not_mem_nil, or_false] at hq ⊢; rcases hq with rfl | rfl <;> simp) ?_
            exact ih31_7 (x31_1_7 + 1) ⟨by omega, by omega⟩ _ hBc113 (FrM.c (FrM.c (FrM.c FrM.rf hE31_7 rfl) hFc103 rfl) hFc113 rfl) (by have q0 := (((hFc113.1 88 rfl).trans ((hFc103.1 88 rfl).trans rfl)) : Pc113 0 88 = (H31_7 0 88)); have q1 := b0_88 hB31_7; have q2 := b0_87 hBc113; omega) (by have q0 := b0_87 hBc113; omega) (hn2) (hn3) (MV.fr (F := ([87, 89], [54, 55, 56])) vc103_MV (FrM.c FrM.rf hFc113 rfl) rfl) ((MV.fr (F := ([87, 89], [54, 55, 56])) vc103_MV (FrM.c FrM.rf hFc113 rfl) rfl).w) (by have q0 := b0_87 hBc113; omega)
          · refine g_aload_n dX12_builds_73 rfl ?_
            refine g_iconst dX12_builds_74 ?_
            refine m_p90 rfl dX12_builds_75 (by decide) ?_
            have hB115 := bs_90 (z := 1) hBc103 (by decide)
            refine g_iload_n dX12_builds_78 rfl ?_
            refine g_iconst dX12_builds_79 ?_
            refine g_icmp_eq (tgt := 102) dX12_builds_80 (by decide) ⟨by omega, by omega⟩ (by decide) (fun k116 => by exfalso; omega) (fun k116 => ?_)
            refine g_aload_n dX12_builds_83 rfl ?_
            refine m_g90 (z := 1) rfl dX12_builds_84 up_same ?_
            refine g_if_ne (tgt := 102) dX12_builds_87 (by decide) (by decide) (fun k117 => ?_) (fun k117 => by exfalso; omega)
            refine g_aload_n dX12_builds_102 rfl ?_
            refine m_g86 rfl dX12_builds_103 ?_
            refine g_aload_n dX12_builds_106 rfl ?_
            refine m_g88 (z := (H31_7 0 88)) rfl dX12_builds_107 ((up_k (by decide)).trans ((hFc103.1 88 rfl).trans rfl)) ?_
            refine g_aload_n dX12_builds_110 rfl ?_
            refine m_g85 rfl dX12_builds_111 ?_
            refine g_iload_n dX12_builds_114 rfl ?_
            refine m_l56 (z := (H31_7 56 x31_1_7)) dX12_builds_115 ⟨by omega, by omega⟩ ((up_o (by decide)).trans ((congrFun (hFc103.2 56 rfl rfl) _).trans rfl)) ?_
            refine m_s57 dX12_builds_116 ⟨by have q0 := b0_88 hB31_7; omega, by have q0 := b0_88 hB31_7; omega⟩ ?_
            have hB118 := ba_57 (z := (H31_7 56 x31_1_7)) (k := (H31_7 0 88)) hB115 ⟨by have q0 := bl_56 (k := x31_1_7) hB31_7; omega, by have q0 := bl_56 (k := x31_1_7) hB31_7; omega⟩
            refine g_aload_n dX12_builds_117 rfl ?_
            refine g_dup dX12_builds_118 rfl ?_
            refine m_g88 (z := (H31_7 0 88)) rfl dX12_builds_119 ((up_o (by decide)).trans ((up_k (by decide)).trans ((hFc103.1 88 rfl).trans rfl))) ?_
            refine g_iconst dX12_builds_122 ?_
            refine g_iadd dX12_builds_123 ?_
            refine m_p88 rfl dX12_builds_124 ?_
            have hB119 := bs_88 (z := ((H31_7 0 88) + 1)) hB118 ⟨by have q0 := b0_88 hB31_7; omega, by have q0 := b0_88 hB31_7; omega⟩
            refine g_iinc (l1 := [(1, vI (x31_1_7 + (-1))), (2, vI rc103), (0, vR 0)]) dX12_builds_127 rfl (by decide) rfl ?_
            have hn2 : ∀ j : Int, 0 ≤ j → j ≤ (x31_1_7 + (-1)) → 0 ≤ (up (up (up Pc103 0 90 1) 57 (H31_7 0 88) (H31_7 56 x31_1_7)) 0 88 ((H31_7 0 88) + 1)) 55 j ∧ (up (up (up Pc103 0 90 1) 57 (H31_7 0 88) (H31_7 56 x31_1_7)) 0 88 ((H31_7 0 88) + 1)) 55 j ≤ 2009 := fun j h0 h1 => by
              rw [show (up (up (up Pc103 0 90 1) 57 (H31_7 0 88) (H31_7 56 x31_1_7)) 0 88 ((H31_7 0 88) + 1)) 55 j = _ from ((up_o (by decide)).trans ((up_o (by decide)).trans ((up_o (by decide)).trans rfl)))]
              first | exact h29 j h0 (by omega) | exact i31_2_7 j h0 (by omega)
            have hn3 : ∀ j : Int, 0 ≤ j → j ≤ (x31_1_7 + (-1)) → wgt ((up (up (up Pc103 0 90 1) 57 (H31_7 0 88) (H31_7 56 x31_1_7)) 0 88 ((H31_7 0 88) + 1)) 54 j) + j ≤ 24 := fun j h0 h1 => by
              rw [show (up (up (up Pc103 0 90 1) 57 (H31_7 0 88) (H31_7 56 x31_1_7)) 0 88 ((H31_7 0 88) + 1)) 54 j = _ from ((up_o (by decide)).trans ((up_o (by decide)).trans ((up_o (by decide)).trans ((congrFun (hFc103.2 54 rfl rfl) _).trans rfl))))]
              first | exact h39 j h0 (by omega) | exact i31_3_7 j h0 (by omega)
            refine g_goto (tgt := 31) dX12_builds_130 (by decide) ?_
            refine g_forget (l1 := [(0, vR 0), (1, vI (x31_1_7 + (-1)))]) (by intro q hq; simp only [List.mem_cons, List.not_mem_nil, or_false] at hq ⊢; rcases hq with rfl | rfl <;> simp) ?_
            exact ih31_7 (x31_1_7 + (-1)) ⟨by omega, by omega⟩ _ hB119 (FrM.s (FrM.a (FrM.s (FrM.c (FrM.c FrM.rf hE31_7 rfl) hFc103 rfl) rfl) rfl rfl) rfl) (by have q0 := (up_same : (up (up (up Pc103 0 90 1) 57 (H31_7 0 88) (H31_7 56 x31_1_7)) 0 88 ((H31_7 0 88) + 1)) 0 88 = ((H31_7 0 88) + 1)); have q1 := b0_88 hB31_7; have q2 := (((up_k (by decide)).trans ((up_o (by decide)).trans ((up_k (by decide)).trans ((hFc103.1 87 rfl).trans rfl)))) : (up (up (up Pc103 0 90 1) 57 (H31_7 0 88) (H31_7 56 x31_1_7)) 0 88 ((H31_7 0 88) + 1)) 0 87 = (H31_7 0 87)); have q3 := b0_87 hB31_7; omega) (by have q0 := (((up_k (by decide)).trans ((up_o (by decide)).trans ((up_k (by decide)).trans ((hFc103.1 87 rfl).trans rfl)))) : (up (up (up Pc103 0 90 1) 57 (H31_7 0 88) (H31_7 56 x31_1_7)) 0 88 ((H31_7 0 88) + 1)) 0 87 = (H31_7 0 87)); have q1 := b0_87 hB31_7; omega) (hn2) (hn3) (MV.fr (F := ([88, 90], [57])) vc103_MV (FrM.s (FrM.a (FrM.s FrM.rf rfl) rfl rfl) rfl) rfl) ((MV.fr (F := ([88, 90], [57])) vc103_MV (FrM.s (FrM.a (FrM.s FrM.rf rfl) rfl rfl) rfl) rfl).w) (by have q0 := (((up_k (by decide)).trans ((up_o (by decide)).trans ((up_k (by decide)).trans ((hFc103.1 87 rfl).trans rfl)))) : (up (up (up Pc103 0 90 1) 57 (H31_7 0 88) (H31_7 56 x31_1_7)) 0 88 ((H31_7 0 88) + 1)) 0 87 = (H31_7 0 87)); have q1 := b0_87 hB31_7; omega)
      · refine g_iconst dX12_builds_42 ?_
        refine g_goto (tgt := 51) dX12_builds_43 (by decide) ?_
        refine g_istore_n (l1 := [(2, vI (-1)), (0, vR 0), (1, vI x31_1_7)]) dX12_builds_51 (by decide) rfl ?_
        refine g_iload_n dX12_builds_52 rfl ?_
        refine g_iconst dX12_builds_53 ?_
        refine g_icmp_eq (tgt := 78) dX12_builds_54 (by decide) (by decide) (by decide) (fun k120 => ?_) (fun k120 => by exfalso; omega)
        refine g_iload_n dX12_builds_78 rfl ?_
        refine g_iconst dX12_builds_79 ?_
        refine g_icmp_eq (tgt := 102) dX12_builds_80 (by decide) (by decide) (by decide) (fun k121 => ?_) (fun k121 => by exfalso; omega)
        refine g_aload_n dX12_builds_102 rfl ?_
        refine m_g86 rfl dX12_builds_103 ?_
        refine g_aload_n dX12_builds_106 rfl ?_
        refine m_g88 (z := (H31_7 0 88)) rfl dX12_builds_107 rfl ?_
        refine g_aload_n dX12_builds_110 rfl ?_
        refine m_g85 rfl dX12_builds_111 ?_
        refine g_iload_n dX12_builds_114 rfl ?_
        refine m_l56 (z := (H31_7 56 x31_1_7)) dX12_builds_115 ⟨by omega, by omega⟩ rfl ?_
        refine m_s57 dX12_builds_116 ⟨by have q0 := b0_88 hB31_7; omega, by have q0 := b0_88 hB31_7; omega⟩ ?_
        have hB122 := ba_57 (z := (H31_7 56 x31_1_7)) (k := (H31_7 0 88)) hB31_7 ⟨by have q0 := bl_56 (k := x31_1_7) hB31_7; omega, by have q0 := bl_56 (k := x31_1_7) hB31_7; omega⟩
        refine g_aload_n dX12_builds_117 rfl ?_
        refine g_dup dX12_builds_118 rfl ?_
        refine m_g88 (z := (H31_7 0 88)) rfl dX12_builds_119 ((up_o (by decide)).trans rfl) ?_
        refine g_iconst dX12_builds_122 ?_
        refine g_iadd dX12_builds_123 ?_
        refine m_p88 rfl dX12_builds_124 ?_
        have hB123 := bs_88 (z := ((H31_7 0 88) + 1)) hB122 ⟨by have q0 := b0_88 hB31_7; omega, by have q0 := b0_88 hB31_7; omega⟩
        refine g_iinc (l1 := [(1, vI (x31_1_7 + (-1))), (2, vI (-1)), (0, vR 0)]) dX12_builds_127 rfl (by decide) rfl ?_
        have hn2 : ∀ j : Int, 0 ≤ j → j ≤ (x31_1_7 + (-1)) → 0 ≤ (up (up H31_7 57 (H31_7 0 88) (H31_7 56 x31_1_7)) 0 88 ((H31_7 0 88) + 1)) 55 j ∧ (up (up H31_7 57 (H31_7 0 88) (H31_7 56 x31_1_7)) 0 88 ((H31_7 0 88) + 1)) 55 j ≤ 2009 := fun j h0 h1 => by
          rw [show (up (up H31_7 57 (H31_7 0 88) (H31_7 56 x31_1_7)) 0 88 ((H31_7 0 88) + 1)) 55 j = _ from ((up_o (by decide)).trans ((up_o (by decide)).trans rfl))]
          first | exact h29 j h0 (by omega) | exact i31_2_7 j h0 (by omega)
        have hn3 : ∀ j : Int, 0 ≤ j → j ≤ (x31_1_7 + (-1)) → wgt ((up (up H31_7 57 (H31_7 0 88) (H31_7 56 x31_1_7)) 0 88 ((H31_7 0 88) + 1)) 54 j) + j ≤ 24 := fun j h0 h1 => by
          rw [show (up (up H31_7 57 (H31_7 0 88) (H31_7 56 x31_1_7)) 0 88 ((H31_7 0 88) + 1)) 54 j = _ from ((up_o (by decide)).trans ((up_o (by decide)).trans rfl))]
          first | exact h39 j h0 (by omega) | exact i31_3_7 j h0 (by omega)
        refine g_goto (tgt := 31) dX12_builds_130 (by decide) ?_
        refine g_forget (l1 := [(0, vR 0), (1, vI (x31_1_7 + (-1)))]) (by intro q hq; simp only [List.mem_cons, List.not_mem_nil, or_false] at hq ⊢; rcases hq with rfl | rfl <;> simp) ?_
        exact ih31_7 (x31_1_7 + (-1)) ⟨by omega, by omega⟩ _ hB123 (FrM.s (FrM.a (FrM.c FrM.rf hE31_7 rfl) rfl rfl) rfl) (by have q0 := (up_same : (up (up H31_7 57 (H31_7 0 88) (H31_7 56 x31_1_7)) 0 88 ((H31_7 0 88) + 1)) 0 88 = ((H31_7 0 88) + 1)); have q1 := b0_88 hB31_7; have q2 := (((up_k (by decide)).trans ((up_o (by decide)).trans rfl)) : (up (up H31_7 57 (H31_7 0 88) (H31_7 56 x31_1_7)) 0 88 ((H31_7 0 88) + 1)) 0 87 = (H31_7 0 87)); have q3 := b0_87 hB31_7; omega) (by have q0 := (((up_k (by decide)).trans ((up_o (by decide)).trans rfl)) : (up (up H31_7 57 (H31_7 0 88) (H31_7 56 x31_1_7)) 0 88 ((H31_7 0 88) + 1)) 0 87 = (H31_7 0 87)); have q1 := b0_87 hB31_7; omega) (hn2) (hn3) (MV.fr (F := ([88], [57])) w31_MV_7 (FrM.s (FrM.a FrM.rf rfl rfl) rfl) rfl) (MVw.fr (F := ([88], [57])) w31_MVw_7 (FrM.s (FrM.a FrM.rf rfl rfl) rfl) rfl) (by have q0 := (((up_k (by decide)).trans ((up_o (by decide)).trans rfl)) : (up (up H31_7 57 (H31_7 0 88) (H31_7 56 x31_1_7)) 0 88 ((H31_7 0 88) + 1)) 0 87 = (H31_7 0 87)); have q1 := b0_87 hB31_7; omega)
  refine g_forget (l1 := [(0, vR 0), (1, vI 0)]) (by intro q hq; simp only [List.mem_cons, List.not_mem_nil, or_false] at hq ⊢; rcases hq with rfl | rfl <;> simp) ?_
  exact L31_7 _ 0 (by decide) _ hBc6 FrM.rf (by have q0 := (((hFc6.1 88 rfl).trans ((up_k (by decide)).trans ((up_k (by decide)).trans up_same))) : Pc6 0 88 = 0); have q1 := b0_87 hBc6; omega) (by have q0 := b0_87 hBc6; omega) (hn2) (hn3) (MV.fr (F := ([87, 88, 89, 90], [54, 55, 56])) v_MV (FrM.c (FrM.s (FrM.s (FrM.s (FrM.s FrM.rf rfl) rfl) rfl) rfl) hFc6 rfl) rfl) ((MV.fr (F := ([87, 88, 89, 90], [54, 55, 56])) v_MV (FrM.c (FrM.s (FrM.s (FrM.s (FrM.s FrM.rf rfl) rfl) rfl) rfl) hFc6 rfl) rfl).w) (Nat.lt_succ_self _)
set_option maxRecDepth 100000 in
set_option maxHeartbeats 4000000 in
theorem m_X12_scopes (G : GT) (P : PH) (a1 : Int) (a2 : Int) (a3 : Int) (h_a1 : (-2147483648) ≤ a1 ∧ a1 ≤ 2147483647) (h_a2 : (-2147483648) ≤ a2 ∧ a2 ≤ 2147483647) (h_a3 : (-2147483648) ≤ a3 ∧ a3 ≤ 2147483647) (hB : BdM P) (p_st : P 0 74 ≤ 199999999) (v_okC : okC P) (v_okB : okB P) (v_MVw : MVw P) (v_RE : RE P) (Q : Option PV → PH → Prop) (hQ : ∀ (r : Int) (_ : (-2147483648) ≤ r ∧ r ≤ 2147483647) (P1 : PH) (_ : BdM P1) (_ : FrM ([62, 66, 74, 76, 78, 87, 88, 89, 90], [41, 42, 43, 49, 50, 54, 55, 56, 57]) P P1) (_ : P1 0 74 ≤ P 0 74 + 1) (_ : MVw P1) (_ : RE P1), Q (some (vI r)) P1) : Ct WSM G 7 iX12_scopes [vR 0, vI a1, vI a2, vI a3] P Q := by
  refine Ct.of (by decide) (l0 := [(0, vR 0), (1, vI a1), (2, vI a2), (3, vI a3)]) rfl (Nat.le_of_ble_eq_true rfl) ?_
  refine g_aload_n dX12_scopes_0 rfl ?_
  refine m_g44 (z := (P 0 44)) rfl dX12_scopes_1 rfl ?_
  have f1 := b0_44 hB
  refine g_if_eq (tgt := 25) dX12_scopes_4 (by decide) ⟨by have q0 := b0_44 hB; omega, by have q0 := b0_44 hB; omega⟩ (fun k2 => ?_) (fun k2 => ?_)
  · refine g_iconst dX12_scopes_25 ?_
    exact g_retI dX12_scopes_26 rfl (hQ (-1) (by decide) _ hB FrM.rf (by have q0 := b0_74 hB; omega) v_MVw v_RE)
  · refine g_iload_n dX12_scopes_7 rfl ?_
    refine g_iconst dX12_scopes_8 ?_
    refine g_iconst dX12_scopes_9 ?_
    refine g_sI (av := [vI a1, vI 0, vI 3]) (st := []) (m_X12_is G P a1 0 3 ⟨by omega, by omega⟩ (by decide) (by decide) hB  _ (fun rc3 hc3 gc3_is => ⟨rc3, rfl, ?_⟩)) cf_X12_is t_1800 rfl (Nat.le_of_ble_eq_true rfl) (by decide) rfl dX12_scopes_10
    refine g_if_eq (tgt := 25) dX12_scopes_13 (by decide) ⟨by omega, by omega⟩ (fun k4 => ?_) (fun k4 => ?_)
    · refine g_iconst dX12_scopes_25 ?_
      exact g_retI dX12_scopes_26 rfl (hQ (-1) (by decide) _ hB FrM.rf (by have q0 := b0_74 hB; omega) v_MVw v_RE)
    · refine g_iload_n dX12_scopes_16 rfl ?_
      refine g_iconst dX12_scopes_17 ?_
      refine g_iconst dX12_scopes_18 ?_
      refine g_sI (av := [vI a2, vI 0, vI 3]) (st := []) (m_X12_is G P a2 0 3 ⟨by omega, by omega⟩ (by decide) (by decide) hB  _ (fun rc5 hc5 gc5_is => ⟨rc5, rfl, ?_⟩)) cf_X12_is t_1800 rfl (Nat.le_of_ble_eq_true rfl) (by decide) rfl dX12_scopes_19
      refine g_if_ne (tgt := 27) dX12_scopes_22 (by decide) ⟨by omega, by omega⟩ (fun k6 => ?_) (fun k6 => ?_)
      · have hb := v_okB
        unfold okB at hb
        refine g_aload_n dX12_scopes_27 rfl ?_
        refine g_iconst dX12_scopes_28 ?_
        refine g_iload_n dX12_scopes_29 rfl ?_
        refine g_vV (av := [vI 0, vI a1]) (o := 0) (st := []) (m_X12_plants G P 0 a1 (by decide) ⟨by omega, by omega⟩ hB (by have q0 := b0_74 hB; omega) v_MVw v_RE _ (fun Pc7 hBc7 hFc7 gc7_st vc7_MV vc7_RE vc7_RLt => ⟨rfl, ?_⟩)) cf_X12_plants t_1998 rfl (by decide) rfl rfl rfl (Nat.le_of_ble_eq_true rfl) (by decide) rfl dX12_scopes_30
        refine g_aload_n dX12_scopes_33 rfl ?_
        refine g_vV (av := []) (o := 0) (st := []) (m_X12_builds G Pc7  hBc7 (by have q0 := (((congrFun (hFc7.2 16 rfl rfl) _).trans rfl) : Pc7 16 (Pc7 0 13) = (P 16 (Pc7 0 13))); have q1 := bl_16 (k := (Pc7 0 13)) hB; have q2 := ((congrArg (Pc7 16) ((hFc7.1 13 rfl).trans rfl)).trans ((congrFun (hFc7.2 16 rfl rfl) _).trans rfl) : Pc7 16 (Pc7 0 13) = (P 16 (P 0 13))); have q3 := bl_16 (k := (P 0 13)) hB; omega) vc7_MV _ (fun Pc8 hBc8 hFc8 vc8_MV => ⟨rfl, ?_⟩)) cf_X12_builds t_2069 rfl (by decide) rfl rfl rfl (Nat.le_of_ble_eq_true rfl) (by decide) rfl dX12_scopes_34
        refine g_iload_n dX12_scopes_37 rfl ?_
        refine g_iconst dX12_scopes_38 ?_
        refine g_icmp_ne (tgt := 67) dX12_scopes_39 (by decide) ⟨by omega, by omega⟩ (by decide) (fun k9 => ?_) (fun k9 => ?_)
        · refine g_iload_n dX12_scopes_67 rfl ?_
          refine g_if_ne (tgt := 78) dX12_scopes_68 (by decide) ⟨by omega, by omega⟩ (fun k10 => ?_) (fun k10 => ?_)
          · refine g_iload_n dX12_scopes_78 rfl ?_
            refine g_iconst dX12_scopes_79 ?_
            refine g_icmp_ne (tgt := 90) dX12_scopes_80 (by decide) ⟨by omega, by omega⟩ (by decide) (fun k11 => ?_) (fun k11 => ?_)
            · refine g_aload_n dX12_scopes_90 rfl ?_
              refine m_g90 (z := (Pc8 0 90)) rfl dX12_scopes_91 rfl ?_
              have f12 := b0_90 hBc8
              refine g_if_eq (tgt := 101) dX12_scopes_94 (by decide) ⟨by have q0 := b0_90 hBc8; omega, by have q0 := b0_90 hBc8; omega⟩ (fun k13 => ?_) (fun k13 => ?_)
              · refine g_iconst dX12_scopes_101 ?_
                exact g_retI dX12_scopes_102 rfl (hQ 0 (by decide) _ hBc8 (FrM.c (FrM.c FrM.rf hFc7 rfl) hFc8 rfl) (by have q0 := (((hFc8.1 74 rfl).trans rfl) : Pc8 0 74 = (Pc7 0 74)); have q1 := b0_74 hBc7; omega) (vc8_MV.w) (RE.fr (F := ([78, 87, 88, 89, 90], [49, 50, 54, 55, 56, 57])) vc7_RE (FrM.c FrM.rf hFc8 rfl) rfl))
              · refine g_iconst dX12_scopes_97 ?_
                refine g_goto (tgt := 102) dX12_scopes_98 (by decide) ?_
                exact g_retI dX12_scopes_102 rfl (hQ 1 (by decide) _ hBc8 (FrM.c (FrM.c FrM.rf hFc7 rfl) hFc8 rfl) (by have q0 := (((hFc8.1 74 rfl).trans rfl) : Pc8 0 74 = (Pc7 0 74)); have q1 := b0_74 hBc7; omega) (vc8_MV.w) (RE.fr (F := ([78, 87, 88, 89, 90], [49, 50, 54, 55, 56, 57])) vc7_RE (FrM.c FrM.rf hFc8 rfl) rfl))
            · refine g_aload_n dX12_scopes_83 rfl ?_
              refine m_g89 (z := (Pc8 0 89)) rfl dX12_scopes_84 rfl ?_
              refine g_goto (tgt := 102) dX12_scopes_87 (by decide) ?_
              exact g_retI dX12_scopes_102 rfl (hQ (Pc8 0 89) ⟨by have q0 := b0_89 hBc8; omega, by have q0 := b0_89 hBc8; omega⟩ _ hBc8 (FrM.c (FrM.c FrM.rf hFc7 rfl) hFc8 rfl) (by have q0 := b0_89 hBc8; have q1 := (((hFc8.1 74 rfl).trans rfl) : Pc8 0 74 = (Pc7 0 74)); have q2 := b0_74 hBc7; omega) (vc8_MV.w) (RE.fr (F := ([78, 87, 88, 89, 90], [49, 50, 54, 55, 56, 57])) vc7_RE (FrM.c FrM.rf hFc8 rfl) rfl))
          · refine g_aload_n dX12_scopes_71 rfl ?_
            refine m_g87 (z := (Pc8 0 87)) rfl dX12_scopes_72 rfl ?_
            refine g_goto (tgt := 102) dX12_scopes_75 (by decide) ?_
            exact g_retI dX12_scopes_102 rfl (hQ (Pc8 0 87) ⟨by have q0 := b0_87 hBc8; omega, by have q0 := b0_87 hBc8; omega⟩ _ hBc8 (FrM.c (FrM.c FrM.rf hFc7 rfl) hFc8 rfl) (by have q0 := b0_87 hBc8; have q1 := (((hFc8.1 74 rfl).trans rfl) : Pc8 0 74 = (Pc7 0 74)); have q2 := b0_74 hBc7; omega) (vc8_MV.w) (RE.fr (F := ([78, 87, 88, 89, 90], [49, 50, 54, 55, 56, 57])) vc7_RE (FrM.c FrM.rf hFc8 rfl) rfl))
        · refine g_iload_n dX12_scopes_42 rfl ?_
          refine g_iconst dX12_scopes_43 ?_
          refine g_aload_n dX12_scopes_44 rfl ?_
          refine m_g88 (z := (Pc8 0 88)) rfl dX12_scopes_45 rfl ?_
          refine g_iconst dX12_scopes_48 ?_
          refine g_isub dX12_scopes_49 ?_
          have f14 := b0_88 hBc8
          refine g_sI (av := [vI a3, vI 0, vI ((Pc8 0 88) - 1)]) (st := []) (m_X12_is G Pc8 a3 0 ((Pc8 0 88) - 1) ⟨by omega, by omega⟩ (by decide) ⟨by have q0 := b0_88 hBc8; omega, by have q0 := b0_88 hBc8; omega⟩ hBc8  _ (fun rc15 hc15 gc15_is => ⟨rc15, rfl, ?_⟩)) cf_X12_is t_1800 rfl (Nat.le_of_ble_eq_true rfl) (by decide) rfl dX12_scopes_50
          refine g_if_eq (tgt := 65) dX12_scopes_53 (by decide) ⟨by omega, by omega⟩ (fun k16 => ?_) (fun k16 => ?_)
          · refine g_iconst dX12_scopes_65 ?_
            exact g_retI dX12_scopes_66 rfl (hQ (-1) (by decide) _ hBc8 (FrM.c (FrM.c FrM.rf hFc7 rfl) hFc8 rfl) (by have q0 := (((hFc8.1 74 rfl).trans rfl) : Pc8 0 74 = (Pc7 0 74)); have q1 := b0_74 hBc7; omega) (vc8_MV.w) (RE.fr (F := ([78, 87, 88, 89, 90], [49, 50, 54, 55, 56, 57])) vc7_RE (FrM.c FrM.rf hFc8 rfl) rfl))
          · refine g_aload_n dX12_scopes_56 rfl ?_
            refine m_g86 rfl dX12_scopes_57 ?_
            refine g_iload_n dX12_scopes_60 rfl ?_
            refine m_l57 (z := (Pc8 57 a3)) dX12_scopes_61 ⟨by omega, by omega⟩ rfl ?_
            refine g_goto (tgt := 66) dX12_scopes_62 (by decide) ?_
            exact g_retI dX12_scopes_66 rfl (hQ (Pc8 57 a3) ⟨by have q0 := bl_57 (k := a3) hBc8; omega, by have q0 := bl_57 (k := a3) hBc8; omega⟩ _ hBc8 (FrM.c (FrM.c FrM.rf hFc7 rfl) hFc8 rfl) (by have q0 := bl_57 (k := a3) hBc8; have q1 := (((hFc8.1 74 rfl).trans rfl) : Pc8 0 74 = (Pc7 0 74)); have q2 := b0_74 hBc7; omega) (vc8_MV.w) (RE.fr (F := ([78, 87, 88, 89, 90], [49, 50, 54, 55, 56, 57])) vc7_RE (FrM.c FrM.rf hFc8 rfl) rfl))
      · refine g_iconst dX12_scopes_25 ?_
        exact g_retI dX12_scopes_26 rfl (hQ (-1) (by decide) _ hB FrM.rf (by have q0 := b0_74 hB; omega) v_MVw v_RE)
end
section
/-! What the reference's parser keeps of its tables. -/
/-- values and cons of a kind -/
def KVP (P : PH) : Prop := ∀ k : Int, P 3 k ≤ 2000 + P 4 k ∧ (P 4 k = 0 ∨ 1 ≤ P 3 k)
theorem KVP.fr {P P1 : PH} {F : FS} (h : KVP P) (hf : FrM F P P1) (hd : disF F ([], [3, 4]) = true) : KVP P1 := by
  unfold disF at hd
  simp only [List.all_cons, List.all_nil, Bool.and_true, Bool.true_and, Bool.and_eq_true, Bool.not_eq_true'] at hd
  unfold KVP at h ⊢
  rw [hf.2 3 rfl hd.1, hf.2 4 rfl hd.2]
  exact h
theorem KVP.step {P P1 : PH} {i : Int} (h : KVP P) (o3 : ∀ j : Int, j ≠ i → P1 3 j = P 3 j) (o4 : ∀ j : Int, j ≠ i → P1 4 j = P 4 j) (e : P1 3 i ≤ 2000 + P1 4 i ∧ (P1 4 i = 0 ∨ 1 ≤ P1 3 i)) : KVP P1 := by
  intro k
  by_cases hk : k = i
  · subst hk; exact e
  · rw [o3 k hk, o4 k hk]; exact h k
/-- how many cons there can be -/
def KC (P : PH) : Prop := (P 2 (P 0 37) = 0 ∧ P 5 (P 0 37) = 0) ∨ (1 ≤ P 2 (P 0 37) ∧ P 5 (P 0 37) ≤ 6 * P 2 (P 0 37) - 6 + P 4 (4 * P 0 37 + (P 2 (P 0 37) - 1)))
theorem KC.fr {P P1 : PH} {F : FS} (h : KC P) (hf : FrM F P P1) (hd : disF F ([37], [2, 4, 5]) = true) : KC P1 := by
  unfold disF at hd
  simp only [List.all_cons, List.all_nil, Bool.and_true, Bool.and_eq_true, Bool.not_eq_true'] at hd
  unfold KC at h ⊢
  rw [hf.1 37 hd.1, hf.2 2 rfl hd.2.1, hf.2 4 rfl hd.2.2.1, hf.2 5 rfl hd.2.2.2]
  exact h
theorem KC.kind {P P1 : PH} (h : KC P) (hb : BdM P) (e37 : P1 0 37 = P 0 37) (e2 : P1 2 (P 0 37) = P 2 (P 0 37) + 1) (e5 : P1 5 (P 0 37) = P 5 (P 0 37)) (e4 : P1 4 (4 * P 0 37 + P 2 (P 0 37)) = 0) : KC P1 := by
  unfold KC at h ⊢
  rw [e37, e2, e5, show 4 * P 0 37 + (P 2 (P 0 37) + 1 - 1) = 4 * P 0 37 + P 2 (P 0 37) by omega, e4]
  have q := bl_4 (k := 4 * P 0 37 + (P 2 (P 0 37) - 1)) hb
  rcases h with h | h
  · right; omega
  · right; omega
theorem KC.con {P P1 : PH} (h : KC P) (hk : 1 ≤ P 2 (P 0 37)) (e37 : P1 0 37 = P 0 37) (e2 : P1 2 (P 0 37) = P 2 (P 0 37)) (e5 : P1 5 (P 0 37) = P 5 (P 0 37) + 1) (e4 : P1 4 (4 * P 0 37 + (P 2 (P 0 37) - 1)) = P 4 (4 * P 0 37 + (P 2 (P 0 37) - 1)) + 1) : KC P1 := by
  unfold KC at h ⊢
  rw [e37, e2, e5, e4]
  right
  rcases h with h | h <;> omega
/-- a con's fields are of kinds before its own, or numbers -/
def CF (P : PH) : Prop := ∀ c f : Int, 0 ≤ f → f < P 7 c → P 8 (2 * c + f) = 4 ∨ P 8 (2 * c + f) < P 6 c
theorem CF.fr {P P1 : PH} {F : FS} (h : CF P) (hf : FrM F P P1) (hd : disF F ([], [6, 7, 8]) = true) : CF P1 := by
  unfold disF at hd
  simp only [List.all_cons, List.all_nil, Bool.and_true, Bool.true_and, Bool.and_eq_true, Bool.not_eq_true'] at hd
  unfold CF at h ⊢
  rw [hf.2 6 rfl hd.1, hf.2 7 rfl hd.2.1, hf.2 8 rfl hd.2.2]
  exact h
theorem CF.new {P P1 : PH} {c : Int} (h : CF P) (o6 : ∀ j : Int, j ≠ c → P1 6 j = P 6 j) (o7 : ∀ j : Int, j ≠ c → P1 7 j = P 7 j) (o8 : ∀ j : Int, P1 8 j = P 8 j) (e7 : P1 7 c = 0) : CF P1 := by
  intro d f h0 h1
  by_cases e : d = c
  · subst e; rw [e7] at h1; omega
  · rw [o7 d e] at h1; rw [o6 d e, o8]; exact h d f h0 h1
theorem CF.field {P P1 : PH} {c z : Int} (h : CF P) (hb : BdM P) (h7 : P 7 c ≤ 1) (e6 : ∀ j : Int, P1 6 j = P 6 j) (o7 : ∀ j : Int, j ≠ c → P1 7 j = P 7 j) (e7 : P1 7 c = P 7 c + 1) (o8 : ∀ j : Int, j ≠ 2 * c + P 7 c → P1 8 j = P 8 j) (e8 : P1 8 (2 * c + P 7 c) = z) (hz : z = 4 ∨ z < P 6 c) : CF P1 := by
  intro d f h0 h1
  have q7 := bl_7 (k := d) hb
  have q7c := bl_7 (k := c) hb
  by_cases e : d = c
  · subst e
    rw [e7] at h1
    rw [e6]
    rcases (show f = P 7 d ∨ f < P 7 d by omega) with e | e
    · rw [e, e8]; exact hz
    · rw [o8 _ (by omega)]; exact h d f h0 e
  · rw [o7 d e] at h1
    rw [e6, o8 _ (by omega)]
    exact h d f h0 h1
theorem mul_b {a b A B : Int} (ha : 1 ≤ a ∧ a ≤ A) (hb : 1 ≤ b ∧ b ≤ B) : 1 ≤ a * b ∧ a * b ≤ A * B := by
  have h1 : 1 * 1 ≤ a * b := Int.mul_le_mul ha.1 hb.1 (by omega) (by omega)
  have h2 : a * b ≤ A * B := Int.mul_le_mul ha.2 hb.2 (by omega) (by omega)
  omega
end
section
/-! The tables of kinds, cons, columns and codes, of both banks. -/
/-- the values of a con -/
def ZV (P : PH) (b c : Int) : Prop := (P 7 c = 0 ∧ P 10 c = 1) ∨ (P 7 c = 1 ∧ 1 ≤ vals P b (P 8 (2 * c)) ∧ P 10 c = vals P b (P 8 (2 * c))) ∨ (P 7 c = 2 ∧ 1 ≤ vals P b (P 8 (2 * c)) ∧ 1 ≤ vals P b (P 8 (2 * c + 1)) ∧ P 10 c = vals P b (P 8 (2 * c)) * vals P b (P 8 (2 * c + 1)))
theorem ZV.eq {P P1 : PH} {b c : Int} (h : ZV P b c) (e7 : P1 7 c = P 7 c) (e10 : P1 10 c = P 10 c) (e8 : ∀ f : Int, 0 ≤ f → f < P 7 c → P1 8 (2 * c + f) = P 8 (2 * c + f) ∧ vals P1 b (P 8 (2 * c + f)) = vals P b (P 8 (2 * c + f))) : ZV P1 b c := by
  have h0 := e8 0 (by omega)
  have h1 := e8 1 (by omega)
  rw [show 2 * c + 0 = 2 * c by omega] at h0
  unfold ZV at h ⊢
  rw [e7, e10]
  rcases h with h | h | h
  · exact Or.inl h
  · obtain ⟨a1, a2⟩ := h0 (by omega)
    rw [a1, a2]; exact Or.inr (Or.inl h)
  · obtain ⟨a1, a2⟩ := h0 (by omega)
    obtain ⟨b1, b2⟩ := h1 (by omega)
    rw [a1, a2, b1, b2]; exact Or.inr (Or.inr h)
/-- the cons of both banks -/
def ZT (P : PH) : Prop := ∀ b c : Int, 0 ≤ b → b ≤ 1 → 0 ≤ c → c < P 5 b → P 6 (24 * b + c) < P 2 b ∧ ZV P b (24 * b + c)
theorem ZT.fr {P P1 : PH} {F : FS} (h : ZT P) (hf : FrM F P P1) (hd : disF F ([], [2, 3, 5, 6, 7, 8, 10]) = true) : ZT P1 := by
  unfold disF at hd
  simp only [List.all_cons, List.all_nil, Bool.and_true, Bool.true_and, Bool.and_eq_true, Bool.not_eq_true'] at hd
  unfold ZT ZV vals at h ⊢
  rw [hf.2 2 rfl hd.1, hf.2 3 rfl hd.2.1, hf.2 5 rfl hd.2.2.1, hf.2 6 rfl hd.2.2.2.1, hf.2 7 rfl hd.2.2.2.2.1, hf.2 8 rfl hd.2.2.2.2.2.1, hf.2 10 rfl hd.2.2.2.2.2.2]
  exact h
theorem ZT.kind {P P1 : PH} {i K : Int} (h : ZT P) (hcf : CF P) (hb : BdM P) (eK : P 2 i = K) (hk : K ≤ 3) (o3 : ∀ j : Int, j ≠ 4 * i + K → P1 3 j = P 3 j) (o2 : ∀ j : Int, j ≠ i → P1 2 j = P 2 j) (e2 : P1 2 i = K + 1) (r5 : ∀ j, P1 5 j = P 5 j) (r6 : ∀ j, P1 6 j = P 6 j) (r7 : ∀ j, P1 7 j = P 7 j) (r8 : ∀ j, P1 8 j = P 8 j) (r10 : ∀ j, P1 10 j = P 10 j) : ZT P1 := by
  intro b c hb0 hb1 hc0 hc1
  rw [r5] at hc1
  obtain ⟨h1, h2⟩ := h b c hb0 hb1 hc0 hc1
  have q2 := bl_2 (k := i) hb
  have hlt : P 2 b ≤ P1 2 b := by
    by_cases e : b = i
    · rw [e, e2]; omega
    · rw [o2 b e]; omega
  refine ⟨by rw [r6]; omega, h2.eq (r7 _) (r10 _) (fun f f0 f1 => ⟨r8 _, vals_eq fun e4 => o3 _ fun hh => ?_⟩)⟩
  have q := hcf (24 * b + c) f f0 f1
  have q8 := bl_8 (k := 2 * (24 * b + c) + f) hb
  by_cases e : b = i
  · have e9 : P 2 b = P 2 i := by rw [e]
    omega
  · omega
/-- a con that isn't counted yet is written -/
theorem ZT.un {P P1 : PH} {i c : Int} (h : ZT P) (hb : BdM P) (hi : 0 ≤ i ∧ i ≤ 1) (h5 : P 5 i ≤ 23) (hc : c = 24 * i + P 5 i) (r2 : ∀ j, P1 2 j = P 2 j) (r3 : ∀ j, P1 3 j = P 3 j) (r5 : ∀ j, P1 5 j = P 5 j) (o6 : ∀ j : Int, j ≠ c → P1 6 j = P 6 j) (o7 : ∀ j : Int, j ≠ c → P1 7 j = P 7 j) (o8 : ∀ j : Int, (j < 2 * c ∨ 2 * c + 1 < j) → P1 8 j = P 8 j) (o10 : ∀ j : Int, j ≠ c → P1 10 j = P 10 j) : ZT P1 := by
  intro b d hb0 hb1 hd0 hd1
  rw [r5] at hd1
  obtain ⟨h1, h2⟩ := h b d hb0 hb1 hd0 hd1
  have q5 := bl_5 (k := b) hb
  have q5i := bl_5 (k := i) hb
  have hne : 24 * b + d ≠ c := by
    by_cases e : b = i
    · have e9 : P 5 b = P 5 i := by rw [e]
      omega
    · omega
  have q7 := bl_7 (k := 24 * b + d) hb
  refine ⟨by rw [o6 _ hne, r2]; exact h1, h2.eq (o7 _ hne) (o10 _ hne) (fun f f0 f1 => ⟨o8 _ (by omega), vals_eq fun e4 => r3 _⟩)⟩
/-- which con covers a value -/
def ZO (P : PH) : Prop := ∀ b k v : Int, 0 ≤ b → b ≤ 1 → 0 ≤ k → k < P 2 b → 0 ≤ v → v < P 3 (4 * b + k) → ∃ c : Int, 0 ≤ c ∧ c < P 5 b ∧ P 6 (24 * b + c) = k ∧ P 9 (24 * b + c) ≤ v ∧ v < P 9 (24 * b + c) + P 10 (24 * b + c)
theorem ZO.fr {P P1 : PH} {F : FS} (h : ZO P) (hf : FrM F P P1) (hd : disF F ([], [2, 3, 5, 6, 9, 10]) = true) : ZO P1 := by
  unfold disF at hd
  simp only [List.all_cons, List.all_nil, Bool.and_true, Bool.true_and, Bool.and_eq_true, Bool.not_eq_true'] at hd
  unfold ZO at h ⊢
  rw [hf.2 2 rfl hd.1, hf.2 3 rfl hd.2.1, hf.2 5 rfl hd.2.2.1, hf.2 6 rfl hd.2.2.2.1, hf.2 9 rfl hd.2.2.2.2.1, hf.2 10 rfl hd.2.2.2.2.2]
  exact h
theorem ZO.kind {P P1 : PH} {i K : Int} (h : ZO P) (hb : BdM P) (eK : P 2 i = K) (o3 : ∀ j : Int, j ≠ 4 * i + K → P1 3 j = P 3 j) (e3 : P1 3 (4 * i + K) = 0) (o2 : ∀ j : Int, j ≠ i → P1 2 j = P 2 j) (e2 : P1 2 i = K + 1) (r5 : ∀ j, P1 5 j = P 5 j) (r6 : ∀ j, P1 6 j = P 6 j) (r9 : ∀ j, P1 9 j = P 9 j) (r10 : ∀ j, P1 10 j = P 10 j) : ZO P1 := by
  intro b k v hb0 hb1 hk0 hk1 hv0 hv1
  have hne : 4 * b + k ≠ 4 * i + K := fun e => by rw [e, e3] at hv1; omega
  rw [o3 _ hne] at hv1
  have hk2 : k < P 2 b := by
    by_cases e : b = i
    · have e9 : P 2 b = P 2 i := by rw [e]
      rw [e, e2] at hk1
      omega
    · rw [o2 b e] at hk1; exact hk1
  obtain ⟨c, a1, a2, a3, a4, a5⟩ := h b k v hb0 hb1 hk0 hk2 hv0 hv1
  exact ⟨c, a1, by rw [r5]; exact a2, by rw [r6]; exact a3, by rw [r9]; exact a4, by rw [r9, r10]; exact a5⟩
theorem ZO.un {P P1 : PH} {i c : Int} (h : ZO P) (hb : BdM P) (hi : 0 ≤ i ∧ i ≤ 1) (h5 : P 5 i ≤ 23) (hc : c = 24 * i + P 5 i) (r2 : ∀ j, P1 2 j = P 2 j) (r3 : ∀ j, P1 3 j = P 3 j) (r5 : ∀ j, P1 5 j = P 5 j) (o6 : ∀ j : Int, j ≠ c → P1 6 j = P 6 j) (o9 : ∀ j : Int, j ≠ c → P1 9 j = P 9 j) (o10 : ∀ j : Int, j ≠ c → P1 10 j = P 10 j) : ZO P1 := by
  intro b k v hb0 hb1 hk0 hk1 hv0 hv1
  rw [r2] at hk1
  rw [r3] at hv1
  obtain ⟨d, a1, a2, a3, a4, a5⟩ := h b k v hb0 hb1 hk0 hk1 hv0 hv1
  have q5 := bl_5 (k := b) hb
  have q5i := bl_5 (k := i) hb
  have hne : 24 * b + d ≠ c := by
    by_cases e : b = i
    · have e9 : P 5 b = P 5 i := by rw [e]
      omega
    · omega
  exact ⟨d, a1, by rw [r5]; exact a2, by rw [o6 _ hne]; exact a3, by rw [o9 _ hne]; exact a4, by rw [o9 _ hne, o10 _ hne]; exact a5⟩
/-- the columns of both banks -/
def ZC (P : PH) : Prop := ∀ b c : Int, 0 ≤ b → b ≤ 1 → 0 ≤ c → c < P 11 b → P 12 (4 * b + c) = 4 ∨ (P 12 (4 * b + c) < P 2 b ∧ 1 ≤ P 3 (4 * b + P 12 (4 * b + c)))
theorem ZC.fr {P P1 : PH} {F : FS} (h : ZC P) (hf : FrM F P P1) (hd : disF F ([], [2, 3, 11, 12]) = true) : ZC P1 := by
  unfold disF at hd
  simp only [List.all_cons, List.all_nil, Bool.and_true, Bool.true_and, Bool.and_eq_true, Bool.not_eq_true'] at hd
  unfold ZC at h ⊢
  rw [hf.2 2 rfl hd.1, hf.2 3 rfl hd.2.1, hf.2 11 rfl hd.2.2.1, hf.2 12 rfl hd.2.2.2]
  exact h
theorem ZC.kind {P P1 : PH} {i K : Int} (h : ZC P) (hb : BdM P) (hi : 0 ≤ i ∧ i ≤ 1) (eK : P 2 i = K) (hk : K ≤ 3) (h11 : P 11 i = 0) (o3 : ∀ j : Int, j ≠ 4 * i + K → P1 3 j = P 3 j) (o2 : ∀ j : Int, j ≠ i → P1 2 j = P 2 j) (r11 : ∀ j, P1 11 j = P 11 j) (r12 : ∀ j, P1 12 j = P 12 j) : ZC P1 := by
  intro b c hb0 hb1 hc0 hc1
  rw [r11] at hc1
  have hne : b ≠ i := fun e => by rw [e, h11] at hc1; omega
  have q2 := bl_2 (k := b) hb
  have q2i := bl_2 (k := i) hb
  have q12 := bl_12 (k := 4 * b + c) hb
  rw [r12, o2 b hne]
  rcases h b c hb0 hb1 hc0 hc1 with h1 | ⟨h1, h2⟩
  · exact Or.inl h1
  · exact Or.inr ⟨h1, by rw [o3 _ (by omega)]; exact h2⟩
theorem ZC.con {P P1 : PH} {i : Int} (h : ZC P) (o3 : ∀ j : Int, j ≠ i → P1 3 j = P 3 j) (e3 : P 3 i ≤ P1 3 i) (r2 : ∀ j, P1 2 j = P 2 j) (r11 : ∀ j, P1 11 j = P 11 j) (r12 : ∀ j, P1 12 j = P 12 j) : ZC P1 := by
  intro b c hb0 hb1 hc0 hc1
  rw [r11] at hc1
  rw [r12, r2]
  rcases h b c hb0 hb1 hc0 hc1 with h1 | ⟨h1, h2⟩
  · exact Or.inl h1
  · right
    refine ⟨h1, ?_⟩
    by_cases e : 4 * b + P 12 (4 * b + c) = i
    · rw [e] at h2 ⊢; omega
    · rw [o3 _ e]; exact h2
theorem ZC.col {P P1 : PH} {i n z : Int} (h : ZC P) (hi : 0 ≤ i ∧ i ≤ 1) (en : P 11 i = n) (hn : 0 ≤ n ∧ n ≤ 3) (o12 : ∀ j : Int, j ≠ 4 * i + n → P1 12 j = P 12 j) (e12 : P1 12 (4 * i + n) = z) (o11 : ∀ j : Int, j ≠ i → P1 11 j = P 11 j) (e11 : P1 11 i = n + 1) (h4 : P 11 (1 - i) ≤ 4) (hz : z = 4 ∨ (z < P 2 i ∧ 1 ≤ P 3 (4 * i + z))) (r2 : ∀ j, P1 2 j = P 2 j) (r3 : ∀ j, P1 3 j = P 3 j) : ZC P1 := by
  intro b c hb0 hb1 hc0 hc1
  rw [r2, r3]
  by_cases e : b = i
  · by_cases e2 : c = n
    · rw [e, e2, e12]
      exact hz
    · rw [e, e11] at hc1
      rw [o12 _ (by omega)]
      exact h b c hb0 hb1 hc0 (by rw [e]; omega)
  · rw [o11 b e] at hc1
    have hb9 : b = 1 - i := by omega
    rw [o12 _ (by rw [hb9] at hc1 ⊢; omega)]
    exact h b c hb0 hb1 hc0 hc1
/-- before the match there is neither a column nor an arm -/
def ZI (P : PH) : Prop := P 0 38 = 0 → P 11 (P 0 37) = 0 ∧ P 13 (P 0 37) = 0
theorem ZI.fr {P P1 : PH} {F : FS} (h : ZI P) (hf : FrM F P P1) (hd : disF F ([37, 38], [11, 13]) = true) : ZI P1 := by
  unfold disF at hd
  simp only [List.all_cons, List.all_nil, Bool.and_true, Bool.and_eq_true, Bool.not_eq_true'] at hd
  unfold ZI at h ⊢
  rw [hf.1 37 hd.1.1, hf.1 38 hd.1.2, hf.2 11 rfl hd.2.1, hf.2 13 rfl hd.2.2]
  exact h
/-- the con that is being told -/
def ZN (P : PH) : Prop := P 6 (24 * P 0 37 + P 5 (P 0 37)) = P 2 (P 0 37) - 1 ∧ P 9 (24 * P 0 37 + P 5 (P 0 37)) = P 3 (4 * P 0 37 + (P 2 (P 0 37) - 1)) ∧ ZV P (P 0 37) (24 * P 0 37 + P 5 (P 0 37))
theorem ZN.fr {P P1 : PH} {F : FS} (h : ZN P) (hf : FrM F P P1) (hd : disF F ([37], [2, 3, 5, 6, 7, 8, 9, 10]) = true) : ZN P1 := by
  unfold disF at hd
  simp only [List.all_cons, List.all_nil, Bool.and_true, Bool.true_and, Bool.and_eq_true, Bool.not_eq_true'] at hd
  unfold ZN ZV vals at h ⊢
  rw [hf.1 37 hd.1, hf.2 2 rfl hd.2.1, hf.2 3 rfl hd.2.2.1, hf.2 5 rfl hd.2.2.2.1, hf.2 6 rfl hd.2.2.2.2.1, hf.2 7 rfl hd.2.2.2.2.2.1, hf.2 8 rfl hd.2.2.2.2.2.2.1, hf.2 9 rfl hd.2.2.2.2.2.2.2.1, hf.2 10 rfl hd.2.2.2.2.2.2.2.2]
  exact h
theorem ZN.new {P1 : PH} {i c k n : Int} (e37 : P1 0 37 = i) (e5 : P1 5 i = n) (e2 : P1 2 i = k + 1) (hc : c = 24 * i + n) (e6 : P1 6 c = k) (e9 : P1 9 c = P1 3 (4 * i + k)) (e7 : P1 7 c = 0) (e10 : P1 10 c = 1) : ZN P1 := by
  unfold ZN
  rw [e37, e5, e2, ← hc, show k + 1 - 1 = k by omega]
  exact ⟨e6, e9, Or.inl ⟨e7, e10⟩⟩
theorem ZN.field {P P1 : PH} {i c z : Int} (h : ZN P) (e37 : P 0 37 = i) (e37' : P1 0 37 = i) (hc : c = 24 * i + P 5 i) (h7 : 0 ≤ P 7 c ∧ P 7 c ≤ 1) (r2 : ∀ j, P1 2 j = P 2 j) (r3 : ∀ j, P1 3 j = P 3 j) (r5 : ∀ j, P1 5 j = P 5 j) (r6 : ∀ j, P1 6 j = P 6 j) (r9 : ∀ j, P1 9 j = P 9 j) (e7 : P1 7 c = P 7 c + 1) (o8 : ∀ j : Int, j ≠ 2 * c + P 7 c → P1 8 j = P 8 j) (e8 : P1 8 (2 * c + P 7 c) = z) (hz : 1 ≤ vals P i z) (e10 : P1 10 c = P 10 c * vals P i z) : ZN P1 := by
  obtain ⟨h1, h2, h3⟩ := h
  rw [e37, ← hc] at h1 h2 h3
  unfold ZN
  rw [e37', r5, ← hc, r6, r2, r9, r3]
  refine ⟨h1, h2, ?_⟩
  have hv : ∀ x, vals P1 i x = vals P i x := fun x => vals_eq fun _ => r3 _
  unfold ZV at h3 ⊢
  rw [e7, e10, hv, hv]
  rcases h3 with ⟨a, b⟩ | ⟨a, b, d⟩ | ⟨a, _⟩
  · right; left
    rw [a, show 2 * c + 0 = 2 * c by omega] at e8
    rw [e8, b, a]
    exact ⟨rfl, hz, by omega⟩
  · right; right
    rw [a] at e8
    rw [o8 (2 * c) (by omega), e8, a, d]
    exact ⟨rfl, b, hz, rfl⟩
  · omega
/-- the con is counted -/
theorem ZT.con {P P1 : PH} {i k : Int} (h : ZT P) (hn : ZN P) (hcf : CF P) (hb : BdM P) (hi : 0 ≤ i ∧ i ≤ 1) (e37 : P 0 37 = i) (e2 : P 2 i = k + 1) (hk : 0 ≤ k) (o3 : ∀ j : Int, j ≠ 4 * i + k → P1 3 j = P 3 j) (o5 : ∀ j : Int, j ≠ i → P1 5 j = P 5 j) (e5 : P1 5 i = P 5 i + 1) (r2 : ∀ j, P1 2 j = P 2 j) (r6 : ∀ j, P1 6 j = P 6 j) (r7 : ∀ j, P1 7 j = P 7 j) (r8 : ∀ j, P1 8 j = P 8 j) (r10 : ∀ j, P1 10 j = P 10 j) : ZT P1 := by
  obtain ⟨n1, n2, n3⟩ := hn
  rw [e37] at n1 n2 n3
  intro b c hb0 hb1 hc0 hc1
  have q2i := bl_2 (k := i) hb
  rcases (show (b = i ∧ c = P 5 i) ∨ c < P 5 b by
    by_cases e : b = i
    · rw [e, e5] at hc1; rw [e]; omega
    · rw [o5 b e] at hc1; exact Or.inr hc1) with ⟨eb, ec⟩ | hc2
  · rw [eb, ec]
    refine ⟨by rw [r6, r2]; omega, n3.eq (r7 _) (r10 _) (fun f f0 f1 => ⟨r8 _, vals_eq fun e4 => o3 _ fun hh => ?_⟩)⟩
    have q := hcf (24 * i + P 5 i) f f0 f1
    omega
  · obtain ⟨h1, h2⟩ := h b c hb0 hb1 hc0 hc2
    refine ⟨by rw [r6, r2]; exact h1, h2.eq (r7 _) (r10 _) (fun f f0 f1 => ⟨r8 _, vals_eq fun e4 => o3 _ fun hh => ?_⟩)⟩
    have q := hcf (24 * b + c) f f0 f1
    have q8 := bl_8 (k := 2 * (24 * b + c) + f) hb
    by_cases e : b = i
    · have e9 : P 2 b = P 2 i := by rw [e]
      omega
    · omega
theorem ZO.con {P P1 : PH} {i k : Int} (h : ZO P) (hn : ZN P) (hb : BdM P) (hi : 0 ≤ i ∧ i ≤ 1) (e37 : P 0 37 = i) (e2 : P 2 i = k + 1) (hk : 0 ≤ k) (o3 : ∀ j : Int, j ≠ 4 * i + k → P1 3 j = P 3 j) (e3 : P1 3 (4 * i + k) = P 3 (4 * i + k) + P 10 (24 * i + P 5 i)) (o5 : ∀ j : Int, j ≠ i → P1 5 j = P 5 j) (e5 : P1 5 i = P 5 i + 1) (r2 : ∀ j, P1 2 j = P 2 j) (r6 : ∀ j, P1 6 j = P 6 j) (r9 : ∀ j, P1 9 j = P 9 j) (r10 : ∀ j, P1 10 j = P 10 j) : ZO P1 := by
  obtain ⟨n1, n2, n3⟩ := hn
  rw [e37] at n1 n2 n3
  intro b k1 v hb0 hb1 hk0 hk1 hv0 hv1
  rw [r2] at hk1
  have q5 := bl_5 (k := i) hb
  have h5 : P 5 b ≤ P1 5 b := by
    by_cases e : b = i
    · rw [e, e5]; omega
    · rw [o5 b e]; omega
  rw [e2, show k + 1 - 1 = k by omega] at n1 n2
  by_cases hlt : v < P 3 (4 * b + k1)
  · obtain ⟨c, a1, a2, a3, a4, a5⟩ := h b k1 v hb0 hb1 hk0 hk1 hv0 hlt
    exact ⟨c, a1, by omega, by rw [r6]; exact a3, by rw [r9]; exact a4, by rw [r9, r10]; exact a5⟩
  · have hix : 4 * b + k1 = 4 * i + k := Classical.byContradiction fun e => by rw [o3 _ e] at hv1; omega
    have q2 := bl_2 (k := b) hb
    have q2i := bl_2 (k := i) hb
    have hbi : b = i := by omega
    have hki : k1 = k := by omega
    subst hbi hki
    rw [e3] at hv1
    exact ⟨P 5 b, by omega, by rw [e5]; omega, by rw [r6]; exact n1, by rw [r9]; omega, by rw [r9, r10]; omega⟩
/-- how many rows the columns make -/
def prdU (P : PH) (b : Int) : Nat → Int
  | 0 => 1
  | n + 1 => prdU P b n * vals P b (P 12 (4 * b + (n : Int)))
theorem prdU_eq {P P1 : PH} {b : Int} (h3 : ∀ j, P1 3 j = P 3 j) : ∀ n : Nat, (∀ j : Int, 4 * b ≤ j → j < 4 * b + n → P1 12 j = P 12 j) → prdU P1 b n = prdU P b n := by
  intro n
  induction n with
  | zero => intro _; rfl
  | succ n ih =>
    intro h
    show prdU P1 b n * _ = prdU P b n * _
    rw [ih (fun j h0 h1 => h j h0 (by omega)), h _ (by omega) (by omega)]
    rw [vals_eq fun _ => h3 _]
theorem prdU_col {P P1 : PH} {b n z : Int} (hn : 0 ≤ n) (en : P 11 b = n) (o12 : ∀ j : Int, j ≠ 4 * b + n → P1 12 j = P 12 j) (e12 : P1 12 (4 * b + n) = z) (r3 : ∀ j, P1 3 j = P 3 j) (e11 : P1 11 b = n + 1) : prdU P1 b (P1 11 b).toNat = prdU P b (P 11 b).toNat * vals P b z := by
  rw [e11, en, show (n + 1).toNat = n.toNat + 1 by omega]
  show prdU P1 b n.toNat * _ = _
  rw [prdU_eq r3 n.toNat (fun j h0 h1 => o12 j (by omega)), show ((n.toNat : Nat) : Int) = n by omega, e12, vals_eq fun _ => r3 _]
/-- a number is the product of what the columns have -/
def PU (x b : Int) (P : PH) : Prop := x = prdU P b (P 11 b).toNat
theorem PU.fr {x b : Int} {P P1 : PH} {F : FS} (h : PU x b P) (hf : FrM F P P1) (hd : disF F ([], [3, 11, 12]) = true) : PU x b P1 := by
  unfold disF at hd
  simp only [List.all_cons, List.all_nil, Bool.and_true, Bool.true_and, Bool.and_eq_true, Bool.not_eq_true'] at hd
  unfold PU at h ⊢
  rw [hf.2 11 rfl hd.2.1, prdU_eq (P := P) (fun j => by rw [hf.2 3 rfl hd.1]) _ (fun j _ _ => by rw [hf.2 12 rfl hd.2.2])]
  exact h
theorem PU.zero {b : Int} {P : PH} (h : P 11 b = 0) : PU 1 b P := by unfold PU; rw [h]; rfl
theorem PU.col {x y b n z r : Int} {P P1 : PH} (h : PU y b P) (hx : x = y * r) (hr : r = vals P b z) (hn : 0 ≤ n) (en : P 11 b = n) (o12 : ∀ j : Int, j ≠ 4 * b + n → P1 12 j = P 12 j) (e12 : P1 12 (4 * b + n) = z) (r3 : ∀ j, P1 3 j = P 3 j) (e11 : P1 11 b = n + 1) : PU x b P1 := by
  unfold PU at h ⊢
  rw [prdU_col hn en o12 e12 r3 e11, ← h, ← hr, hx]
theorem prd0_le {P : PH} {b : Int} (h : P 11 b = 0) : prdU P b (P 11 b).toNat ≤ 20000 := by rw [h]; show (1 : Int) ≤ 20000; decide
theorem prd_fr {P P1 : PH} {F : FS} {b : Int} (hf : FrM F P P1) (hd : disF F ([], [3, 11, 12]) = true) : prdU P1 b (P1 11 b).toNat = prdU P b (P 11 b).toNat := by
  unfold disF at hd
  simp only [List.all_cons, List.all_nil, Bool.and_true, Bool.true_and, Bool.and_eq_true, Bool.not_eq_true'] at hd
  rw [hf.2 11 rfl hd.2.1, prdU_eq (P := P) (fun j => by rw [hf.2 3 rfl hd.1]) _ (fun j _ _ => by rw [hf.2 12 rfl hd.2.2])]
theorem ZC.vals1 {P : PH} (h : ZC P) {b c : Int} (hb : 0 ≤ b ∧ b ≤ 1) (hc : 0 ≤ c ∧ c < P 11 b) : 1 ≤ vals P b (P 12 (4 * b + c)) := by
  unfold vals
  rcases h b c hb.1 hb.2 hc.1 hc.2 with h | h
  · rw [if_pos h]; decide
  · by_cases e : P 12 (4 * b + c) = 4
    · rw [if_pos e]; decide
    · rw [if_neg e]; exact h.2
theorem prdU_pos {P : PH} (h : ZC P) {b : Int} (hb : 0 ≤ b ∧ b ≤ 1) : ∀ n : Nat, (n : Int) ≤ P 11 b → 1 ≤ prdU P b n := by
  intro n
  induction n with
  | zero => intro _; exact Int.le_refl 1
  | succ n ih =>
    intro hn
    have h1 := ih (by omega)
    have h2 := h.vals1 hb (c := (n : Int)) ⟨by omega, by omega⟩
    show 1 ≤ prdU P b n * _
    have := Int.mul_le_mul h1 h2 (by decide) (by omega)
    omega
theorem prdU_mono {P : PH} (h : ZC P) {b : Int} (hb : 0 ≤ b ∧ b ≤ 1) : ∀ n m : Nat, (n + m : Nat) ≤ (P 11 b).toNat → prdU P b n ≤ prdU P b (n + m) := by
  intro n m
  induction m with
  | zero => intro _; exact Int.le_refl _
  | succ m ih =>
    intro hn
    have h1 := ih (by omega)
    have h2 := h.vals1 hb (c := ((n + m : Nat) : Int)) ⟨by omega, by omega⟩
    have h3 := prdU_pos h hb (n + m) (by omega)
    show _ ≤ prdU P b (n + m) * vals P b (P 12 (4 * b + ((n + m : Nat) : Int)))
    have := Int.mul_le_mul_of_nonneg_left h2 (show 0 ≤ prdU P b (n + m) by omega)
    omega
/-- the product up to a column -/
theorem prdU_lt {P : PH} (h : ZC P) {b c : Int} (hb : 0 ≤ b ∧ b ≤ 1) (hc : 0 ≤ c ∧ c < P 11 b) (ht : prdU P b (P 11 b).toNat ≤ 20000) : prdU P b (c + 1).toNat = prdU P b c.toNat * vals P b (P 12 (4 * b + c)) ∧ 1 ≤ prdU P b (c + 1).toNat ∧ prdU P b (c + 1).toNat ≤ 20000 := by
  have e : (c + 1).toNat = c.toNat + 1 := by omega
  have h1 := prdU_pos h hb (c.toNat + 1) (by omega)
  have h2 := prdU_mono h hb (c.toNat + 1) ((P 11 b).toNat - (c.toNat + 1)) (by omega)
  rw [show c.toNat + 1 + ((P 11 b).toNat - (c.toNat + 1)) = (P 11 b).toNat by omega] at h2
  rw [e]
  refine ⟨?_, h1, by omega⟩
  show prdU P b c.toNat * vals P b (P 12 (4 * b + (c.toNat : Int))) = _
  rw [show ((c.toNat : Nat) : Int) = c by omega]
theorem ZC.okC {P : PH} (h : ZC P) (hb : BdM P) : okC P := by
  intro c c0 c1
  have q := b0_13 hb
  rcases h (P 0 13) c q.1 q.2 c0 c1 with h | h
  · exact Or.inl h
  · exact Or.inr h.2
end
