section
section
/-! Contracts of the reference: m6. -/
set_option maxRecDepth 100000 in
set_option maxHeartbeats 4000000 in
theorem m_X12_nextBranch (G : GT) (P : PH) (a1 : Int) (h_a1 : 0 ≤ a1 ∧ a1 ≤ 39) (hB : BdM P) (p_o : 0 ≤ P 55 a1 ∧ P 55 a1 ≤ 2009) (v_MV : MV P) (Q : Option PV → PH → Prop) (hQ : ∀ (r : Int) (_ : (-1) ≤ r ∧ r ≤ 65535) (P1 : PH) (_ : BdM P1) (_ : FrM ([78], [49, 50, 55]) P P1) (_ : r = -1 ∨ wgt r + 1 ≤ wgt (P 54 a1)) (_ : r = -1 ∨ (0 ≤ P1 55 a1 ∧ P1 55 a1 ≤ 2009)) (_ : ∀ j : Int, j ≠ a1 → P1 55 j = P 55 j) (_ : MV P1), Q (some (vI r)) P1) : Ct WSM G 5 iX12_nextBranch [vR 0, vI a1] P Q := by
  refine Ct.of (by decide) (l0 := [(0, vR 0), (1, vI a1)]) rfl (Nat.le_of_ble_eq_true rfl) ?_
  refine g_aload_n dX12_nextBranch_0 rfl ?_
  refine m_g83 rfl dX12_nextBranch_1 ?_
  refine g_iload_n dX12_nextBranch_4 rfl ?_
  refine m_l54 (z := (P 54 a1)) dX12_nextBranch_5 ⟨by omega, by omega⟩ rfl ?_
  refine g_istore_n (l1 := [(2, vI (P 54 a1)), (0, vR 0), (1, vI a1)]) dX12_nextBranch_6 (by decide) rfl ?_
  refine g_aload_n dX12_nextBranch_7 rfl ?_
  refine g_iload_n dX12_nextBranch_8 rfl ?_
  have f1 := bl_54 (k := a1) hB
  refine g_vI (av := [vI (P 54 a1)]) (o := 0) (st := []) (m_X12_asksFor G P (P 54 a1) ⟨by have q0 := bl_54 (k := a1) hB; omega, by have q0 := bl_54 (k := a1) hB; omega⟩ hB v_MV _ (fun rc2 hc2 Pc2 hBc2 hFc2 gc2_b vc2_MV => ⟨rc2, rfl, ?_⟩)) cf_X12_asksFor t_2020 rfl (by decide) rfl rfl rfl (Nat.le_of_ble_eq_true rfl) (by decide) rfl dX12_nextBranch_9
  refine g_istore_n (l1 := [(3, vI rc2), (2, vI (P 54 a1)), (0, vR 0), (1, vI a1)]) dX12_nextBranch_12 (by decide) rfl ?_
  refine g_iload_n dX12_nextBranch_13 rfl ?_
  refine g_iconst dX12_nextBranch_14 ?_
  refine g_icmp_ne (tgt := 55) dX12_nextBranch_15 (by decide) ⟨by omega, by omega⟩ (by decide) (fun k3 => ?_) (fun k3 => ?_)
  · have L55_3 : ∀ (n55_3 : Nat) (H55_3 : PH) (hB55_3 : BdM H55_3) (hE55_3 : FrM ([], [55]) Pc2 H55_3) (i55_0_3 : 0 ≤ H55_3 55 a1 ∧ H55_3 55 a1 ≤ 2009) (i55_1_3 : ∀ j : Int, j ≠ a1 → H55_3 55 j = P 55 j) (hm55_3 : (2010 - H55_3 55 a1 : Int).toNat < n55_3), Go WSM G 5 iX12_nextBranch 55 [(0, vR 0), (1, vI a1), (2, vI (P 54 a1)), (3, vI rc2)] [] H55_3 Q := by
      intro n55_3
      induction n55_3 with
      | zero => intro H55_3 hB55_3 hE55_3 i55_0_3 i55_1_3 hm55_3; exact absurd hm55_3 (Nat.not_lt_zero _)
      | succ n55_3 ih55_3 =>
      intro H55_3 hB55_3 hE55_3 i55_0_3 i55_1_3 hm55_3
      refine g_aload_n dX12_nextBranch_55 rfl ?_
      refine m_g84 rfl dX12_nextBranch_56 ?_
      refine g_iload_n dX12_nextBranch_59 rfl ?_
      refine m_l55 (z := (H55_3 55 a1)) dX12_nextBranch_60 ⟨by omega, by omega⟩ rfl ?_
      refine g_aload_n dX12_nextBranch_61 rfl ?_
      refine m_g50 rfl dX12_nextBranch_62 ?_
      refine g_iload_n dX12_nextBranch_65 rfl ?_
      refine m_l33 (z := (P 33 rc2)) dX12_nextBranch_66 ⟨by omega, by omega⟩ ((congrFun (hE55_3.2 33 rfl rfl) _).trans ((congrFun (hFc2.2 33 rfl rfl) _).trans rfl)) ?_
      have f41 := bl_55 (k := a1) hB55_3
      have f42 := bl_33 (k := rc2) hB
      refine g_icmp_ge (tgt := 125) dX12_nextBranch_67 (by decide) ⟨by have q0 := bl_55 (k := a1) hB55_3; omega, by have q0 := bl_55 (k := a1) hB55_3; omega⟩ ⟨by have q0 := bl_33 (k := rc2) hB; omega, by have q0 := bl_33 (k := rc2) hB; omega⟩ (fun k43 => ?_) (fun k43 => ?_)
      · refine g_iconst dX12_nextBranch_125 ?_
        exact g_retI dX12_nextBranch_126 rfl (hQ (-1) (by decide) _ hB55_3 (FrM.c (FrM.c FrM.rf hFc2 rfl) hE55_3 rfl) (by have q0 := (((congrFun (hE55_3.2 54 rfl rfl) _).trans ((congrFun (hFc2.2 54 rfl rfl) _).trans rfl)) : H55_3 54 a1 = (P 54 a1)); have q1 := bl_54 (k := a1) hB; omega) (by have q0 := bl_55 (k := a1) hB55_3; omega) (fun j hj => (i55_1_3 j hj)) (MV.fr (F := ([], [55])) vc2_MV (FrM.c FrM.rf hE55_3 rfl) rfl))
      · refine g_aload_n dX12_nextBranch_70 rfl ?_
        refine m_g84 rfl dX12_nextBranch_71 ?_
        refine g_iload_n dX12_nextBranch_74 rfl ?_
        refine m_l55 (z := (H55_3 55 a1)) dX12_nextBranch_75 ⟨by omega, by omega⟩ rfl ?_
        refine g_istore (l1 := [(4, vI (H55_3 55 a1)), (0, vR 0), (1, vI a1), (2, vI (P 54 a1)), (3, vI rc2)]) dX12_nextBranch_76 (by decide) rfl ?_
        refine g_aload_n dX12_nextBranch_78 rfl ?_
        refine m_g84 rfl dX12_nextBranch_79 ?_
        refine g_iload_n dX12_nextBranch_82 rfl ?_
        refine g_dup2 dX12_nextBranch_83 rfl rfl ?_
        refine m_l55 (z := (H55_3 55 a1)) dX12_nextBranch_84 ⟨by omega, by omega⟩ rfl ?_
        refine g_iconst dX12_nextBranch_85 ?_
        refine g_iadd dX12_nextBranch_86 ?_
        refine m_s55 dX12_nextBranch_87 ⟨by omega, by omega⟩ ?_
        have hB44 := ba_55 (z := ((H55_3 55 a1) + 1)) (k := a1) hB55_3 ⟨by have q0 := bl_55 (k := a1) hB55_3; omega, by have q0 := bl_55 (k := a1) hB55_3; omega⟩
        refine g_aload_n dX12_nextBranch_88 rfl ?_
        refine g_iload_n dX12_nextBranch_89 rfl ?_
        refine g_sI (av := [vI (P 54 a1)]) (st := [vR 0]) (m_X12_armsIn G (up H55_3 55 a1 ((H55_3 55 a1) + 1)) (P 54 a1) ⟨by have q0 := bl_54 (k := a1) hB; omega, by have q0 := bl_54 (k := a1) hB; omega⟩ hB44  _ (fun rc45 hc45 gc45_v => ⟨rc45, rfl, ?_⟩)) cf_X12_armsIn t_2017 rfl (Nat.le_of_ble_eq_true rfl) (by decide) rfl dX12_nextBranch_90
        refine g_iload_n dX12_nextBranch_93 rfl ?_
        refine g_iload dX12_nextBranch_94 rfl ?_
        refine g_vI (av := [vI rc45, vI rc2, vI (H55_3 55 a1)]) (o := 0) (st := []) (m_X12_isNewSet G (up H55_3 55 a1 ((H55_3 55 a1) + 1)) rc45 rc2 (H55_3 55 a1) ⟨by omega, by omega⟩ ⟨by omega, by omega⟩ ⟨by have q0 := bl_55 (k := a1) hB55_3; omega, by have q0 := bl_55 (k := a1) hB55_3; omega⟩ hB44  _ (fun rc46 hc46 => ⟨rc46, rfl, ?_⟩)) cf_X12_isNewSet t_2081 rfl (by decide) rfl rfl rfl (Nat.le_of_ble_eq_true rfl) (by decide) rfl dX12_nextBranch_96
        refine g_if_eq (tgt := 122) dX12_nextBranch_99 (by decide) ⟨by omega, by omega⟩ (fun k47 => ?_) (fun k47 => ?_)
        · refine g_goto (tgt := 55) dX12_nextBranch_122 (by decide) ?_
          refine g_forget (l1 := [(0, vR 0), (1, vI a1), (2, vI (P 54 a1)), (3, vI rc2)]) (by intro q hq; simp only [List.mem_cons, List.not_mem_nil, or_false] at hq ⊢; rcases hq with rfl | rfl | rfl | rfl <;> simp) ?_
          exact ih55_3 _ hB44 (FrM.a (FrM.c FrM.rf hE55_3 rfl) rfl rfl) (by have q0 := (up_same : (up H55_3 55 a1 ((H55_3 55 a1) + 1)) 55 a1 = ((H55_3 55 a1) + 1)); have q1 := bl_55 (k := a1) hB55_3; omega) (fun j hj => ((up_k hj).trans (i55_1_3 j hj))) (by have q0 := (up_same : (up H55_3 55 a1 ((H55_3 55 a1) + 1)) 55 a1 = ((H55_3 55 a1) + 1)); have q1 := bl_55 (k := a1) hB55_3; omega)
        · refine g_aload_n dX12_nextBranch_102 rfl ?_
          refine g_iload_n dX12_nextBranch_103 rfl ?_
          refine g_iload_n dX12_nextBranch_104 rfl ?_
          refine g_aload_n dX12_nextBranch_105 rfl ?_
          refine m_g63 rfl dX12_nextBranch_106 ?_
          refine g_sipush dX12_nextBranch_109 (by decide) ?_
          refine g_iload_n dX12_nextBranch_112 rfl ?_
          refine g_imul dX12_nextBranch_113 ?_
          refine g_iload dX12_nextBranch_114 rfl ?_
          refine g_iadd dX12_nextBranch_116 ?_
          refine m_l41 (z := (P 41 ((2010 * rc2) + (H55_3 55 a1)))) dX12_nextBranch_117 ⟨by have q0 := bl_55 (k := a1) hB55_3; omega, by have q0 := bl_55 (k := a1) hB55_3; omega⟩ ((up_o (by decide)).trans ((congrFun (hE55_3.2 41 rfl rfl) _).trans ((congrFun (hFc2.2 41 rfl rfl) _).trans rfl))) ?_
          have f48 := bl_41 (k := ((2010 * rc2) + (H55_3 55 a1))) hB
          refine g_vI (av := [vI (P 54 a1), vI rc2, vI (P 41 ((2010 * rc2) + (H55_3 55 a1)))]) (o := 0) (st := []) (m_X12_branchOf G (up H55_3 55 a1 ((H55_3 55 a1) + 1)) (P 54 a1) rc2 (P 41 ((2010 * rc2) + (H55_3 55 a1))) ⟨by have q0 := bl_54 (k := a1) hB; omega, by have q0 := bl_54 (k := a1) hB; omega⟩ ⟨by omega, by omega⟩ ⟨by have q0 := bl_41 (k := ((2010 * rc2) + (H55_3 55 a1))) hB; omega, by have q0 := bl_41 (k := ((2010 * rc2) + (H55_3 55 a1))) hB; omega⟩ hB44  _ (fun rc49 hc49 gc49_lt gc49_le gc49_wl => ⟨rc49, rfl, ?_⟩)) cf_X12_branchOf t_2037 rfl (by decide) rfl rfl rfl (Nat.le_of_ble_eq_true rfl) (by decide) rfl dX12_nextBranch_118
          exact g_retI dX12_nextBranch_121 rfl (hQ rc49 ⟨by omega, by omega⟩ _ hB44 (FrM.a (FrM.c (FrM.c FrM.rf hFc2 rfl) hE55_3 rfl) rfl rfl) (by have q0 := (((up_o (by decide)).trans ((congrFun (hE55_3.2 54 rfl rfl) _).trans ((congrFun (hFc2.2 54 rfl rfl) _).trans rfl))) : (up H55_3 55 a1 ((H55_3 55 a1) + 1)) 54 a1 = (P 54 a1)); have q1 := bl_54 (k := a1) hB; omega) (by have q0 := (up_same : (up H55_3 55 a1 ((H55_3 55 a1) + 1)) 55 a1 = ((H55_3 55 a1) + 1)); have q1 := bl_55 (k := a1) hB55_3; omega) (fun j hj => ((up_k hj).trans (i55_1_3 j hj))) (MV.fr (F := ([], [55])) vc2_MV (FrM.a (FrM.c FrM.rf hE55_3 rfl) rfl rfl) rfl))
    refine g_forget (l1 := [(0, vR 0), (1, vI a1), (2, vI (P 54 a1)), (3, vI rc2)]) (by intro q hq; simp only [List.mem_cons, List.not_mem_nil, or_false] at hq ⊢; rcases hq with rfl | rfl | rfl | rfl <;> simp) ?_
    exact L55_3 _ _ hBc2 FrM.rf (by have q0 := (((congrFun (hFc2.2 55 rfl rfl) _).trans rfl) : Pc2 55 a1 = (P 55 a1)); have q1 := bl_55 (k := a1) hB; omega) (fun j hj => ((congrFun (hFc2.2 55 rfl rfl) _).trans rfl)) (Nat.lt_succ_self _)
  · refine g_aload_n dX12_nextBranch_18 rfl ?_
    refine m_g84 rfl dX12_nextBranch_19 ?_
    refine g_iload_n dX12_nextBranch_22 rfl ?_
    refine g_dup2 dX12_nextBranch_23 rfl rfl ?_
    refine m_l55 (z := (P 55 a1)) dX12_nextBranch_24 ⟨by omega, by omega⟩ ((congrFun (hFc2.2 55 rfl rfl) _).trans rfl) ?_
    refine g_iconst dX12_nextBranch_25 ?_
    refine g_iadd dX12_nextBranch_26 ?_
    refine g_norm (fun r50 h_r50 e_r50 => ?_)
    refine m_s55 dX12_nextBranch_27 ⟨by omega, by omega⟩ ?_
    have hB51 := ba_55 (z := r50) (k := a1) hBc2 ⟨by omega, by omega⟩
    refine g_aload_n dX12_nextBranch_28 rfl ?_
    refine m_g84 rfl dX12_nextBranch_29 ?_
    refine g_iload_n dX12_nextBranch_32 rfl ?_
    refine m_l55 (z := r50) dX12_nextBranch_33 ⟨by omega, by omega⟩ up_same ?_
    refine g_iconst dX12_nextBranch_34 ?_
    refine g_icmp_ne (tgt := 53) dX12_nextBranch_35 (by decide) ⟨by omega, by omega⟩ (by decide) (fun k52 => ?_) (fun k52 => ?_)
    · refine g_iconst dX12_nextBranch_53 ?_
      exact g_retI dX12_nextBranch_54 rfl (hQ (-1) (by decide) _ hB51 (FrM.a (FrM.c FrM.rf hFc2 rfl) rfl rfl) (by have q0 := (((up_o (by decide)).trans ((congrFun (hFc2.2 54 rfl rfl) _).trans rfl)) : (up Pc2 55 a1 r50) 54 a1 = (P 54 a1)); have q1 := bl_54 (k := a1) hB; omega) (by have q0 := (up_same : (up Pc2 55 a1 r50) 55 a1 = r50); omega) (fun j hj => ((up_k hj).trans ((congrFun (hFc2.2 55 rfl rfl) _).trans rfl))) (MV.fr (F := ([], [55])) vc2_MV (FrM.a FrM.rf rfl rfl) rfl))
    · refine g_aload_n dX12_nextBranch_38 rfl ?_
      refine g_iload_n dX12_nextBranch_39 rfl ?_
      refine g_vI (av := [vI (P 54 a1)]) (o := 0) (st := []) (m_X12_isDoor G (up Pc2 55 a1 r50) (P 54 a1) ⟨by have q0 := bl_54 (k := a1) hB; omega, by have q0 := bl_54 (k := a1) hB; omega⟩ hB51 (MV.fr (F := ([], [55])) vc2_MV (FrM.a FrM.rf rfl rfl) rfl) _ (fun rc53 hc53 Pc53 hBc53 hFc53 gc53_d vc53_MV => ⟨rc53, rfl, ?_⟩)) cf_X12_isDoor t_2049 rfl (by decide) rfl rfl rfl (Nat.le_of_ble_eq_true rfl) (by decide) rfl dX12_nextBranch_40
      refine g_if_eq (tgt := 53) dX12_nextBranch_43 (by decide) ⟨by omega, by omega⟩ (fun k54 => ?_) (fun k54 => ?_)
      · refine g_iconst dX12_nextBranch_53 ?_
        exact g_retI dX12_nextBranch_54 rfl (hQ (-1) (by decide) _ hBc53 (FrM.c (FrM.a (FrM.c FrM.rf hFc2 rfl) rfl rfl) hFc53 rfl) (by have q0 := (((congrFun (hFc53.2 54 rfl rfl) _).trans ((up_o (by decide)).trans ((congrFun (hFc2.2 54 rfl rfl) _).trans rfl))) : Pc53 54 a1 = (P 54 a1)); have q1 := bl_54 (k := a1) hB; omega) (by have q0 := (((congrFun (hFc53.2 55 rfl rfl) _).trans up_same) : Pc53 55 a1 = r50); omega) (fun j hj => ((congrFun (hFc53.2 55 rfl rfl) _).trans ((up_k hj).trans ((congrFun (hFc2.2 55 rfl rfl) _).trans rfl)))) vc53_MV)
      · refine g_iload_n dX12_nextBranch_46 rfl ?_
        refine g_sI (av := [vI (P 54 a1)]) (st := []) (m_X12_throughDoor G Pc53 (P 54 a1) ⟨by have q0 := bl_54 (k := a1) hB; omega, by have q0 := bl_54 (k := a1) hB; omega⟩ hBc53  _ (fun rc55 hc55 gc55_lt gc55_le gc55_wl => ⟨rc55, rfl, ?_⟩)) cf_X12_throughDoor t_2034 rfl (Nat.le_of_ble_eq_true rfl) (by decide) rfl dX12_nextBranch_47
        refine g_goto (tgt := 54) dX12_nextBranch_50 (by decide) ?_
        exact g_retI dX12_nextBranch_54 rfl (hQ rc55 ⟨by omega, by omega⟩ _ hBc53 (FrM.c (FrM.a (FrM.c FrM.rf hFc2 rfl) rfl rfl) hFc53 rfl) (by have q0 := (((congrFun (hFc53.2 54 rfl rfl) _).trans ((up_o (by decide)).trans ((congrFun (hFc2.2 54 rfl rfl) _).trans rfl))) : Pc53 54 a1 = (P 54 a1)); have q1 := bl_54 (k := a1) hB; omega) (by have q0 := (((congrFun (hFc53.2 55 rfl rfl) _).trans up_same) : Pc53 55 a1 = r50); omega) (fun j hj => ((congrFun (hFc53.2 55 rfl rfl) _).trans ((up_k hj).trans ((congrFun (hFc2.2 55 rfl rfl) _).trans rfl)))) vc53_MV)
set_option maxRecDepth 100000 in
set_option maxHeartbeats 4000000 in
theorem m_X12_builds (G : GT) (P : PH) (hB : BdM P) (p_b : 1 ≤ P 16 (P 0 13) ∧ P 16 (P 0 13) ≤ 999) (v_MV : MV P) (Q : Option PV → PH → Prop) (hQ : ∀ (P1 : PH) (_ : BdM P1) (_ : FrM ([78, 87, 88, 89, 90], [49, 50, 54, 55, 56, 57]) P P1) (_ : MV P1), Q none P1) : Ct WSM G 6 iX12_builds [vR 0] P Q := by
  refine Ct.of (by decide) (l0 := [(0, vR 0)]) rfl (Nat.le_of_ble_eq_true rfl) ?_
  refine g_aload_n dX12_builds_0 rfl ?_
  refine g_iconst dX12_builds_1 ?_
  refine m_p87 rfl dX12_builds_2 ?_
  have hB1 := bs_87 (z := 0) hB (by decide)
  refine g_aload_n dX12_builds_5 rfl ?_
  refine g_iconst dX12_builds_6 ?_
  refine m_p88 rfl dX12_builds_7 ?_
  have hB2 := bs_88 (z := 0) hB1 (by decide)
  refine g_aload_n dX12_builds_10 rfl ?_
  refine g_iconst dX12_builds_11 ?_
  refine m_p89 rfl dX12_builds_12 ?_
  have hB3 := bs_89 (z := 0) hB2 (by decide)
  refine g_aload_n dX12_builds_15 rfl ?_
  refine g_iconst dX12_builds_16 ?_
  refine m_p90 rfl dX12_builds_17 (by decide) ?_
  have hB4 := bs_90 (z := 0) hB3 (by decide)
  refine g_iconst dX12_builds_20 ?_
  refine g_istore_n (l1 := [(1, vI 0), (0, vR 0)]) dX12_builds_21 (by decide) rfl ?_
  refine g_aload_n dX12_builds_22 rfl ?_
  refine g_iconst dX12_builds_23 ?_
  refine g_aload_n dX12_builds_24 rfl ?_
  refine g_vI (av := []) (o := 0) (st := [vI 0, vR 0]) (m_X12_root G (up (up (up (up P 0 87 0) 0 88 0) 0 89 0) 0 90 0)  hB4  _ (fun rc5 hc5 => ⟨rc5, rfl, ?_⟩)) cf_X12_root t_2010 rfl (by decide) rfl rfl rfl (Nat.le_of_ble_eq_true rfl) (by decide) rfl dX12_builds_25
  refine g_vV (av := [vI 0, vI rc5]) (o := 0) (st := []) (m_X12_opensScope G (up (up (up (up P 0 87 0) 0 88 0) 0 89 0) 0 90 0) 0 rc5 (by decide) ⟨by omega, by omega⟩ hB4 (by have q0 := (((up_k (by decide)).trans ((up_k (by decide)).trans ((up_k (by decide)).trans up_same))) : (up (up (up (up P 0 87 0) 0 88 0) 0 89 0) 0 90 0) 0 87 = 0); omega) _ (fun Pc6 hBc6 hFc6 gc6_s gc6_n gc6_l gc6_nq gc6_lq => ⟨rfl, ?_⟩)) cf_X12_opensScope t_2073 rfl (by decide) rfl rfl rfl (Nat.le_of_ble_eq_true rfl) (by decide) rfl dX12_builds_28
  have z7 : (up (up (up (up P 0 87 0) 0 88 0) 0 89 0) 0 90 0) 0 87 = 0 := ((up_k (by decide)).trans ((up_k (by decide)).trans ((up_k (by decide)).trans up_same)))
  have hn2 : ∀ j : Int, 0 ≤ j → j ≤ 0 → 0 ≤ Pc6 55 j ∧ Pc6 55 j ≤ 2009 := fun j h0 h1 => by rw [show j = 0 by omega, gc6_n]; exact ⟨by omega, by omega⟩
  have hn3 : ∀ j : Int, 0 ≤ j → j ≤ 0 → wgt (Pc6 54 j) + j ≤ 24 := fun j h0 h1 => by rw [show j = 0 by omega]; have q := wgt_b (Pc6 54 0); omega
  have L31_7 : ∀ (n31_7 : Nat) (x31_1_7 : Int) (h_x31_1_7 : (-1) ≤ x31_1_7 ∧ x31_1_7 ≤ 24) (H31_7 : PH) (hB31_7 : BdM H31_7) (hE31_7 : FrM ([78, 87, 88, 89, 90], [49, 50, 54, 55, 56, 57]) Pc6 H31_7) (i31_0_7 : H31_7 0 88 + x31_1_7 + 1 = H31_7 0 87) (i31_1_7 : H31_7 0 87 ≤ P 16 (P 0 13)) (i31_2_7 : ∀ j : Int, 0 ≤ j → j ≤ x31_1_7 → 0 ≤ H31_7 55 j ∧ H31_7 55 j ≤ 2009) (i31_3_7 : ∀ j : Int, 0 ≤ j → j ≤ x31_1_7 → wgt (H31_7 54 j) + j ≤ 24) (w31_MV_7 : MV H31_7) (w31_MVw_7 : MVw H31_7) (hm31_7 : (2 * (1000 - H31_7 0 87) + x31_1_7 + 1 : Int).toNat < n31_7), Go WSM G 6 iX12_builds 31 [(0, vR 0), (1, vI x31_1_7)] [] H31_7 Q := by
    intro n31_7
    induction n31_7 with
    | zero => intro x31_1_7 h_x31_1_7 H31_7 hB31_7 hE31_7 i31_0_7 i31_1_7 i31_2_7 i31_3_7 w31_MV_7 w31_MVw_7 hm31_7; exact absurd hm31_7 (Nat.not_lt_zero _)
    | succ n31_7 ih31_7 =>
    intro x31_1_7 h_x31_1_7 H31_7 hB31_7 hE31_7 i31_0_7 i31_1_7 i31_2_7 i31_3_7 w31_MV_7 w31_MVw_7 hm31_7
    refine g_iload_n dX12_builds_31 rfl ?_
    refine g_if_lt (tgt := 133) dX12_builds_32 (by decide) ⟨by omega, by omega⟩ (fun k100 => ?_) (fun k100 => ?_)
    · exact g_retV dX12_builds_133 rfl (hQ _ hB31_7 (FrM.c (FrM.c (FrM.s (FrM.s (FrM.s (FrM.s FrM.rf rfl) rfl) rfl) rfl) hFc6 rfl) hE31_7 rfl) w31_MV_7)
    · refine g_aload_n dX12_builds_35 rfl ?_
      refine m_g90 (z := (H31_7 0 90)) rfl dX12_builds_36 rfl ?_
      have f101 := b0_90 hB31_7
      refine g_if_eq (tgt := 46) dX12_builds_39 (by decide) ⟨by have q0 := b0_90 hB31_7; omega, by have q0 := b0_90 hB31_7; omega⟩ (fun k102 => ?_) (fun k102 => ?_)
      · refine g_aload_n dX12_builds_46 rfl ?_
        refine g_iload_n dX12_builds_47 rfl ?_
        refine g_vI (av := [vI x31_1_7]) (o := 0) (st := []) (m_X12_nextBranch G H31_7 x31_1_7 ⟨by omega, by omega⟩ hB31_7 (by have q0 := i31_2_7 x31_1_7 (by omega) (by omega); have q1 := bl_55 (k := x31_1_7) hB31_7; omega) w31_MV_7 _ (fun rc103 hc103 Pc103 hBc103 hFc103 gc103_w gc103_o gc103_q vc103_MV => ⟨rc103, rfl, ?_⟩)) cf_X12_nextBranch t_2077 rfl (by decide) rfl rfl rfl (Nat.le_of_ble_eq_true rfl) (by decide) rfl dX12_builds_48
        have hb9 : ∀ j : Int, j = x31_1_7 → rc103 = -1 ∨ (0 ≤ Pc103 55 j ∧ Pc103 55 j ≤ 2009) := fun j hj => by rw [hj]; exact gc103_o
        have hw8 := wgt_b rc103
        have hw9 : rc103 = -1 ∨ wgt rc103 + x31_1_7 + 1 ≤ 24 := by have q := i31_3_7 x31_1_7 (by omega) (by omega); omega
        have h29 : ∀ j : Int, 0 ≤ j → j ≤ x31_1_7 - 1 → 0 ≤ Pc103 55 j ∧ Pc103 55 j ≤ 2009 := fun j h0 h1 => by rw [gc103_q j (by omega)]; exact i31_2_7 j h0 (by omega)
        have h39 : ∀ j : Int, 0 ≤ j → j ≤ x31_1_7 → wgt (Pc103 54 j) + j ≤ 24 := fun j h0 h1 => by rw [congrFun (hFc103.2 54 rfl rfl) j]; exact i31_3_7 j h0 h1
        refine g_istore_n (l1 := [(2, vI rc103), (0, vR 0), (1, vI x31_1_7)]) dX12_builds_51 (by decide) rfl ?_
        refine g_iload_n dX12_builds_52 rfl ?_
        refine g_iconst dX12_builds_53 ?_
        refine g_icmp_eq (tgt := 78) dX12_builds_54 (by decide) ⟨by omega, by omega⟩ (by decide) (fun k104 => ?_) (fun k104 => ?_)
        · refine g_iload_n dX12_builds_78 rfl ?_
          refine g_iconst dX12_builds_79 ?_
          refine g_icmp_eq (tgt := 102) dX12_builds_80 (by decide) ⟨by omega, by omega⟩ (by decide) (fun k105 => ?_) (fun k105 => by exfalso; omega)
          refine g_aload_n dX12_builds_102 rfl ?_
          refine m_g86 rfl dX12_builds_103 ?_
          refine g_aload_n dX12_builds_106 rfl ?_
          refine m_g88 (z := (H31_7 0 88)) rfl dX12_builds_107 ((hFc103.1 88 rfl).trans rfl) ?_
          refine g_aload_n dX12_builds_110 rfl ?_
          refine m_g85 rfl dX12_builds_111 ?_
          refine g_iload_n dX12_builds_114 rfl ?_
          refine m_l56 (z := (H31_7 56 x31_1_7)) dX12_builds_115 ⟨by omega, by omega⟩ ((congrFun (hFc103.2 56 rfl rfl) _).trans rfl) ?_
          refine m_s57 dX12_builds_116 ⟨by have q0 := b0_88 hB31_7; omega, by have q0 := b0_88 hB31_7; omega⟩ ?_
          have hB106 := ba_57 (z := (H31_7 56 x31_1_7)) (k := (H31_7 0 88)) hBc103 ⟨by have q0 := bl_56 (k := x31_1_7) hB31_7; omega, by have q0 := bl_56 (k := x31_1_7) hB31_7; omega⟩
          refine g_aload_n dX12_builds_117 rfl ?_
          refine g_dup dX12_builds_118 rfl ?_
          refine m_g88 (z := (H31_7 0 88)) rfl dX12_builds_119 ((up_o (by decide)).trans ((hFc103.1 88 rfl).trans rfl)) ?_
          refine g_iconst dX12_builds_122 ?_
          refine g_iadd dX12_builds_123 ?_
          refine m_p88 rfl dX12_builds_124 ?_
          have hB107 := bs_88 (z := ((H31_7 0 88) + 1)) hB106 ⟨by have q0 := b0_88 hB31_7; omega, by have q0 := b0_88 hB31_7; omega⟩
          refine g_iinc (l1 := [(1, vI (x31_1_7 + (-1))), (2, vI rc103), (0, vR 0)]) dX12_builds_127 rfl (by decide) rfl ?_
          have hn2 : ∀ j : Int, 0 ≤ j → j ≤ (x31_1_7 + (-1)) → 0 ≤ (up (up Pc103 57 (H31_7 0 88) (H31_7 56 x31_1_7)) 0 88 ((H31_7 0 88) + 1)) 55 j ∧ (up (up Pc103 57 (H31_7 0 88) (H31_7 56 x31_1_7)) 0 88 ((H31_7 0 88) + 1)) 55 j ≤ 2009 := fun j h0 h1 => by
            rw [show (up (up Pc103 57 (H31_7 0 88) (H31_7 56 x31_1_7)) 0 88 ((H31_7 0 88) + 1)) 55 j = _ from ((up_o (by decide)).trans ((up_o (by decide)).trans rfl))]
            first | exact h29 j h0 (by omega) | exact i31_2_7 j h0 (by omega)
          have hn3 : ∀ j : Int, 0 ≤ j → j ≤ (x31_1_7 + (-1)) → wgt ((up (up Pc103 57 (H31_7 0 88) (H31_7 56 x31_1_7)) 0 88 ((H31_7 0 88) + 1)) 54 j) + j ≤ 24 := fun j h0 h1 => by
            rw [show (up (up Pc103 57 (H31_7 0 88) (H31_7 56 x31_1_7)) 0 88 ((H31_7 0 88) + 1)) 54 j = _ from ((up_o (by decide)).trans ((up_o (by decide)).trans ((congrFun (hFc103.2 54 rfl rfl) _).trans rfl)))]
            first | exact h39 j h0 (by omega) | exact i31_3_7 j h0 (by omega)
          refine g_goto (tgt := 31) dX12_builds_130 (by decide) ?_
          refine g_forget (l1 := [(0, vR 0), (1, vI (x31_1_7 + (-1)))]) (by intro q hq; simp only [List.mem_cons, List.not_mem_nil, or_false] at hq ⊢; rcases hq with rfl | rfl <;> simp) ?_
          exact ih31_7 (x31_1_7 + (-1)) ⟨by omega, by omega⟩ _ hB107 (FrM.s (FrM.a (FrM.c (FrM.c FrM.rf hE31_7 rfl) hFc103 rfl) rfl rfl) rfl) (by have q0 := (up_same : (up (up Pc103 57 (H31_7 0 88) (H31_7 56 x31_1_7)) 0 88 ((H31_7 0 88) + 1)) 0 88 = ((H31_7 0 88) + 1)); have q1 := b0_88 hB31_7; have q2 := (((up_k (by decide)).trans ((up_o (by decide)).trans ((hFc103.1 87 rfl).trans rfl))) : (up (up Pc103 57 (H31_7 0 88) (H31_7 56 x31_1_7)) 0 88 ((H31_7 0 88) + 1)) 0 87 = (H31_7 0 87)); have q3 := b0_87 hB31_7; omega) (by have q0 := (((up_k (by decide)).trans ((up_o (by decide)).trans ((hFc103.1 87 rfl).trans rfl))) : (up (up Pc103 57 (H31_7 0 88) (H31_7 56 x31_1_7)) 0 88 ((H31_7 0 88) + 1)) 0 87 = (H31_7 0 87)); have q1 := b0_87 hB31_7; omega) (hn2) (hn3) (MV.fr (F := ([88], [57])) vc103_MV (FrM.s (FrM.a FrM.rf rfl rfl) rfl) rfl) ((MV.fr (F := ([88], [57])) vc103_MV (FrM.s (FrM.a FrM.rf rfl rfl) rfl) rfl).w) (by have q0 := (((up_k (by decide)).trans ((up_o (by decide)).trans ((hFc103.1 87 rfl).trans rfl))) : (up (up Pc103 57 (H31_7 0 88) (H31_7 56 x31_1_7)) 0 88 ((H31_7 0 88) + 1)) 0 87 = (H31_7 0 87)); have q1 := b0_87 hB31_7; omega)
        · refine g_aload_n dX12_builds_57 rfl ?_
          refine m_g87 (z := (H31_7 0 87)) rfl dX12_builds_58 ((hFc103.1 87 rfl).trans rfl) ?_
          refine g_aload_n dX12_builds_61 rfl ?_
          refine m_g28 rfl dX12_builds_62 ?_
          refine g_aload_n dX12_builds_65 rfl ?_
          refine m_g13 (z := (P 0 13)) rfl dX12_builds_66 ((hFc103.1 13 rfl).trans ((hE31_7.1 13 rfl).trans ((hFc6.1 13 rfl).trans ((up_k (by decide)).trans ((up_k (by decide)).trans ((up_k (by decide)).trans ((up_k (by decide)).trans rfl))))))) ?_
          refine m_l16 (z := (P 16 (P 0 13))) dX12_builds_69 ⟨by have q0 := b0_13 hB; omega, by have q0 := b0_13 hB; omega⟩ ((congrFun (hFc103.2 16 rfl rfl) _).trans ((congrFun (hE31_7.2 16 rfl rfl) _).trans ((congrFun (hFc6.2 16 rfl rfl) _).trans ((up_o (by decide)).trans ((up_o (by decide)).trans ((up_o (by decide)).trans ((up_o (by decide)).trans rfl))))))) ?_
          have f108 := b0_87 hB31_7
          have f109 := bl_16 (k := (P 0 13)) hB
          refine g_icmp_ne (tgt := 78) dX12_builds_70 (by decide) ⟨by have q0 := b0_87 hB31_7; omega, by have q0 := b0_87 hB31_7; omega⟩ ⟨by have q0 := bl_16 (k := (P 0 13)) hB; omega, by have q0 := bl_16 (k := (P 0 13)) hB; omega⟩ (fun k110 => ?_) (fun k110 => ?_)
          · refine g_iload_n dX12_builds_78 rfl ?_
            refine g_iconst dX12_builds_79 ?_
            refine g_icmp_eq (tgt := 102) dX12_builds_80 (by decide) ⟨by omega, by omega⟩ (by decide) (fun k111 => by exfalso; omega) (fun k111 => ?_)
            refine g_aload_n dX12_builds_83 rfl ?_
            refine m_g90 (z := (H31_7 0 90)) rfl dX12_builds_84 ((hFc103.1 90 rfl).trans rfl) ?_
            refine g_if_ne (tgt := 102) dX12_builds_87 (by decide) ⟨by have q0 := b0_90 hB31_7; omega, by have q0 := b0_90 hB31_7; omega⟩ (fun k112 => by exfalso; have q0 := b0_90 hB31_7; omega) (fun k112 => ?_)
            refine g_iinc (l1 := [(1, vI (x31_1_7 + 1)), (2, vI rc103), (0, vR 0)]) dX12_builds_90 rfl (by decide) rfl ?_
            refine g_aload_n dX12_builds_93 rfl ?_
            refine g_iload_n dX12_builds_94 rfl ?_
            refine g_iload_n dX12_builds_95 rfl ?_
            refine g_vV (av := [vI (x31_1_7 + 1), vI rc103]) (o := 0) (st := []) (m_X12_opensScope G Pc103 (x31_1_7 + 1) rc103 ⟨by omega, by omega⟩ ⟨by omega, by omega⟩ hBc103 (by have q0 := (((hFc103.1 87 rfl).trans rfl) : Pc103 0 87 = (H31_7 0 87)); have q1 := b0_87 hB31_7; omega) _ (fun Pc113 hBc113 hFc113 gc113_s gc113_n gc113_l gc113_nq gc113_lq => ⟨rfl, ?_⟩)) cf_X12_opensScope t_2073 rfl (by decide) rfl rfl rfl (Nat.le_of_ble_eq_true rfl) (by decide) rfl dX12_builds_96
            have z114 : Pc103 0 87 = (H31_7 0 87) := ((hFc103.1 87 rfl).trans rfl)
            have hn2 : ∀ j : Int, 0 ≤ j → j ≤ (x31_1_7 + 1) → 0 ≤ Pc113 55 j ∧ Pc113 55 j ≤ 2009 := fun j h0 h1 => by
              rcases (show j = (x31_1_7 + 1) ∨ j = (x31_1_7 + 1) - 1 ∨ j ≤ (x31_1_7 + 1) - 2 by omega) with h | h | h
              · rw [h, gc113_n]; exact ⟨by omega, by omega⟩
              · rw [gc113_nq j (by omega)]; have q := hb9 j (by omega); omega
              · rw [gc113_nq j (by omega)]; exact h29 j h0 (by omega)
            have hn3 : ∀ j : Int, 0 ≤ j → j ≤ (x31_1_7 + 1) → wgt (Pc113 54 j) + j ≤ 24 := fun j h0 h1 => by
              rcases (show j = (x31_1_7 + 1) ∨ j ≤ (x31_1_7 + 1) - 1 by omega) with h | h
              · rw [h, gc113_l]; omega
              · rw [gc113_lq j (by omega)]; exact h39 j h0 (by omega)
            refine g_goto (tgt := 31) dX12_builds_99 (by decide) ?_
            refine g_forget (l1 := [(0, vR 0), (1, vI (x31_1_7 + 1))]) (by intro q hq; simp only [List.mem_cons, List.not_mem_nil, or_false] at hq ⊢; rcases hq with rfl | rfl <;> simp) ?_
            exact ih31_7 (x31_1_7 + 1) ⟨by omega, by omega⟩ _ hBc113 (FrM.c (FrM.c (FrM.c FrM.rf hE31_7 rfl) hFc103 rfl) hFc113 rfl) (by have q0 := (((hFc113.1 88 rfl).trans ((hFc103.1 88 rfl).trans rfl)) : Pc113 0 88 = (H31_7 0 88)); have q1 := b0_88 hB31_7; have q2 := b0_87 hBc113; omega) (by have q0 := b0_87 hBc113; omega) (hn2) (hn3) (MV.fr (F := ([87, 89], [54, 55, 56])) vc103_MV (FrM.c FrM.rf hFc113 rfl) rfl) ((MV.fr (F := ([87, 89], [54, 55, 56])) vc103_MV (FrM.c FrM.rf hFc113 rfl) rfl).w) (by have q0 := b0_87 hBc113; omega)
          · refine g_aload_n dX12_builds_73 rfl ?_
            refine g_iconst dX12_builds_74 ?_
            refine m_p90 rfl dX12_builds_75 (by decide) ?_
            have hB115 := bs_90 (z := 1) hBc103 (by decide)
            refine g_iload_n dX12_builds_78 rfl ?_
            refine g_iconst dX12_builds_79 ?_
            refine g_icmp_eq (tgt := 102) dX12_builds_80 (by decide) ⟨by omega, by omega⟩ (by decide) (fun k116 => by exfalso; omega) (fun k116 => ?_)
            refine g_aload_n dX12_builds_83 rfl ?_
            refine m_g90 (z := 1) rfl dX12_builds_84 up_same ?_
            refine g_if_ne (tgt := 102) dX12_builds_87 (by decide) (by decide) (fun k117 => ?_) (fun k117 => by exfalso; omega)
            refine g_aload_n dX12_builds_102 rfl ?_
            refine m_g86 rfl dX12_builds_103 ?_
            refine g_aload_n dX12_builds_106 rfl ?_
            refine m_g88 (z := (H31_7 0 88)) rfl dX12_builds_107 ((up_k (by decide)).trans ((hFc103.1 88 rfl).trans rfl)) ?_
            refine g_aload_n dX12_builds_110 rfl ?_
            refine m_g85 rfl dX12_builds_111 ?_
            refine g_iload_n dX12_builds_114 rfl ?_
            refine m_l56 (z := (H31_7 56 x31_1_7)) dX12_builds_115 ⟨by omega, by omega⟩ ((up_o (by decide)).trans ((congrFun (hFc103.2 56 rfl rfl) _).trans rfl)) ?_
            refine m_s57 dX12_builds_116 ⟨by have q0 := b0_88 hB31_7; omega, by have q0 := b0_88 hB31_7; omega⟩ ?_
            have hB118 := ba_57 (z := (H31_7 56 x31_1_7)) (k := (H31_7 0 88)) hB115 ⟨by have q0 := bl_56 (k := x31_1_7) hB31_7; omega, by have q0 := bl_56 (k := x31_1_7) hB31_7; omega⟩
            refine g_aload_n dX12_builds_117 rfl ?_
            refine g_dup dX12_builds_118 rfl ?_
            refine m_g88 (z := (H31_7 0 88)) rfl dX12_builds_119 ((up_o (by decide)).trans ((up_k (by decide)).trans ((hFc103.1 88 rfl).trans rfl))) ?_
            refine g_iconst dX12_builds_122 ?_
            refine g_iadd dX12_builds_123 ?_
            refine m_p88 rfl dX12_builds_124 ?_
            have hB119 := bs_88 (z := ((H31_7 0 88) + 1)) hB118 ⟨by have q0 := b0_88 hB31_7; omega, by have q0 := b0_88 hB31_7; omega⟩
            refine g_iinc (l1 := [(1, vI (x31_1_7 + (-1))), (2, vI rc103), (0, vR 0)]) dX12_builds_127 rfl (by decide) rfl ?_
            have hn2 : ∀ j : Int, 0 ≤ j → j ≤ (x31_1_7 + (-1)) → 0 ≤ (up (up (up Pc103 0 90 1) 57 (H31_7 0 88) (H31_7 56 x31_1_7)) 0 88 ((H31_7 0 88) + 1)) 55 j ∧ (up (up (up Pc103 0 90 1) 57 (H31_7 0 88) (H31_7 56 x31_1_7)) 0 88 ((H31_7 0 88) + 1)) 55 j ≤ 2009 := fun j h0 h1 => by
              rw [show (up (up (up Pc103 0 90 1) 57 (H31_7 0 88) (H31_7 56 x31_1_7)) 0 88 ((H31_7 0 88) + 1)) 55 j = _ from ((up_o (by decide)).trans ((up_o (by decide)).trans ((up_o (by decide)).trans rfl)))]
              first | exact h29 j h0 (by omega) | exact i31_2_7 j h0 (by omega)
            have hn3 : ∀ j : Int, 0 ≤ j → j ≤ (x31_1_7 + (-1)) → wgt ((up (up (up Pc103 0 90 1) 57 (H31_7 0 88) (H31_7 56 x31_1_7)) 0 88 ((H31_7 0 88) + 1)) 54 j) + j ≤ 24 := fun j h0 h1 => by
              rw [show (up (up (up Pc103 0 90 1) 57 (H31_7 0 88) (H31_7 56 x31_1_7)) 0 88 ((H31_7 0 88) + 1)) 54 j = _ from ((up_o (by decide)).trans ((up_o (by decide)).trans ((up_o (by decide)).trans ((congrFun (hFc103.2 54 rfl rfl) _).trans rfl))))]
              first | exact h39 j h0 (by omega) | exact i31_3_7 j h0 (by omega)
            refine g_goto (tgt := 31) dX12_builds_130 (by decide) ?_
            refine g_forget (l1 := [(0, vR 0), (1, vI (x31_1_7 + (-1)))]) (by intro q hq; simp only [List.mem_cons, List.not_mem_nil, or_false] at hq ⊢; rcases hq with rfl | rfl <;> simp) ?_
            exact ih31_7 (x31_1_7 + (-1)) ⟨by omega, by omega⟩ _ hB119 (FrM.s (FrM.a (FrM.s (FrM.c (FrM.c FrM.rf hE31_7 rfl) hFc103 rfl) rfl) rfl rfl) rfl) (by have q0 := (up_same : (up (up (up Pc103 0 90 1) 57 (H31_7 0 88) (H31_7 56 x31_1_7)) 0 88 ((H31_7 0 88) + 1)) 0 88 = ((H31_7 0 88) + 1)); have q1 := b0_88 hB31_7; have q2 := (((up_k (by decide)).trans ((up_o (by decide)).trans ((up_k (by decide)).trans ((hFc103.1 87 rfl).trans rfl)))) : (up (up (up Pc103 0 90 1) 57 (H31_7 0 88) (H31_7 56 x31_1_7)) 0 88 ((H31_7 0 88) + 1)) 0 87 = (H31_7 0 87)); have q3 := b0_87 hB31_7; omega) (by have q0 := (((up_k (by decide)).trans ((up_o (by decide)).trans ((up_k (by decide)).trans ((hFc103.1 87 rfl).trans rfl)))) : (up (up (up Pc103 0 90 1) 57 (H31_7 0 88) (H31_7 56 x31_1_7)) 0 88 ((H31_7 0 88) + 1)) 0 87 = (H31_7 0 87)); have q1 := b0_87 hB31_7; omega) (hn2) (hn3) (MV.fr (F := ([88, 90], [57])) vc103_MV (FrM.s (FrM.a (FrM.s FrM.rf rfl) rfl rfl) rfl) rfl) ((MV.fr (F := ([88, 90], [57])) vc103_MV (FrM.s (FrM.a (FrM.s FrM.rf rfl) rfl rfl) rfl) rfl).w) (by have q0 := (((up_k (by decide)).trans ((up_o (by decide)).trans ((up_k (by decide)).trans ((hFc103.1 87 rfl).trans rfl)))) : (up (up (up Pc103 0 90 1) 57 (H31_7 0 88) (H31_7 56 x31_1_7)) 0 88 ((H31_7 0 88) + 1)) 0 87 = (H31_7 0 87)); have q1 := b0_87 hB31_7; omega)
      · refine g_iconst dX12_builds_42 ?_
        refine g_goto (tgt := 51) dX12_builds_43 (by decide) ?_
        refine g_istore_n (l1 := [(2, vI (-1)), (0, vR 0), (1, vI x31_1_7)]) dX12_builds_51 (by decide) rfl ?_
        refine g_iload_n dX12_builds_52 rfl ?_
        refine g_iconst dX12_builds_53 ?_
        refine g_icmp_eq (tgt := 78) dX12_builds_54 (by decide) (by decide) (by decide) (fun k120 => ?_) (fun k120 => by exfalso; omega)
        refine g_iload_n dX12_builds_78 rfl ?_
        refine g_iconst dX12_builds_79 ?_
        refine g_icmp_eq (tgt := 102) dX12_builds_80 (by decide) (by decide) (by decide) (fun k121 => ?_) (fun k121 => by exfalso; omega)
        refine g_aload_n dX12_builds_102 rfl ?_
        refine m_g86 rfl dX12_builds_103 ?_
        refine g_aload_n dX12_builds_106 rfl ?_
        refine m_g88 (z := (H31_7 0 88)) rfl dX12_builds_107 rfl ?_
        refine g_aload_n dX12_builds_110 rfl ?_
        refine m_g85 rfl dX12_builds_111 ?_
        refine g_iload_n dX12_builds_114 rfl ?_
        refine m_l56 (z := (H31_7 56 x31_1_7)) dX12_builds_115 ⟨by omega, by omega⟩ rfl ?_
        refine m_s57 dX12_builds_116 ⟨by have q0 := b0_88 hB31_7; omega, by have q0 := b0_88 hB31_7; omega⟩ ?_
        have hB122 := ba_57 (z := (H31_7 56 x31_1_7)) (k := (H31_7 0 88)) hB31_7 ⟨by have q0 := bl_56 (k := x31_1_7) hB31_7; omega, by have q0 := bl_56 (k := x31_1_7) hB31_7; omega⟩
        refine g_aload_n dX12_builds_117 rfl ?_
        refine g_dup dX12_builds_118 rfl ?_
        refine m_g88 (z := (H31_7 0 88)) rfl dX12_builds_119 ((up_o (by decide)).trans rfl) ?_
        refine g_iconst dX12_builds_122 ?_
        refine g_iadd dX12_builds_123 ?_
        refine m_p88 rfl dX12_builds_124 ?_
        have hB123 := bs_88 (z := ((H31_7 0 88) + 1)) hB122 ⟨by have q0 := b0_88 hB31_7; omega, by have q0 := b0_88 hB31_7; omega⟩
        refine g_iinc (l1 := [(1, vI (x31_1_7 + (-1))), (2, vI (-1)), (0, vR 0)]) dX12_builds_127 rfl (by decide) rfl ?_
        have hn2 : ∀ j : Int, 0 ≤ j → j ≤ (x31_1_7 + (-1)) → 0 ≤ (up (up H31_7 57 (H31_7 0 88) (H31_7 56 x31_1_7)) 0 88 ((H31_7 0 88) + 1)) 55 j ∧ (up (up H31_7 57 (H31_7 0 88) (H31_7 56 x31_1_7)) 0 88 ((H31_7 0 88) + 1)) 55 j ≤ 2009 := fun j h0 h1 => by
          rw [show (up (up H31_7 57 (H31_7 0 88) (H31_7 56 x31_1_7)) 0 88 ((H31_7 0 88) + 1)) 55 j = _ from ((up_o (by decide)).trans ((up_o (by decide)).trans rfl))]
          first | exact h29 j h0 (by omega) | exact i31_2_7 j h0 (by omega)
        have hn3 : ∀ j : Int, 0 ≤ j → j ≤ (x31_1_7 + (-1)) → wgt ((up (up H31_7 57 (H31_7 0 88) (H31_7 56 x31_1_7)) 0 88 ((H31_7 0 88) + 1)) 54 j) + j ≤ 24 := fun j h0 h1 => by
          rw [show (up (up H31_7 57 (H31_7 0 88) (H31_7 56 x31_1_7)) 0 88 ((H31_7 0 88) + 1)) 54 j = _ from ((up_o (by decide)).trans ((up_o (by decide)).trans rfl))]
          first | exact h39 j h0 (by omega) | exact i31_3_7 j h0 (by omega)
        refine g_goto (tgt := 31) dX12_builds_130 (by decide) ?_
        refine g_forget (l1 := [(0, vR 0), (1, vI (x31_1_7 + (-1)))]) (by intro q hq; simp only [List.mem_cons, List.not_mem_nil, or_false] at hq ⊢; rcases hq with rfl | rfl <;> simp) ?_
        exact ih31_7 (x31_1_7 + (-1)) ⟨by omega, by omega⟩ _ hB123 (FrM.s (FrM.a (FrM.c FrM.rf hE31_7 rfl) rfl rfl) rfl) (by have q0 := (up_same : (up (up H31_7 57 (H31_7 0 88) (H31_7 56 x31_1_7)) 0 88 ((H31_7 0 88) + 1)) 0 88 = ((H31_7 0 88) + 1)); have q1 := b0_88 hB31_7; have q2 := (((up_k (by decide)).trans ((up_o (by decide)).trans rfl)) : (up (up H31_7 57 (H31_7 0 88) (H31_7 56 x31_1_7)) 0 88 ((H31_7 0 88) + 1)) 0 87 = (H31_7 0 87)); have q3 := b0_87 hB31_7; omega) (by have q0 := (((up_k (by decide)).trans ((up_o (by decide)).trans rfl)) : (up (up H31_7 57 (H31_7 0 88) (H31_7 56 x31_1_7)) 0 88 ((H31_7 0 88) + 1)) 0 87 = (H31_7 0 87)); have q1 := b0_87 hB31_7; omega) (hn2) (hn3) (MV.fr (F := ([88], [57])) w31_MV_7 (FrM.s (FrM.a FrM.rf rfl rfl) rfl) rfl) (MVw.fr (F := ([88], [57])) w31_MVw_7 (FrM.s (FrM.a FrM.rf rfl rfl) rfl) rfl) (by have q0 := (((up_k (by decide)).trans ((up_o (by decide)).trans rfl)) : (up (up H31_7 57 (H31_7 0 88) (H31_7 56 x31_1_7)) 0 88 ((H31_7 0 88) + 1)) 0 87 = (H31_7 0 87)); have q1 := b0_87 hB31_7; omega)
  refine g_forget (l1 := [(0, vR 0), (1, vI 0)]) (by intro q hq; simp only [List.mem_cons, List.not_mem_nil, or_false] at hq ⊢; rcases hq with rfl | rfl <;> simp) ?_
  exact L31_7 _ 0 (by decide) _ hBc6 FrM.rf (by have q0 := (((hFc6.1 88 rfl).trans ((up_k (by decide)).trans ((up_k (by decide)).trans up_same))) : Pc6 0 88 = 0); have q1 := b0_87 hBc6; omega) (by have q0 := b0_87 hBc6; omega) (hn2) (hn3) (MV.fr (F := ([87, 88, 89, 90], [54, 55, 56])) v_MV (FrM.c (FrM.s (FrM.s (FrM.s (FrM.s FrM.rf rfl) rfl) rfl) rfl) hFc6 rfl) rfl) ((MV.fr (F := ([87, 88, 89, 90], [54, 55, 56])) v_MV (FrM.c (FrM.s (FrM.s (FrM.s (FrM.s FrM.rf rfl) rfl) rfl) rfl) hFc6 rfl) rfl).w) (Nat.lt_succ_self _)
set_option maxRecDepth 100000 in
set_option maxHeartbeats 4000000 in
theorem m_X12_scopes (G : GT) (P : PH) (a1 : Int) (a2 : Int) (a3 : Int) (h_a1 : (-2147483648) ≤ a1 ∧ a1 ≤ 2147483647) (h_a2 : (-2147483648) ≤ a2 ∧ a2 ≤ 2147483647) (h_a3 : (-2147483648) ≤ a3 ∧ a3 ≤ 2147483647) (hB : BdM P) (p_st : P 0 74 ≤ 199999999) (v_okC : okC P) (v_okB : okB P) (v_MVw : MVw P) (v_RE : RE P) (Q : Option PV → PH → Prop) (hQ : ∀ (r : Int) (_ : (-2147483648) ≤ r ∧ r ≤ 2147483647) (P1 : PH) (_ : BdM P1) (_ : FrM ([62, 66, 74, 76, 78, 87, 88, 89, 90], [41, 42, 43, 49, 50, 54, 55, 56, 57]) P P1) (_ : P1 0 74 ≤ P 0 74 + 1) (_ : MVw P1) (_ : RE P1), Q (some (vI r)) P1) : Ct WSM G 7 iX12_scopes [vR 0, vI a1, vI a2, vI a3] P Q := by
  refine Ct.of (by decide) (l0 := [(0, vR 0), (1, vI a1), (2, vI a2), (3, vI a3)]) rfl (Nat.le_of_ble_eq_true rfl) ?_
  refine g_aload_n dX12_scopes_0 rfl ?_
  refine m_g44 (z := (P 0 44)) rfl dX12_scopes_1 rfl ?_
  have f1 := b0_44 hB
  refine g_if_eq (tgt := 25) dX12_scopes_4 (by decide) ⟨by have q0 := b0_44 hB; omega, by have q0 := b0_44 hB; omega⟩ (fun k2 => ?_) (fun k2 => ?_)
  · refine g_iconst dX12_scopes_25 ?_
    exact g_retI dX12_scopes_26 rfl (hQ (-1) (by decide) _ hB FrM.rf (by have q0 := b0_74 hB; omega) v_MVw v_RE)
  · refine g_iload_n dX12_scopes_7 rfl ?_
    refine g_iconst dX12_scopes_8 ?_
    refine g_iconst dX12_scopes_9 ?_
    refine g_sI (av := [vI a1, vI 0, vI 3]) (st := []) (m_X12_is G P a1 0 3 ⟨by omega, by omega⟩ (by decide) (by decide) hB  _ (fun rc3 hc3 gc3_is => ⟨rc3, rfl, ?_⟩)) cf_X12_is t_1800 rfl (Nat.le_of_ble_eq_true rfl) (by decide) rfl dX12_scopes_10
    refine g_if_eq (tgt := 25) dX12_scopes_13 (by decide) ⟨by omega, by omega⟩ (fun k4 => ?_) (fun k4 => ?_)
    · refine g_iconst dX12_scopes_25 ?_
      exact g_retI dX12_scopes_26 rfl (hQ (-1) (by decide) _ hB FrM.rf (by have q0 := b0_74 hB; omega) v_MVw v_RE)
    · refine g_iload_n dX12_scopes_16 rfl ?_
      refine g_iconst dX12_scopes_17 ?_
      refine g_iconst dX12_scopes_18 ?_
      refine g_sI (av := [vI a2, vI 0, vI 3]) (st := []) (m_X12_is G P a2 0 3 ⟨by omega, by omega⟩ (by decide) (by decide) hB  _ (fun rc5 hc5 gc5_is => ⟨rc5, rfl, ?_⟩)) cf_X12_is t_1800 rfl (Nat.le_of_ble_eq_true rfl) (by decide) rfl dX12_scopes_19
      refine g_if_ne (tgt := 27) dX12_scopes_22 (by decide) ⟨by omega, by omega⟩ (fun k6 => ?_) (fun k6 => ?_)
      · have hb := v_okB
        unfold okB at hb
        refine g_aload_n dX12_scopes_27 rfl ?_
        refine g_iconst dX12_scopes_28 ?_
        refine g_iload_n dX12_scopes_29 rfl ?_
        refine g_vV (av := [vI 0, vI a1]) (o := 0) (st := []) (m_X12_plants G P 0 a1 (by decide) ⟨by omega, by omega⟩ hB (by have q0 := b0_74 hB; omega) v_MVw v_RE _ (fun Pc7 hBc7 hFc7 gc7_st vc7_MV vc7_RE vc7_RLt => ⟨rfl, ?_⟩)) cf_X12_plants t_1998 rfl (by decide) rfl rfl rfl (Nat.le_of_ble_eq_true rfl) (by decide) rfl dX12_scopes_30
        refine g_aload_n dX12_scopes_33 rfl ?_
        refine g_vV (av := []) (o := 0) (st := []) (m_X12_builds G Pc7  hBc7 (by have q0 := (((congrFun (hFc7.2 16 rfl rfl) _).trans rfl) : Pc7 16 (Pc7 0 13) = (P 16 (Pc7 0 13))); have q1 := bl_16 (k := (Pc7 0 13)) hB; have q2 := ((congrArg (Pc7 16) ((hFc7.1 13 rfl).trans rfl)).trans ((congrFun (hFc7.2 16 rfl rfl) _).trans rfl) : Pc7 16 (Pc7 0 13) = (P 16 (P 0 13))); have q3 := bl_16 (k := (P 0 13)) hB; omega) vc7_MV _ (fun Pc8 hBc8 hFc8 vc8_MV => ⟨rfl, ?_⟩)) cf_X12_builds t_2069 rfl (by decide) rfl rfl rfl (Nat.le_of_ble_eq_true rfl) (by decide) rfl dX12_scopes_34
        refine g_iload_n dX12_scopes_37 rfl ?_
        refine g_iconst dX12_scopes_38 ?_
        refine g_icmp_ne (tgt := 67) dX12_scopes_39 (by decide) ⟨by omega, by omega⟩ (by decide) (fun k9 => ?_) (fun k9 => ?_)
        · refine g_iload_n dX12_scopes_67 rfl ?_
          refine g_if_ne (tgt := 78) dX12_scopes_68 (by decide) ⟨by omega, by omega⟩ (fun k10 => ?_) (fun k10 => ?_)
          · refine g_iload_n dX12_scopes_78 rfl ?_
            refine g_iconst dX12_scopes_79 ?_
            refine g_icmp_ne (tgt := 90) dX12_scopes_80 (by decide) ⟨by omega, by omega⟩ (by decide) (fun k11 => ?_) (fun k11 => ?_)
            · refine g_aload_n dX12_scopes_90 rfl ?_
              refine m_g90 (z := (Pc8 0 90)) rfl dX12_scopes_91 rfl ?_
              have f12 := b0_90 hBc8
              refine g_if_eq (tgt := 101) dX12_scopes_94 (by decide) ⟨by have q0 := b0_90 hBc8; omega, by have q0 := b0_90 hBc8; omega⟩ (fun k13 => ?_) (fun k13 => ?_)
              · refine g_iconst dX12_scopes_101 ?_
                exact g_retI dX12_scopes_102 rfl (hQ 0 (by decide) _ hBc8 (FrM.c (FrM.c FrM.rf hFc7 rfl) hFc8 rfl) (by have q0 := (((hFc8.1 74 rfl).trans rfl) : Pc8 0 74 = (Pc7 0 74)); have q1 := b0_74 hBc7; omega) (vc8_MV.w) (RE.fr (F := ([78, 87, 88, 89, 90], [49, 50, 54, 55, 56, 57])) vc7_RE (FrM.c FrM.rf hFc8 rfl) rfl))
              · refine g_iconst dX12_scopes_97 ?_
                refine g_goto (tgt := 102) dX12_scopes_98 (by decide) ?_
                exact g_retI dX12_scopes_102 rfl (hQ 1 (by decide) _ hBc8 (FrM.c (FrM.c FrM.rf hFc7 rfl) hFc8 rfl) (by have q0 := (((hFc8.1 74 rfl).trans rfl) : Pc8 0 74 = (Pc7 0 74)); have q1 := b0_74 hBc7; omega) (vc8_MV.w) (RE.fr (F := ([78, 87, 88, 89, 90], [49, 50, 54, 55, 56, 57])) vc7_RE (FrM.c FrM.rf hFc8 rfl) rfl))
            · refine g_aload_n dX12_scopes_83 rfl ?_
              refine m_g89 (z := (Pc8 0 89)) rfl dX12_scopes_84 rfl ?_
              refine g_goto (tgt := 102) dX12_scopes_87 (by decide) ?_
              exact g_retI dX12_scopes_102 rfl (hQ (Pc8 0 89) ⟨by have q0 := b0_89 hBc8; omega, by have q0 := b0_89 hBc8; omega⟩ _ hBc8 (FrM.c (FrM.c FrM.rf hFc7 rfl) hFc8 rfl) (by have q0 := b0_89 hBc8; have q1 := (((hFc8.1 74 rfl).trans rfl) : Pc8 0 74 = (Pc7 0 74)); have q2 := b0_74 hBc7; omega) (vc8_MV.w) (RE.fr (F := ([78, 87, 88, 89, 90], [49, 50, 54, 55, 56, 57])) vc7_RE (FrM.c FrM.rf hFc8 rfl) rfl))
          · refine g_aload_n dX12_scopes_71 rfl ?_
            refine m_g87 (z := (Pc8 0 87)) rfl dX12_scopes_72 rfl ?_
            refine g_goto (tgt := 102) dX12_scopes_75 (by decide) ?_
            exact g_retI dX12_scopes_102 rfl (hQ (Pc8 0 87) ⟨by have q0 := b0_87 hBc8; omega, by have q0 := b0_87 hBc8; omega⟩ _ hBc8 (FrM.c (FrM.c FrM.rf hFc7 rfl) hFc8 rfl) (by have q0 := b0_87 hBc8; have q1 := (((hFc8.1 74 rfl).trans rfl) : Pc8 0 74 = (Pc7 0 74)); have q2 := b0_74 hBc7; omega) (vc8_MV.w) (RE.fr (F := ([78, 87, 88, 89, 90], [49, 50, 54, 55, 56, 57])) vc7_RE (FrM.c FrM.rf hFc8 rfl) rfl))
        · refine g_iload_n dX12_scopes_42 rfl ?_
          refine g_iconst dX12_scopes_43 ?_
          refine g_aload_n dX12_scopes_44 rfl ?_
          refine m_g88 (z := (Pc8 0 88)) rfl dX12_scopes_45 rfl ?_
          refine g_iconst dX12_scopes_48 ?_
          refine g_isub dX12_scopes_49 ?_
          have f14 := b0_88 hBc8
          refine g_sI (av := [vI a3, vI 0, vI ((Pc8 0 88) - 1)]) (st := []) (m_X12_is G Pc8 a3 0 ((Pc8 0 88) - 1) ⟨by omega, by omega⟩ (by decide) ⟨by have q0 := b0_88 hBc8; omega, by have q0 := b0_88 hBc8; omega⟩ hBc8  _ (fun rc15 hc15 gc15_is => ⟨rc15, rfl, ?_⟩)) cf_X12_is t_1800 rfl (Nat.le_of_ble_eq_true rfl) (by decide) rfl dX12_scopes_50
          refine g_if_eq (tgt := 65) dX12_scopes_53 (by decide) ⟨by omega, by omega⟩ (fun k16 => ?_) (fun k16 => ?_)
          · refine g_iconst dX12_scopes_65 ?_
            exact g_retI dX12_scopes_66 rfl (hQ (-1) (by decide) _ hBc8 (FrM.c (FrM.c FrM.rf hFc7 rfl) hFc8 rfl) (by have q0 := (((hFc8.1 74 rfl).trans rfl) : Pc8 0 74 = (Pc7 0 74)); have q1 := b0_74 hBc7; omega) (vc8_MV.w) (RE.fr (F := ([78, 87, 88, 89, 90], [49, 50, 54, 55, 56, 57])) vc7_RE (FrM.c FrM.rf hFc8 rfl) rfl))
          · refine g_aload_n dX12_scopes_56 rfl ?_
            refine m_g86 rfl dX12_scopes_57 ?_
            refine g_iload_n dX12_scopes_60 rfl ?_
            refine m_l57 (z := (Pc8 57 a3)) dX12_scopes_61 ⟨by omega, by omega⟩ rfl ?_
            refine g_goto (tgt := 66) dX12_scopes_62 (by decide) ?_
            exact g_retI dX12_scopes_66 rfl (hQ (Pc8 57 a3) ⟨by have q0 := bl_57 (k := a3) hBc8; omega, by have q0 := bl_57 (k := a3) hBc8; omega⟩ _ hBc8 (FrM.c (FrM.c FrM.rf hFc7 rfl) hFc8 rfl) (by have q0 := bl_57 (k := a3) hBc8; have q1 := (((hFc8.1 74 rfl).trans rfl) : Pc8 0 74 = (Pc7 0 74)); have q2 := b0_74 hBc7; omega) (vc8_MV.w) (RE.fr (F := ([78, 87, 88, 89, 90], [49, 50, 54, 55, 56, 57])) vc7_RE (FrM.c FrM.rf hFc8 rfl) rfl))
      · refine g_iconst dX12_scopes_25 ?_
        exact g_retI dX12_scopes_26 rfl (hQ (-1) (by decide) _ hB FrM.rf (by have q0 := b0_74 hB; omega) v_MVw v_RE)
end
section
/-! What the reference's parser keeps of its tables. -/
/-- values and cons of a kind -/
def KVP (P : PH) : Prop := ∀ k : Int, P 3 k ≤ 2000 + P 4 k ∧ (P 4 k = 0 ∨ 1 ≤ P 3 k)
theorem KVP.fr {P P1 : PH} {F : FS} (h : KVP P) (hf : FrM F P P1) (hd : disF F ([], [3, 4]) = true) : KVP P1 := by
  unfold disF at hd
  simp only [List.all_cons, List.all_nil, Bool.and_true, Bool.true_and, Bool.and_eq_true, Bool.not_eq_true'] at hd
  unfold KVP at h ⊢
  rw [hf.2 3 rfl hd.1, hf.2 4 rfl hd.2]
  exact h
theorem KVP.step {P P1 : PH} {i : Int} (h : KVP P) (o3 : ∀ j : Int, j ≠ i → P1 3 j = P 3 j) (o4 : ∀ j : Int, j ≠ i → P1 4 j = P 4 j) (e : P1 3 i ≤ 2000 + P1 4 i ∧ (P1 4 i = 0 ∨ 1 ≤ P1 3 i)) : KVP P1 := by
  intro k
  by_cases hk : k = i
  · subst hk; exact e
  · rw [o3 k hk, o4 k hk]; exact h k
/-- how many cons there can be -/
def KC (P : PH) : Prop := (P 2 (P 0 37) = 0 ∧ P 5 (P 0 37) = 0) ∨ (1 ≤ P 2 (P 0 37) ∧ P 5 (P 0 37) ≤ 6 * P 2 (P 0 37) - 6 + P 4 (4 * P 0 37 + (P 2 (P 0 37) - 1)))
theorem KC.fr {P P1 : PH} {F : FS} (h : KC P) (hf : FrM F P P1) (hd : disF F ([37], [2, 4, 5]) = true) : KC P1 := by
  unfold disF at hd
  simp only [List.all_cons, List.all_nil, Bool.and_true, Bool.and_eq_true, Bool.not_eq_true'] at hd
  unfold KC at h ⊢
  rw [hf.1 37 hd.1, hf.2 2 rfl hd.2.1, hf.2 4 rfl hd.2.2.1, hf.2 5 rfl hd.2.2.2]
  exact h
theorem KC.kind {P P1 : PH} (h : KC P) (hb : BdM P) (e37 : P1 0 37 = P 0 37) (e2 : P1 2 (P 0 37) = P 2 (P 0 37) + 1) (e5 : P1 5 (P 0 37) = P 5 (P 0 37)) (e4 : P1 4 (4 * P 0 37 + P 2 (P 0 37)) = 0) : KC P1 := by
  unfold KC at h ⊢
  rw [e37, e2, e5, show 4 * P 0 37 + (P 2 (P 0 37) + 1 - 1) = 4 * P 0 37 + P 2 (P 0 37) by omega, e4]
  have q := bl_4 (k := 4 * P 0 37 + (P 2 (P 0 37) - 1)) hb
  rcases h with h | h
  · right; omega
  · right; omega
theorem KC.con {P P1 : PH} (h : KC P) (hk : 1 ≤ P 2 (P 0 37)) (e37 : P1 0 37 = P 0 37) (e2 : P1 2 (P 0 37) = P 2 (P 0 37)) (e5 : P1 5 (P 0 37) = P 5 (P 0 37) + 1) (e4 : P1 4 (4 * P 0 37 + (P 2 (P 0 37) - 1)) = P 4 (4 * P 0 37 + (P 2 (P 0 37) - 1)) + 1) : KC P1 := by
  unfold KC at h ⊢
  rw [e37, e2, e5, e4]
  right
  rcases h with h | h <;> omega
/-- a con's fields are of kinds before its own, or numbers -/
def CF (P : PH) : Prop := ∀ c f : Int, 0 ≤ f → f < P 7 c → P 8 (2 * c + f) = 4 ∨ P 8 (2 * c + f) < P 6 c
theorem CF.fr {P P1 : PH} {F : FS} (h : CF P) (hf : FrM F P P1) (hd : disF F ([], [6, 7, 8]) = true) : CF P1 := by
  unfold disF at hd
  simp only [List.all_cons, List.all_nil, Bool.and_true, Bool.true_and, Bool.and_eq_true, Bool.not_eq_true'] at hd
  unfold CF at h ⊢
  rw [hf.2 6 rfl hd.1, hf.2 7 rfl hd.2.1, hf.2 8 rfl hd.2.2]
  exact h
theorem CF.new {P P1 : PH} {c : Int} (h : CF P) (o6 : ∀ j : Int, j ≠ c → P1 6 j = P 6 j) (o7 : ∀ j : Int, j ≠ c → P1 7 j = P 7 j) (o8 : ∀ j : Int, P1 8 j = P 8 j) (e7 : P1 7 c = 0) : CF P1 := by
  intro d f h0 h1
  by_cases e : d = c
  · subst e; rw [e7] at h1; omega
  · rw [o7 d e] at h1; rw [o6 d e, o8]; exact h d f h0 h1
theorem CF.field {P P1 : PH} {c z : Int} (h : CF P) (hb : BdM P) (h7 : P 7 c ≤ 1) (e6 : ∀ j : Int, P1 6 j = P 6 j) (o7 : ∀ j : Int, j ≠ c → P1 7 j = P 7 j) (e7 : P1 7 c = P 7 c + 1) (o8 : ∀ j : Int, j ≠ 2 * c + P 7 c → P1 8 j = P 8 j) (e8 : P1 8 (2 * c + P 7 c) = z) (hz : z = 4 ∨ z < P 6 c) : CF P1 := by
  intro d f h0 h1
  have q7 := bl_7 (k := d) hb
  have q7c := bl_7 (k := c) hb
  by_cases e : d = c
  · subst e
    rw [e7] at h1
    rw [e6]
    rcases (show f = P 7 d ∨ f < P 7 d by omega) with e | e
    · rw [e, e8]; exact hz
    · rw [o8 _ (by omega)]; exact h d f h0 e
  · rw [o7 d e] at h1
    rw [e6, o8 _ (by omega)]
    exact h d f h0 h1
theorem mul_b {a b A B : Int} (ha : 1 ≤ a ∧ a ≤ A) (hb : 1 ≤ b ∧ b ≤ B) : 1 ≤ a * b ∧ a * b ≤ A * B := by
  have h1 : 1 * 1 ≤ a * b := Int.mul_le_mul ha.1 hb.1 (by omega) (by omega)
  have h2 : a * b ≤ A * B := Int.mul_le_mul ha.2 hb.2 (by omega) (by omega)
  omega
end
section
/-! The tables of kinds, cons, columns and codes, of both banks. -/
/-- the values of a con -/
def ZV (P : PH) (b c : Int) : Prop := (P 7 c = 0 ∧ P 10 c = 1) ∨ (P 7 c = 1 ∧ 1 ≤ vals P b (P 8 (2 * c)) ∧ P 10 c = vals P b (P 8 (2 * c))) ∨ (P 7 c = 2 ∧ 1 ≤ vals P b (P 8 (2 * c)) ∧ 1 ≤ vals P b (P 8 (2 * c + 1)) ∧ P 10 c = vals P b (P 8 (2 * c)) * vals P b (P 8 (2 * c + 1)))
theorem ZV.eq {P P1 : PH} {b c : Int} (h : ZV P b c) (e7 : P1 7 c = P 7 c) (e10 : P1 10 c = P 10 c) (e8 : ∀ f : Int, 0 ≤ f → f < P 7 c → P1 8 (2 * c + f) = P 8 (2 * c + f) ∧ vals P1 b (P 8 (2 * c + f)) = vals P b (P 8 (2 * c + f))) : ZV P1 b c := by
  have h0 := e8 0 (by omega)
  have h1 := e8 1 (by omega)
  rw [show 2 * c + 0 = 2 * c by omega] at h0
  unfold ZV at h ⊢
  rw [e7, e10]
  rcases h with h | h | h
  · exact Or.inl h
  · obtain ⟨a1, a2⟩ := h0 (by omega)
    rw [a1, a2]; exact Or.inr (Or.inl h)
  · obtain ⟨a1, a2⟩ := h0 (by omega)
    obtain ⟨b1, b2⟩ := h1 (by omega)
    rw [a1, a2, b1, b2]; exact Or.inr (Or.inr h)
/-- the cons of both banks -/
def ZT (P : PH) : Prop := ∀ b c : Int, 0 ≤ b → b ≤ 1 → 0 ≤ c → c < P 5 b → P 6 (24 * b + c) < P 2 b ∧ ZV P b (24 * b + c)
theorem ZT.fr {P P1 : PH} {F : FS} (h : ZT P) (hf : FrM F P P1) (hd : disF F ([], [2, 3, 5, 6, 7, 8, 10]) = true) : ZT P1 := by
  unfold disF at hd
  simp only [List.all_cons, List.all_nil, Bool.and_true, Bool.true_and, Bool.and_eq_true, Bool.not_eq_true'] at hd
  unfold ZT ZV vals at h ⊢
  rw [hf.2 2 rfl hd.1, hf.2 3 rfl hd.2.1, hf.2 5 rfl hd.2.2.1, hf.2 6 rfl hd.2.2.2.1, hf.2 7 rfl hd.2.2.2.2.1, hf.2 8 rfl hd.2.2.2.2.2.1, hf.2 10 rfl hd.2.2.2.2.2.2]
  exact h
theorem ZT.kind {P P1 : PH} {i K : Int} (h : ZT P) (hcf : CF P) (hb : BdM P) (eK : P 2 i = K) (hk : K ≤ 3) (o3 : ∀ j : Int, j ≠ 4 * i + K → P1 3 j = P 3 j) (o2 : ∀ j : Int, j ≠ i → P1 2 j = P 2 j) (e2 : P1 2 i = K + 1) (r5 : ∀ j, P1 5 j = P 5 j) (r6 : ∀ j, P1 6 j = P 6 j) (r7 : ∀ j, P1 7 j = P 7 j) (r8 : ∀ j, P1 8 j = P 8 j) (r10 : ∀ j, P1 10 j = P 10 j) : ZT P1 := by
  intro b c hb0 hb1 hc0 hc1
  rw [r5] at hc1
  obtain ⟨h1, h2⟩ := h b c hb0 hb1 hc0 hc1
  have q2 := bl_2 (k := i) hb
  have hlt : P 2 b ≤ P1 2 b := by
    by_cases e : b = i
    · rw [e, e2]; omega
    · rw [o2 b e]; omega
  refine ⟨by rw [r6]; omega, h2.eq (r7 _) (r10 _) (fun f f0 f1 => ⟨r8 _, vals_eq fun e4 => o3 _ fun hh => ?_⟩)⟩
  have q := hcf (24 * b + c) f f0 f1
  have q8 := bl_8 (k := 2 * (24 * b + c) + f) hb
  by_cases e : b = i
  · have e9 : P 2 b = P 2 i := by rw [e]
    omega
  · omega
/-- a con that isn't counted yet is written -/
theorem ZT.un {P P1 : PH} {i c : Int} (h : ZT P) (hb : BdM P) (hi : 0 ≤ i ∧ i ≤ 1) (h5 : P 5 i ≤ 23) (hc : c = 24 * i + P 5 i) (r2 : ∀ j, P1 2 j = P 2 j) (r3 : ∀ j, P1 3 j = P 3 j) (r5 : ∀ j, P1 5 j = P 5 j) (o6 : ∀ j : Int, j ≠ c → P1 6 j = P 6 j) (o7 : ∀ j : Int, j ≠ c → P1 7 j = P 7 j) (o8 : ∀ j : Int, (j < 2 * c ∨ 2 * c + 1 < j) → P1 8 j = P 8 j) (o10 : ∀ j : Int, j ≠ c → P1 10 j = P 10 j) : ZT P1 := by
  intro b d hb0 hb1 hd0 hd1
  rw [r5] at hd1
  obtain ⟨h1, h2⟩ := h b d hb0 hb1 hd0 hd1
  have q5 := bl_5 (k := b) hb
  have q5i := bl_5 (k := i) hb
  have hne : 24 * b + d ≠ c := by
    by_cases e : b = i
    · have e9 : P 5 b = P 5 i := by rw [e]
      omega
    · omega
  have q7 := bl_7 (k := 24 * b + d) hb
  refine ⟨by rw [o6 _ hne, r2]; exact h1, h2.eq (o7 _ hne) (o10 _ hne) (fun f f0 f1 => ⟨o8 _ (by omega), vals_eq fun e4 => r3 _⟩)⟩
/-- which con covers a value -/
def ZO (P : PH) : Prop := ∀ b k v : Int, 0 ≤ b → b ≤ 1 → 0 ≤ k → k < P 2 b → 0 ≤ v → v < P 3 (4 * b + k) → ∃ c : Int, 0 ≤ c ∧ c < P 5 b ∧ P 6 (24 * b + c) = k ∧ P 9 (24 * b + c) ≤ v ∧ v < P 9 (24 * b + c) + P 10 (24 * b + c)
theorem ZO.fr {P P1 : PH} {F : FS} (h : ZO P) (hf : FrM F P P1) (hd : disF F ([], [2, 3, 5, 6, 9, 10]) = true) : ZO P1 := by
  unfold disF at hd
  simp only [List.all_cons, List.all_nil, Bool.and_true, Bool.true_and, Bool.and_eq_true, Bool.not_eq_true'] at hd
  unfold ZO at h ⊢
  rw [hf.2 2 rfl hd.1, hf.2 3 rfl hd.2.1, hf.2 5 rfl hd.2.2.1, hf.2 6 rfl hd.2.2.2.1, hf.2 9 rfl hd.2.2.2.2.1, hf.2 10 rfl hd.2.2.2.2.2]
  exact h
theorem ZO.kind {P P1 : PH} {i K : Int} (h : ZO P) (hb : BdM P) (eK : P 2 i = K) (o3 : ∀ j : Int, j ≠ 4 * i + K → P1 3 j = P 3 j) (e3 : P1 3 (4 * i + K) = 0) (o2 : ∀ j : Int, j ≠ i → P1 2 j = P 2 j) (e2 : P1 2 i = K + 1) (r5 : ∀ j, P1 5 j = P 5 j) (r6 : ∀ j, P1 6 j = P 6 j) (r9 : ∀ j, P1 9 j = P 9 j) (r10 : ∀ j, P1 10 j = P 10 j) : ZO P1 := by
  intro b k v hb0 hb1 hk0 hk1 hv0 hv1
  have hne : 4 * b + k ≠ 4 * i + K := fun e => by rw [e, e3] at hv1; omega
  rw [o3 _ hne] at hv1
  have hk2 : k < P 2 b := by
    by_cases e : b = i
    · have e9 : P 2 b = P 2 i := by rw [e]
      rw [e, e2] at hk1
      omega
    · rw [o2 b e] at hk1; exact hk1
  obtain ⟨c, a1, a2, a3, a4, a5⟩ := h b k v hb0 hb1 hk0 hk2 hv0 hv1
  exact ⟨c, a1, by rw [r5]; exact a2, by rw [r6]; exact a3, by rw [r9]; exact a4, by rw [r9, r10]; exact a5⟩
theorem ZO.un {P P1 : PH} {i c : Int} (h : ZO P) (hb : BdM P) (hi : 0 ≤ i ∧ i ≤ 1) (h5 : P 5 i ≤ 23) (hc : c = 24 * i + P 5 i) (r2 : ∀ j, P1 2 j = P 2 j) (r3 : ∀ j, P1 3 j = P 3 j) (r5 : ∀ j, P1 5 j = P 5 j) (o6 : ∀ j : Int, j ≠ c → P1 6 j = P 6 j) (o9 : ∀ j : Int, j ≠ c → P1 9 j = P 9 j) (o10 : ∀ j : Int, j ≠ c → P1 10 j = P 10 j) : ZO P1 := by
  intro b k v hb0 hb1 hk0 hk1 hv0 hv1
  rw [r2] at hk1
  rw [r3] at hv1
  obtain ⟨d, a1, a2, a3, a4, a5⟩ := h b k v hb0 hb1 hk0 hk1 hv0 hv1
  have q5 := bl_5 (k := b) hb
  have q5i := bl_5 (k := i) hb
  have hne : 24 * b + d ≠ c := by
    by_cases e : b = i
    · have e9 : P 5 b = P 5 i := by rw [e]
      omega
    · omega
  exact ⟨d, a1, by rw [r5]; exact a2, by rw [o6 _ hne]; exact a3, by rw [o9 _ hne]; exact a4, by rw [o9 _ hne, o10 _ hne]; exact a5⟩
/-- the columns of both banks -/
def ZC (P : PH) : Prop := ∀ b c : Int, 0 ≤ b → b ≤ 1 → 0 ≤ c → c < P 11 b → P 12 (4 * b + c) = 4 ∨ (P 12 (4 * b + c) < P 2 b ∧ 1 ≤ P 3 (4 * b + P 12 (4 * b + c)))
theorem ZC.fr {P P1 : PH} {F : FS} (h : ZC P) (hf : FrM F P P1) (hd : disF F ([], [2, 3, 11, 12]) = true) : ZC P1 := by
  unfold disF at hd
  simp only [List.all_cons, List.all_nil, Bool.and_true, Bool.true_and, Bool.and_eq_true, Bool.not_eq_true'] at hd
  unfold ZC at h ⊢
  rw [hf.2 2 rfl hd.1, hf.2 3 rfl hd.2.1, hf.2 11 rfl hd.2.2.1, hf.2 12 rfl hd.2.2.2]
  exact h
theorem ZC.kind {P P1 : PH} {i K : Int} (h : ZC P) (hb : BdM P) (hi : 0 ≤ i ∧ i ≤ 1) (eK : P 2 i = K) (hk : K ≤ 3) (h11 : P 11 i = 0) (o3 : ∀ j : Int, j ≠ 4 * i + K → P1 3 j = P 3 j) (o2 : ∀ j : Int, j ≠ i → P1 2 j = P 2 j) (r11 : ∀ j, P1 11 j = P 11 j) (r12 : ∀ j, P1 12 j = P 12 j) : ZC P1 := by
  intro b c hb0 hb1 hc0 hc1
  rw [r11] at hc1
  have hne : b ≠ i := fun e => by rw [e, h11] at hc1; omega
  have q2 := bl_2 (k := b) hb
  have q2i := bl_2 (k := i) hb
  have q12 := bl_12 (k := 4 * b + c) hb
  rw [r12, o2 b hne]
  rcases h b c hb0 hb1 hc0 hc1 with h1 | ⟨h1, h2⟩
  · exact Or.inl h1
  · exact Or.inr ⟨h1, by rw [o3 _ (by omega)]; exact h2⟩
theorem ZC.con {P P1 : PH} {i : Int} (h : ZC P) (o3 : ∀ j : Int, j ≠ i → P1 3 j = P 3 j) (e3 : P 3 i ≤ P1 3 i) (r2 : ∀ j, P1 2 j = P 2 j) (r11 : ∀ j, P1 11 j = P 11 j) (r12 : ∀ j, P1 12 j = P 12 j) : ZC P1 := by
  intro b c hb0 hb1 hc0 hc1
  rw [r11] at hc1
  rw [r12, r2]
  rcases h b c hb0 hb1 hc0 hc1 with h1 | ⟨h1, h2⟩
  · exact Or.inl h1
  · right
    refine ⟨h1, ?_⟩
    by_cases e : 4 * b + P 12 (4 * b + c) = i
    · rw [e] at h2 ⊢; omega
    · rw [o3 _ e]; exact h2
theorem ZC.col {P P1 : PH} {i n z : Int} (h : ZC P) (hi : 0 ≤ i ∧ i ≤ 1) (en : P 11 i = n) (hn : 0 ≤ n ∧ n ≤ 3) (o12 : ∀ j : Int, j ≠ 4 * i + n → P1 12 j = P 12 j) (e12 : P1 12 (4 * i + n) = z) (o11 : ∀ j : Int, j ≠ i → P1 11 j = P 11 j) (e11 : P1 11 i = n + 1) (h4 : P 11 (1 - i) ≤ 4) (hz : z = 4 ∨ (z < P 2 i ∧ 1 ≤ P 3 (4 * i + z))) (r2 : ∀ j, P1 2 j = P 2 j) (r3 : ∀ j, P1 3 j = P 3 j) : ZC P1 := by
  intro b c hb0 hb1 hc0 hc1
  rw [r2, r3]
  by_cases e : b = i
  · by_cases e2 : c = n
    · rw [e, e2, e12]
      exact hz
    · rw [e, e11] at hc1
      rw [o12 _ (by omega)]
      exact h b c hb0 hb1 hc0 (by rw [e]; omega)
  · rw [o11 b e] at hc1
    have hb9 : b = 1 - i := by omega
    rw [o12 _ (by rw [hb9] at hc1 ⊢; omega)]
    exact h b c hb0 hb1 hc0 hc1
/-- before the match there is neither a column nor an arm -/
def ZI (P : PH) : Prop := P 0 38 = 0 → P 11 (P 0 37) = 0 ∧ P 13 (P 0 37) = 0
theorem ZI.fr {P P1 : PH} {F : FS} (h : ZI P) (hf : FrM F P P1) (hd : disF F ([37, 38], [11, 13]) = true) : ZI P1 := by
  unfold disF at hd
  simp only [List.all_cons, List.all_nil, Bool.and_true, Bool.and_eq_true, Bool.not_eq_true'] at hd
  unfold ZI at h ⊢
  rw [hf.1 37 hd.1.1, hf.1 38 hd.1.2, hf.2 11 rfl hd.2.1, hf.2 13 rfl hd.2.2]
  exact h
/-- the con that is being told -/
def ZN (P : PH) : Prop := P 6 (24 * P 0 37 + P 5 (P 0 37)) = P 2 (P 0 37) - 1 ∧ P 9 (24 * P 0 37 + P 5 (P 0 37)) = P 3 (4 * P 0 37 + (P 2 (P 0 37) - 1)) ∧ ZV P (P 0 37) (24 * P 0 37 + P 5 (P 0 37))
theorem ZN.fr {P P1 : PH} {F : FS} (h : ZN P) (hf : FrM F P P1) (hd : disF F ([37], [2, 3, 5, 6, 7, 8, 9, 10]) = true) : ZN P1 := by
  unfold disF at hd
  simp only [List.all_cons, List.all_nil, Bool.and_true, Bool.true_and, Bool.and_eq_true, Bool.not_eq_true'] at hd
  unfold ZN ZV vals at h ⊢
  rw [hf.1 37 hd.1, hf.2 2 rfl hd.2.1, hf.2 3 rfl hd.2.2.1, hf.2 5 rfl hd.2.2.2.1, hf.2 6 rfl hd.2.2.2.2.1, hf.2 7 rfl hd.2.2.2.2.2.1, hf.2 8 rfl hd.2.2.2.2.2.2.1, hf.2 9 rfl hd.2.2.2.2.2.2.2.1, hf.2 10 rfl hd.2.2.2.2.2.2.2.2]
  exact h
theorem ZN.new {P1 : PH} {i c k n : Int} (e37 : P1 0 37 = i) (e5 : P1 5 i = n) (e2 : P1 2 i = k + 1) (hc : c = 24 * i + n) (e6 : P1 6 c = k) (e9 : P1 9 c = P1 3 (4 * i + k)) (e7 : P1 7 c = 0) (e10 : P1 10 c = 1) : ZN P1 := by
  unfold ZN
  rw [e37, e5, e2, ← hc, show k + 1 - 1 = k by omega]
  exact ⟨e6, e9, Or.inl ⟨e7, e10⟩⟩
theorem ZN.field {P P1 : PH} {i c z : Int} (h : ZN P) (e37 : P 0 37 = i) (e37' : P1 0 37 = i) (hc : c = 24 * i + P 5 i) (h7 : 0 ≤ P 7 c ∧ P 7 c ≤ 1) (r2 : ∀ j, P1 2 j = P 2 j) (r3 : ∀ j, P1 3 j = P 3 j) (r5 : ∀ j, P1 5 j = P 5 j) (r6 : ∀ j, P1 6 j = P 6 j) (r9 : ∀ j, P1 9 j = P 9 j) (e7 : P1 7 c = P 7 c + 1) (o8 : ∀ j : Int, j ≠ 2 * c + P 7 c → P1 8 j = P 8 j) (e8 : P1 8 (2 * c + P 7 c) = z) (hz : 1 ≤ vals P i z) (e10 : P1 10 c = P 10 c * vals P i z) : ZN P1 := by
  obtain ⟨h1, h2, h3⟩ := h
  rw [e37, ← hc] at h1 h2 h3
  unfold ZN
  rw [e37', r5, ← hc, r6, r2, r9, r3]
  refine ⟨h1, h2, ?_⟩
  have hv : ∀ x, vals P1 i x = vals P i x := fun x => vals_eq fun _ => r3 _
  unfold ZV at h3 ⊢
  rw [e7, e10, hv, hv]
  rcases h3 with ⟨a, b⟩ | ⟨a, b, d⟩ | ⟨a, _⟩
  · right; left
    rw [a, show 2 * c + 0 = 2 * c by omega] at e8
    rw [e8, b, a]
    exact ⟨rfl, hz, by omega⟩
  · right; right
    rw [a] at e8
    rw [o8 (2 * c) (by omega), e8, a, d]
    exact ⟨rfl, b, hz, rfl⟩
  · omega
/-- the con is counted -/
theorem ZT.con {P P1 : PH} {i k : Int} (h : ZT P) (hn : ZN P) (hcf : CF P) (hb : BdM P) (hi : 0 ≤ i ∧ i ≤ 1) (e37 : P 0 37 = i) (e2 : P 2 i = k + 1) (hk : 0 ≤ k) (o3 : ∀ j : Int, j ≠ 4 * i + k → P1 3 j = P 3 j) (o5 : ∀ j : Int, j ≠ i → P1 5 j = P 5 j) (e5 : P1 5 i = P 5 i + 1) (r2 : ∀ j, P1 2 j = P 2 j) (r6 : ∀ j, P1 6 j = P 6 j) (r7 : ∀ j, P1 7 j = P 7 j) (r8 : ∀ j, P1 8 j = P 8 j) (r10 : ∀ j, P1 10 j = P 10 j) : ZT P1 := by
  obtain ⟨n1, n2, n3⟩ := hn
  rw [e37] at n1 n2 n3
  intro b c hb0 hb1 hc0 hc1
  have q2i := bl_2 (k := i) hb
  rcases (show (b = i ∧ c = P 5 i) ∨ c < P 5 b by
    by_cases e : b = i
    · rw [e, e5] at hc1; rw [e]; omega
    · rw [o5 b e] at hc1; exact Or.inr hc1) with ⟨eb, ec⟩ | hc2
  · rw [eb, ec]
    refine ⟨by rw [r6, r2]; omega, n3.eq (r7 _) (r10 _) (fun f f0 f1 => ⟨r8 _, vals_eq fun e4 => o3 _ fun hh => ?_⟩)⟩
    have q := hcf (24 * i + P 5 i) f f0 f1
    omega
  · obtain ⟨h1, h2⟩ := h b c hb0 hb1 hc0 hc2
    refine ⟨by rw [r6, r2]; exact h1, h2.eq (r7 _) (r10 _) (fun f f0 f1 => ⟨r8 _, vals_eq fun e4 => o3 _ fun hh => ?_⟩)⟩
    have q := hcf (24 * b + c) f f0 f1
    have q8 := bl_8 (k := 2 * (24 * b + c) + f) hb
    by_cases e : b = i
    · have e9 : P 2 b = P 2 i := by rw [e]
      omega
    · omega
theorem ZO.con {P P1 : PH} {i k : Int} (h : ZO P) (hn : ZN P) (hb : BdM P) (hi : 0 ≤ i ∧ i ≤ 1) (e37 : P 0 37 = i) (e2 : P 2 i = k + 1) (hk : 0 ≤ k) (o3 : ∀ j : Int, j ≠ 4 * i + k → P1 3 j = P 3 j) (e3 : P1 3 (4 * i + k) = P 3 (4 * i + k) + P 10 (24 * i + P 5 i)) (o5 : ∀ j : Int, j ≠ i → P1 5 j = P 5 j) (e5 : P1 5 i = P 5 i + 1) (r2 : ∀ j, P1 2 j = P 2 j) (r6 : ∀ j, P1 6 j = P 6 j) (r9 : ∀ j, P1 9 j = P 9 j) (r10 : ∀ j, P1 10 j = P 10 j) : ZO P1 := by
  obtain ⟨n1, n2, n3⟩ := hn
  rw [e37] at n1 n2 n3
  intro b k1 v hb0 hb1 hk0 hk1 hv0 hv1
  rw [r2] at hk1
  have q5 := bl_5 (k := i) hb
  have h5 : P 5 b ≤ P1 5 b := by
    by_cases e : b = i
    · rw [e, e5]; omega
    · rw [o5 b e]; omega
  rw [e2, show k + 1 - 1 = k by omega] at n1 n2
  by_cases hlt : v < P 3 (4 * b + k1)
  · obtain ⟨c, a1, a2, a3, a4, a5⟩ := h b k1 v hb0 hb1 hk0 hk1 hv0 hlt
    exact ⟨c, a1, by omega, by rw [r6]; exact a3, by rw [r9]; exact a4, by rw [r9, r10]; exact a5⟩
  · have hix : 4 * b + k1 = 4 * i + k := Classical.byContradiction fun e => by rw [o3 _ e] at hv1; omega
    have q2 := bl_2 (k := b) hb
    have q2i := bl_2 (k := i) hb
    have hbi : b = i := by omega
    have hki : k1 = k := by omega
    subst hbi hki
    rw [e3] at hv1
    exact ⟨P 5 b, by omega, by rw [e5]; omega, by rw [r6]; exact n1, by rw [r9]; omega, by rw [r9, r10]; omega⟩
/-- how many rows the columns make -/
def prdU (P : PH) (b : Int) : Nat → Int
  | 0 => 1
  | n + 1 => prdU P b n * vals P b (P 12 (4 * b + (n : Int)))
theorem prdU_eq {P P1 : PH} {b : Int} (h3 : ∀ j, P1 3 j = P 3 j) : ∀ n : Nat, (∀ j : Int, 4 * b ≤ j → j < 4 * b + n → P1 12 j = P 12 j) → prdU P1 b n = prdU P b n := by
  intro n
  induction n with
  | zero => intro _; rfl
  | succ n ih =>
    intro h
    show prdU P1 b n * _ = prdU P b n * _
    rw [ih (fun j h0 h1 => h j h0 (by omega)), h _ (by omega) (by omega)]
    rw [vals_eq fun _ => h3 _]
theorem prdU_col {P P1 : PH} {b n z : Int} (hn : 0 ≤ n) (en : P 11 b = n) (o12 : ∀ j : Int, j ≠ 4 * b + n → P1 12 j = P 12 j) (e12 : P1 12 (4 * b + n) = z) (r3 : ∀ j, P1 3 j = P 3 j) (e11 : P1 11 b = n + 1) : prdU P1 b (P1 11 b).toNat = prdU P b (P 11 b).toNat * vals P b z := by
  rw [e11, en, show (n + 1).toNat = n.toNat + 1 by omega]
  show prdU P1 b n.toNat * _ = _
  rw [prdU_eq r3 n.toNat (fun j h0 h1 => o12 j (by omega)), show ((n.toNat : Nat) : Int) = n by omega, e12, vals_eq fun _ => r3 _]
/-- a number is the product of what the columns have -/
def PU (x b : Int) (P : PH) : Prop := x = prdU P b (P 11 b).toNat
theorem PU.fr {x b : Int} {P P1 : PH} {F : FS} (h : PU x b P) (hf : FrM F P P1) (hd : disF F ([], [3, 11, 12]) = true) : PU x b P1 := by
  unfold disF at hd
  simp only [List.all_cons, List.all_nil, Bool.and_true, Bool.true_and, Bool.and_eq_true, Bool.not_eq_true'] at hd
  unfold PU at h ⊢
  rw [hf.2 11 rfl hd.2.1, prdU_eq (P := P) (fun j => by rw [hf.2 3 rfl hd.1]) _ (fun j _ _ => by rw [hf.2 12 rfl hd.2.2])]
  exact h
theorem PU.zero {b : Int} {P : PH} (h : P 11 b = 0) : PU 1 b P := by unfold PU; rw [h]; rfl
theorem PU.col {x y b n z r : Int} {P P1 : PH} (h : PU y b P) (hx : x = y * r) (hr : r = vals P b z) (hn : 0 ≤ n) (en : P 11 b = n) (o12 : ∀ j : Int, j ≠ 4 * b + n → P1 12 j = P 12 j) (e12 : P1 12 (4 * b + n) = z) (r3 : ∀ j, P1 3 j = P 3 j) (e11 : P1 11 b = n + 1) : PU x b P1 := by
  unfold PU at h ⊢
  rw [prdU_col hn en o12 e12 r3 e11, ← h, ← hr, hx]
theorem prd0_le {P : PH} {b : Int} (h : P 11 b = 0) : prdU P b (P 11 b).toNat ≤ 20000 := by rw [h]; show (1 : Int) ≤ 20000; decide
theorem prd_fr {P P1 : PH} {F : FS} {b : Int} (hf : FrM F P P1) (hd : disF F ([], [3, 11, 12]) = true) : prdU P1 b (P1 11 b).toNat = prdU P b (P 11 b).toNat := by
  unfold disF at hd
  simp only [List.all_cons, List.all_nil, Bool.and_true, Bool.true_and, Bool.and_eq_true, Bool.not_eq_true'] at hd
  rw [hf.2 11 rfl hd.2.1, prdU_eq (P := P) (fun j => by rw [hf.2 3 rfl hd.1]) _ (fun j _ _ => by rw [hf.2 12 rfl hd.2.2])]
theorem ZC.vals1 {P : PH} (h : ZC P) {b c : Int} (hb : 0 ≤ b ∧ b ≤ 1) (hc : 0 ≤ c ∧ c < P 11 b) : 1 ≤ vals P b (P 12 (4 * b + c)) := by
  unfold vals
  rcases h b c hb.1 hb.2 hc.1 hc.2 with h | h
  · rw [if_pos h]; decide
  · by_cases e : P 12 (4 * b + c) = 4
    · rw [if_pos e]; decide
    · rw [if_neg e]; exact h.2
theorem prdU_pos {P : PH} (h : ZC P) {b : Int} (hb : 0 ≤ b ∧ b ≤ 1) : ∀ n : Nat, (n : Int) ≤ P 11 b → 1 ≤ prdU P b n := by
  intro n
  induction n with
  | zero => intro _; exact Int.le_refl 1
  | succ n ih =>
    intro hn
    have h1 := ih (by omega)
    have h2 := h.vals1 hb (c := (n : Int)) ⟨by omega, by omega⟩
    show 1 ≤ prdU P b n * _
    have := Int.mul_le_mul h1 h2 (by decide) (by omega)
    omega
theorem prdU_mono {P : PH} (h : ZC P) {b : Int} (hb : 0 ≤ b ∧ b ≤ 1) : ∀ n m : Nat, (n + m : Nat) ≤ (P 11 b).toNat → prdU P b n ≤ prdU P b (n + m) := by
  intro n m
  induction m with
  | zero => intro _; exact Int.le_refl _
  | succ m ih =>
    intro hn
    have h1 := ih (by omega)
    have h2 := h.vals1 hb (c := ((n + m : Nat) : Int)) ⟨by omega, by omega⟩
    have h3 := prdU_pos h hb (n + m) (by omega)
    show _ ≤ prdU P b (n + m) * vals P b (P 12 (4 * b + ((n + m : Nat) : Int)))
    have := Int.mul_le_mul_of_nonneg_left h2 (show 0 ≤ prdU P b (n + m) by omega)
    omega
/-- the product up to a column -/
theorem prdU_lt {P : PH} (h : ZC P) {b c : Int} (hb : 0 ≤ b ∧ b ≤ 1) (hc : 0 ≤ c ∧ c < P 11 b) (ht : prdU P b (P 11 b).toNat ≤ 20000) : prdU P b (c + 1).toNat = prdU P b c.toNat * vals P b (P 12 (4 * b + c)) ∧ 1 ≤ prdU P b (c + 1).toNat ∧ prdU P b (c + 1).toNat ≤ 20000 := by
  have e : (c + 1).toNat = c.toNat + 1 := by omega
  have h1 := prdU_pos h hb (c.toNat + 1) (by omega)
  have h2 := prdU_mono h hb (c.toNat + 1) ((P 11 b).toNat - (c.toNat + 1)) (by omega)
  rw [show c.toNat + 1 + ((P 11 b).toNat - (c.toNat + 1)) = (P 11 b).toNat by omega] at h2
  rw [e]
  refine ⟨?_, h1, by omega⟩
  show prdU P b c.toNat * vals P b (P 12 (4 * b + (c.toNat : Int))) = _
  rw [show ((c.toNat : Nat) : Int) = c by omega]
theorem ZC.okC {P : PH} (h : ZC P) (hb : BdM P) : okC P := by
  intro c c0 c1
  have q := b0_13 hb
  rcases h (P 0 13) c q.1 q.2 c0 c1 with h | h
  · exact Or.inl h
  · exact Or.inr h.2
end
end
section
section
/-! The codes of the patterns: heights, and the parser's open patterns. -/
def stp (op : Int) (s : Int × Int) : Int × Int := if op = 3 then (s.1, s.2 + 1) else if op = 4 then (s.1, s.2 - 1) else if 5 ≤ op then (s.1 - 1, s.2) else (s.1 + 1, s.2)
def hts (P : PH) (f : Int) : Nat → Int × Int
  | 0 => (0, 0)
  | n + 1 => stp (P 19 (f + (n : Int))) (hts P f n)
theorem hts_eq {P P1 : PH} {f : Int} : ∀ n : Nat, (∀ j : Int, f ≤ j → j < f + n → P1 19 j = P 19 j) → hts P1 f n = hts P f n := by
  intro n
  induction n with
  | zero => intro _; rfl
  | succ n ih =>
    intro h
    show stp _ _ = stp _ _
    rw [ih (fun j h0 h1 => h j h0 (by omega)), h _ (by omega) (by omega)]
/-- a code that can be run at these heights -/
def okc (P : PH) (b i : Int) (s : Int × Int) : Prop := 0 ≤ s.1 ∧ s.1 ≤ 800 ∧ 0 ≤ s.2 ∧ s.2 ≤ 10 ∧ (P 19 i = 3 → P 20 i < P 5 b ∧ P 21 i < P 7 (24 * b + P 20 i)) ∧ (P 19 i = 4 → 1 ≤ s.2) ∧ (5 ≤ P 19 i → 2 ≤ s.1)
def WF (P : PH) (b f e : Int) : Prop := ∀ n : Nat, f + (n : Int) < e → okc P b (f + (n : Int)) (hts P f n)
theorem WF.eq {P P1 : PH} {b f e : Int} (h : WF P b f e) (hb : BdM P) (hrow : ∀ j : Int, f ≤ j → j < e → P1 19 j = P 19 j ∧ P1 20 j = P 20 j ∧ P1 21 j = P 21 j) (e5 : P1 5 b = P 5 b) (e7 : ∀ x : Int, 0 ≤ x → x < P 5 b → P1 7 (24 * b + x) = P 7 (24 * b + x)) : WF P1 b f e := by
  intro n hn
  have h1 := h n hn
  rw [hts_eq n (fun j h0 h1 => (hrow j h0 (by omega)).1)]
  obtain ⟨r1, r2, r3⟩ := hrow (f + n) (by omega) hn
  unfold okc at h1 ⊢
  rw [r1, r2, r3, e5]
  obtain ⟨a1, a2, a3, a4, a5, a6⟩ := h1
  refine ⟨a1, a2, a3, a4, fun q => ?_, a6⟩
  have q20 := bl_20 (k := f + n) hb
  obtain ⟨b1, b2⟩ := a5 q
  exact ⟨b1, by rw [e7 _ q20.1 b1]; exact b2⟩
/-- the codes below stay, and those of the other bank -/
def LO (P P1 : PH) : Prop := P1 0 37 = P 0 37 ∧ P 0 36 ≤ P1 0 36 ∧ ∀ j : Int, (j < 2800 * P 0 37 + P 0 36 ∨ 2800 * P 0 37 + 2800 ≤ j) → P1 19 j = P 19 j ∧ P1 20 j = P 20 j ∧ P1 21 j = P 21 j
theorem LO.rf {P : PH} : LO P P := ⟨rfl, Int.le_refl _, fun _ _ => ⟨rfl, rfl, rfl⟩⟩
theorem LO.fr {P0 P P1 : PH} {F : FS} (h : LO P0 P) (hf : FrM F P P1) (hd : disF F ([36, 37], [19, 20, 21]) = true) : LO P0 P1 := by
  unfold disF at hd
  simp only [List.all_cons, List.all_nil, Bool.and_true, Bool.and_eq_true, Bool.not_eq_true'] at hd
  unfold LO at h ⊢
  rw [hf.1 36 hd.1.1, hf.1 37 hd.1.2, hf.2 19 rfl hd.2.1, hf.2 20 rfl hd.2.2.1, hf.2 21 rfl hd.2.2.2]
  exact h
theorem LO.trans {P P1 P2 : PH} (h : LO P P1) (h1 : LO P1 P2) : LO P P2 := by
  obtain ⟨a1, a2, a3⟩ := h
  obtain ⟨b1, b2, b3⟩ := h1
  refine ⟨b1.trans a1, by omega, fun j hj => ?_⟩
  obtain ⟨c1, c2, c3⟩ := a3 j hj
  obtain ⟨d1, d2, d3⟩ := b3 j (by rw [a1]; omega)
  exact ⟨d1.trans c1, d2.trans c2, d3.trans c3⟩
theorem EM.lo {P P1 : PH} {op a b : Int} {F : FS} (h : EM op a b P P1) (hf : FrM F P P1) (hd : disF F ([37], []) = true) (hc : P 0 36 ≤ 2799) : LO P P1 := by
  unfold disF at hd
  simp only [List.all_cons, List.all_nil, Bool.and_true, Bool.and_eq_true, Bool.not_eq_true'] at hd
  obtain ⟨h1, h2, _⟩ := h
  exact ⟨hf.1 37 hd, by omega, fun j hj => h2 j (by omega)⟩
/-- the arms' codes of both banks -/
def ZS (P : PH) : Prop := ∀ b a c : Int, 0 ≤ b → b ≤ 1 → 0 ≤ a → a < P 13 b → 0 ≤ c → c < P 11 b → WF P b (2800 * b + P 17 (4 * (12 * b + a) + c)) (2800 * b + P 18 (4 * (12 * b + a) + c)) ∧ (b = P 0 37 → P 18 (4 * (12 * b + a) + c) ≤ P 0 36)
/-- what the arms' codes need to stay -/
theorem ZS.lo {P P1 : PH} (h : ZS P) (hb : BdM P) (hl : LO P P1) (r5 : ∀ j, P1 5 j = P 5 j) (r7 : ∀ j, P1 7 j = P 7 j) (r11 : ∀ j, P1 11 j = P 11 j) (r13 : ∀ j, P1 13 j = P 13 j) (r17 : ∀ j, P1 17 j = P 17 j) (r18 : ∀ j, P1 18 j = P 18 j) : ZS P1 := by
  obtain ⟨l1, l2, l3⟩ := hl
  intro b a c b0 b1 a0 a1 c0 c1
  rw [r13] at a1
  rw [r11] at c1
  obtain ⟨h1, h2⟩ := h b a c b0 b1 a0 a1 c0 c1
  rw [r17, r18, l1]
  have q17 := bl_17 (k := 4 * (12 * b + a) + c) hb
  have q18 := bl_18 (k := 4 * (12 * b + a) + c) hb
  have q37 := b0_37 hb
  have q36 := b0_36 hb
  refine ⟨h1.eq hb (fun j j0 j1 => l3 j ?_) (r5 _) (fun x _ _ => r7 _), fun e => by have := h2 e; omega⟩
  by_cases e : b = P 0 37
  · have h3 := h2 e
    left
    rw [← e]
    omega
  · rcases (show b < P 0 37 ∨ P 0 37 < b by omega) with q | q
    · left; omega
    · right; omega
theorem ZS.fr {P P1 : PH} {F : FS} (h : ZS P) (hf : FrM F P P1) (hd : disF F ([36, 37], [5, 7, 11, 13, 17, 18, 19, 20, 21]) = true) : ZS P1 := by
  unfold disF at hd
  simp only [List.all_cons, List.all_nil, Bool.and_true, Bool.and_eq_true, Bool.not_eq_true'] at hd
  intro b a c b0 b1 a0 a1 c0 c1
  rw [hf.2 13 rfl hd.2.2.2.2.1] at a1
  rw [hf.2 11 rfl hd.2.2.2.1] at c1
  obtain ⟨h1, h2⟩ := h b a c b0 b1 a0 a1 c0 c1
  rw [hf.2 17 rfl hd.2.2.2.2.2.1, hf.2 18 rfl hd.2.2.2.2.2.2.1, hf.1 36 hd.1.1, hf.1 37 hd.1.2]
  refine ⟨?_, h2⟩
  intro n hn
  have h3 := h1 n hn
  have e19 : P1 19 = P 19 := hf.2 19 rfl hd.2.2.2.2.2.2.2.1
  rw [hts_eq (P := P) n (fun j _ _ => by rw [e19])]
  unfold okc at h3 ⊢
  rw [hf.2 5 rfl hd.2.1, hf.2 7 rfl hd.2.2.1, e19, hf.2 20 rfl hd.2.2.2.2.2.2.2.2.1, hf.2 21 rfl hd.2.2.2.2.2.2.2.2.2]
  exact h3
/-- before the bank's first arm its tables may change -/
theorem ZS.un {P P1 : PH} {i : Int} (h : ZS P) (hb : BdM P) (hi : 0 ≤ i ∧ i ≤ 1) (h13 : P 13 i = 0) (e37 : P1 0 37 = i) (o5 : ∀ j : Int, j ≠ i → P1 5 j = P 5 j) (o7 : ∀ j : Int, (j < 24 * i ∨ 24 * i + 23 < j) → P1 7 j = P 7 j) (o11 : ∀ j : Int, j ≠ i → P1 11 j = P 11 j) (r13 : ∀ j, P1 13 j = P 13 j) (r17 : ∀ j, P1 17 j = P 17 j) (r18 : ∀ j, P1 18 j = P 18 j) (r19 : ∀ j, P1 19 j = P 19 j) (r20 : ∀ j, P1 20 j = P 20 j) (r21 : ∀ j, P1 21 j = P 21 j) : ZS P1 := by
  intro b a c b0 b1 a0 a1 c0 c1
  rw [r13] at a1
  have hne : b ≠ i := fun e => by rw [e, h13] at a1; omega
  rw [o11 b hne] at c1
  obtain ⟨h1, h2⟩ := h b a c b0 b1 a0 a1 c0 c1
  rw [r17, r18, e37]
  have q5 := bl_5 (k := b) hb
  exact ⟨h1.eq hb (fun j _ _ => ⟨r19 j, r20 j, r21 j⟩) (o5 b hne) (fun x x0 x1 => o7 _ (by omega)), fun e => absurd e hne⟩
/-- alternatives that are whole, of the open patterns -/
def asum (P : PH) : Nat → Int
  | 0 => 0
  | n + 1 => asum P n + (if 0 < P 25 ((n : Int) + 1) then 1 else 0)
theorem asum_b (P : PH) : ∀ n : Nat, 0 ≤ asum P n ∧ asum P n ≤ n := by
  intro n
  induction n with
  | zero => exact ⟨Int.le_refl _, Int.le_refl _⟩
  | succ n ih =>
    show 0 ≤ asum P n + _ ∧ asum P n + _ ≤ _
    split <;> omega
theorem asum_eq {P P1 : PH} : ∀ n : Nat, (∀ j : Int, 1 ≤ j → j ≤ n → P1 25 j = P 25 j) → asum P1 n = asum P n := by
  intro n
  induction n with
  | zero => intro _; rfl
  | succ n ih =>
    intro h
    show asum P1 n + _ = asum P n + _
    rw [ih (fun j h0 h1 => h j h0 (by omega)), h _ (by omega) (by omega)]
theorem asum_s {P : PH} {k : Int} (hk : 1 ≤ k) : asum P k.toNat = asum P (k - 1).toNat + (if 0 < P 25 k then 1 else 0) := by
  have e : k.toNat = (k - 1).toNat + 1 := by omega
  rw [e]
  show asum P (k - 1).toNat + _ = _
  rw [show (((k - 1).toNat : Nat) : Int) + 1 = k by omega]
/-- what is put by for the fields that are to come -/
def crd (P : PH) : Nat → Int
  | 0 => 0
  | n + 1 => crd P n + (if n = 0 then 0 else if P 27 (n : Int) = 0 then 6 else 2)
theorem crd_b (P : PH) : ∀ n : Nat, 0 ≤ crd P n := by
  intro n
  induction n with
  | zero => exact Int.le_refl _
  | succ n ih =>
    show 0 ≤ crd P n + _
    split
    · omega
    · split <;> omega
theorem crd_eq {P P1 : PH} : ∀ n : Nat, (∀ j : Int, 1 ≤ j → j < n → P1 27 j = P 27 j) → crd P1 n = crd P n := by
  intro n
  induction n with
  | zero => intro _; rfl
  | succ n ih =>
    intro h
    show crd P1 n + _ = crd P n + _
    rw [ih (fun j h0 h1 => h j h0 (by omega))]
    by_cases e : n = 0
    · rw [if_pos e, if_pos e]
    · rw [if_neg e, if_neg e, h _ (by omega) (by omega)]
theorem crd_s {P : PH} {k : Int} (hk : 1 ≤ k) : crd P (k + 1).toNat = crd P k.toNat + (if P 27 k = 0 then 6 else 2) := by
  have e : (k + 1).toNat = k.toNat + 1 := by omega
  rw [e]
  show crd P k.toNat + _ = _
  rw [if_neg (by omega), show ((k.toNat : Nat) : Int) = k by omega]
def pot (P : PH) : Int := 5 * P 0 36 + 5 * asum P (P 0 43).toNat + crd P (P 0 43).toNat
theorem pot_fr {P P1 : PH} {F : FS} (hf : FrM F P P1) (hd : disF F ([36, 43], [25, 27]) = true) : pot P1 = pot P := by
  unfold disF at hd
  simp only [List.all_cons, List.all_nil, Bool.and_true, Bool.and_eq_true, Bool.not_eq_true'] at hd
  unfold pot
  rw [hf.1 36 hd.1.1, hf.1 43 hd.1.2, asum_eq (P := P) (P1 := P1) _ (fun j _ _ => by rw [hf.2 25 rfl hd.2.1]), crd_eq (P := P) _ (fun j _ _ => by rw [hf.2 27 rfl hd.2.2])]
/-- the con of an open pattern's field -/
def lev (P : PH) (j : Int) : Prop := P 26 j < P 5 (P 0 37) ∧ P 27 j < P 7 (24 * P 0 37 + P 26 j) ∧ P 6 (24 * P 0 37 + P 26 j) + j ≤ 4
/-- the open patterns, and the codes since f -/
def SX (f w : Int) (P : PH) : Prop := (1 ≤ P 0 43 ∧ P 0 43 ≤ 5 ∧ f ≤ 2800 * P 0 37 + P 0 36) ∧ (∀ j : Int, 1 ≤ j → j ≤ P 0 43 → P 24 j = 4 ∨ P 24 j + j ≤ 4) ∧ (∀ j : Int, 1 ≤ j → j < P 0 43 → lev P j) ∧ hts P f (2800 * P 0 37 + P 0 36 - f).toNat = (asum P (P 0 43).toNat + P 0 43 - 1 + w, P 0 43 - 1) ∧ WF P (P 0 37) f (2800 * P 0 37 + P 0 36) ∧ (∀ j : Int, 1 ≤ j → j < P 0 43 → 0 ≤ P 25 j ∧ P 25 j + 1 ≤ P 0 36) ∧ 0 ≤ P 25 (P 0 43) ∧ P 25 (P 0 43) + w ≤ P 0 36
theorem SX.fr {f w : Int} {P P1 : PH} {F : FS} (h : SX f w P) (hf : FrM F P P1) (hd : disF F ([36, 37, 43], [5, 6, 7, 19, 20, 21, 24, 25, 26, 27]) = true) : SX f w P1 := by
  unfold disF at hd
  simp only [List.all_cons, List.all_nil, Bool.and_true, Bool.and_eq_true, Bool.not_eq_true'] at hd
  obtain ⟨⟨d36, d37, d43⟩, d5, d6, d7, d19, d20, d21, d24, d25, d26, d27⟩ := hd
  obtain ⟨h1, h2, h3, h4, h5, h6⟩ := h
  unfold SX
  rw [hf.1 36 d36, hf.1 37 d37, hf.1 43 d43]
  have e5 := hf.2 5 rfl d5; have e6 := hf.2 6 rfl d6; have e7 := hf.2 7 rfl d7
  have e19 := hf.2 19 rfl d19; have e20 := hf.2 20 rfl d20; have e21 := hf.2 21 rfl d21
  have e24 := hf.2 24 rfl d24; have e25 := hf.2 25 rfl d25; have e26 := hf.2 26 rfl d26; have e27 := hf.2 27 rfl d27
  refine ⟨h1, by rw [e24]; exact h2, ?_, ?_, ?_, by rw [e25]; exact h6⟩
  · unfold lev at h3 ⊢
    rw [hf.1 37 d37, e5, e6, e7, e26, e27]; exact h3
  · rw [hts_eq (P := P) _ (fun j _ _ => by rw [e19]), asum_eq (P := P) (P1 := P1) _ (fun j _ _ => by rw [e25])]; exact h4
  · intro n hn
    have h7 := h5 n hn
    rw [hts_eq (P := P) n (fun j _ _ => by rw [e19])]
    unfold okc at h7 ⊢
    rw [e5, e7, e19, e20, e21]; exact h7
/-- one code more -/
theorem EM.heights {P P1 : PH} {op a b f : Int} (h : EM op a b P P1) (hf : f ≤ 2800 * P 0 37 + P 0 36) : hts P1 f (2800 * P 0 37 + P 0 36 + 1 - f).toNat = stp op (hts P f (2800 * P 0 37 + P 0 36 - f).toNat) := by
  obtain ⟨h1, h2, h3, _⟩ := h
  rw [show (2800 * P 0 37 + P 0 36 + 1 - f).toNat = (2800 * P 0 37 + P 0 36 - f).toNat + 1 by omega]
  show stp _ _ = _
  rw [hts_eq _ (fun j j0 j1 => (h2 j (by omega)).1), show f + (((2800 * P 0 37 + P 0 36 - f).toNat : Nat) : Int) = 2800 * P 0 37 + P 0 36 by omega, h3]
theorem EM.wf {P P1 : PH} {op a b f : Int} (h : EM op a b P P1) (hb : BdM P) (hf : f ≤ 2800 * P 0 37 + P 0 36) (hw : WF P (P 0 37) f (2800 * P 0 37 + P 0 36)) (r5 : ∀ j, P1 5 j = P 5 j) (r7 : ∀ j, P1 7 j = P 7 j) {N D : Int} (hh : hts P f (2800 * P 0 37 + P 0 36 - f).toNat = (N, D)) (hN : 0 ≤ N ∧ N ≤ 800) (hD : 0 ≤ D ∧ D ≤ 10) (h3 : op = 3 → a < P 5 (P 0 37) ∧ b < P 7 (24 * P 0 37 + a)) (h4 : op = 4 → 1 ≤ D) (h5 : 5 ≤ op → 2 ≤ N) : WF P1 (P 0 37) f (2800 * P 0 37 + P 0 36 + 1) := by
  have hx := h
  obtain ⟨e1, e2, e3, e4, e5⟩ := h
  intro n hn
  rw [hts_eq n (fun j j0 j1 => (e2 j (by omega)).1)]
  rcases (show f + (n : Int) < 2800 * P 0 37 + P 0 36 ∨ f + (n : Int) = 2800 * P 0 37 + P 0 36 by omega) with q | q
  · have h6 := hw n q
    obtain ⟨r1, r2, r3⟩ := e2 (f + n) (by omega)
    unfold okc at h6 ⊢
    rw [r1, r2, r3, r5, r7]; exact h6
  · have hn9 : n = (2800 * P 0 37 + P 0 36 - f).toNat := by omega
    rw [← hn9] at hh
    unfold okc
    rw [q, e3, e4, e5, hh, r5, r7]
    exact ⟨hN.1, hN.2, hD.1, hD.2, h3, h4, h5⟩
theorem SX.leaf {f op a b : Int} {P P1 : PH} (h : SX f 0 P) (hb : BdM P) (he : EM op a b P P1) (hf : FrM ([36], [19, 20, 21]) P P1) (hop : 0 ≤ op ∧ op ≤ 2) : SX f 1 P1 := by
  obtain ⟨⟨h1, h1', h1''⟩, h2, h3, h4, h5, h6, h7, h8⟩ := h
  have e37 : P1 0 37 = P 0 37 := hf.1 37 rfl
  have e43 : P1 0 43 = P 0 43 := hf.1 43 rfl
  have q := asum_b P (P 0 43).toNat
  have e36 := he.1
  have r5 : P1 5 = P 5 := hf.2 5 rfl rfl
  have r6 : P1 6 = P 6 := hf.2 6 rfl rfl
  have r7 : P1 7 = P 7 := hf.2 7 rfl rfl
  unfold SX
  rw [e37, e43, e36, ← Int.add_assoc]
  refine ⟨⟨h1, h1', by omega⟩, by rw [hf.2 24 rfl rfl]; exact h2, ?_, ?_, ?_, ?_⟩
  · unfold lev at h3 ⊢
    rw [e37, r5, r6, r7, hf.2 26 rfl rfl, hf.2 27 rfl rfl]; exact h3
  · rw [he.heights h1'', h4, asum_eq (P := P) (P1 := P1) _ (fun j _ _ => by rw [hf.2 25 rfl rfl])]
    unfold stp
    rw [if_neg (by omega), if_neg (by omega), if_neg (by omega)]
    show (_, _) = _
    rw [Int.add_zero]
  · exact he.wf hb h1'' h5 (fun j => by rw [r5]) (fun j => by rw [r7]) h4 ⟨by omega, by omega⟩ ⟨by omega, by omega⟩ (fun q => by omega) (fun q => by omega) (fun q => by omega)
  · rw [hf.2 25 rfl rfl]
    exact ⟨fun j j0 j1 => by have := h6 j j0 j1; omega, h7, by omega⟩
theorem SX.either {f : Int} {a b : Int} {P P1 : PH} (h : SX f 1 P) (hb : BdM P) (he : EM 6 a b P P1) (hf : FrM ([36], [19, 20, 21]) P P1) (hz : 0 < P 25 (P 0 43)) : SX f 0 P1 := by
  obtain ⟨⟨h1, h1', h1''⟩, h2, h3, h4, h5, h6, h7, h8⟩ := h
  have e37 : P1 0 37 = P 0 37 := hf.1 37 rfl
  have e43 : P1 0 43 = P 0 43 := hf.1 43 rfl
  have q := asum_b P (P 0 43).toNat
  have q1 := asum_s (P := P) h1
  rw [if_pos hz] at q1
  have q2 := asum_b P (P 0 43 - 1).toNat
  have e36 := he.1
  have r5 : P1 5 = P 5 := hf.2 5 rfl rfl
  have r6 : P1 6 = P 6 := hf.2 6 rfl rfl
  have r7 : P1 7 = P 7 := hf.2 7 rfl rfl
  unfold SX
  rw [e37, e43, e36, ← Int.add_assoc]
  refine ⟨⟨h1, h1', by omega⟩, by rw [hf.2 24 rfl rfl]; exact h2, ?_, ?_, ?_, ?_⟩
  · unfold lev at h3 ⊢
    rw [e37, r5, r6, r7, hf.2 26 rfl rfl, hf.2 27 rfl rfl]; exact h3
  · rw [he.heights h1'', h4, asum_eq (P := P) (P1 := P1) _ (fun j _ _ => by rw [hf.2 25 rfl rfl])]
    unfold stp
    rw [if_neg (by decide), if_neg (by decide), if_pos (by decide)]
    show (_, _) = _
    rw [show asum P (P 0 43).toNat + P 0 43 - 1 + 1 - 1 = asum P (P 0 43).toNat + P 0 43 - 1 + 0 by omega]
  · exact he.wf hb h1'' h5 (fun j => by rw [r5]) (fun j => by rw [r7]) h4 ⟨by omega, by omega⟩ ⟨by omega, by omega⟩ (fun q => by omega) (fun q => by omega) (fun q => by omega)
  · rw [hf.2 25 rfl rfl]
    exact ⟨fun j j0 j1 => by have := h6 j j0 j1; omega, h7, by omega⟩
/-- the top's alternatives are counted -/
theorem SX.alts {f w w1 : Int} {P P1 : PH} (h : SX f w P) (e36 : P1 0 36 = P 0 36) (e37 : P1 0 37 = P 0 37) (e43 : P1 0 43 = P 0 43) (o25 : ∀ j : Int, j ≠ P 0 43 → P1 25 j = P 25 j) (hz : 0 < P1 25 (P 0 43)) (hle : P1 25 (P 0 43) + w1 ≤ P 0 36) (hw : w1 = w - 1 + (if 0 < P 25 (P 0 43) then 1 else 0)) (r5 : ∀ j, P1 5 j = P 5 j) (r6 : ∀ j, P1 6 j = P 6 j) (r7 : ∀ j, P1 7 j = P 7 j) (r19 : ∀ j, P1 19 j = P 19 j) (r20 : ∀ j, P1 20 j = P 20 j) (r21 : ∀ j, P1 21 j = P 21 j) (r24 : ∀ j, P1 24 j = P 24 j) (r26 : ∀ j, P1 26 j = P 26 j) (r27 : ∀ j, P1 27 j = P 27 j) : SX f w1 P1 := by
  obtain ⟨⟨h1, h1', h1''⟩, h2, h3, h4, h5, h6, h7, h8⟩ := h
  have a1 := asum_s (P := P) h1
  have a2 := asum_s (P := P1) (k := P 0 43) h1
  rw [if_pos hz, show asum P1 (P 0 43 - 1).toNat = asum P (P 0 43 - 1).toNat from asum_eq _ (fun j j0 j1 => o25 j (by omega))] at a2
  unfold SX
  rw [e36, e37, e43]
  refine ⟨⟨h1, h1', h1''⟩, fun j j0 j1 => by rw [r24]; exact h2 j j0 j1, fun j j0 j1 => ?_, ?_, ?_, fun j j0 j1 => by rw [o25 j (by omega)]; exact h6 j j0 j1, by omega, hle⟩
  · have := h3 j j0 j1
    unfold lev at this ⊢
    rw [e37, r5, r26, r27, r7, r6]; exact this
  · rw [hts_eq _ (fun j _ _ => r19 j), h4, hw]
    have e9 : asum P (P 0 43).toNat + P 0 43 - 1 + w = asum P1 (P 0 43).toNat + P 0 43 - 1 + (w - 1 + if 0 < P 25 (P 0 43) then 1 else 0) := by
      generalize (if 0 < P 25 (P 0 43) then (1 : Int) else 0) = y at a1 ⊢
      omega
    rw [e9]
  · intro n hn
    have h9 := h5 n hn
    rw [hts_eq n (fun j _ _ => r19 j)]
    unfold okc at h9 ⊢
    rw [r5, r19, r20, r21, r7]; exact h9
theorem pot_em {P P1 : PH} {op a b : Int} (he : EM op a b P P1) (hf : FrM ([36], [19, 20, 21]) P P1) : pot P1 = pot P + 5 := by
  unfold pot
  rw [he.1, hf.1 43 rfl, asum_eq (P := P) (P1 := P1) _ (fun j _ _ => by rw [hf.2 25 rfl rfl]), crd_eq (P := P) _ (fun j _ _ => by rw [hf.2 27 rfl rfl])]
  omega
theorem pot_alts {P P1 : PH} (h1 : 1 ≤ P 0 43) (e36 : P1 0 36 = P 0 36) (e43 : P1 0 43 = P 0 43) (o25 : ∀ j : Int, j ≠ P 0 43 → P1 25 j = P 25 j) (hz : 0 < P1 25 (P 0 43)) (r27 : ∀ j, P1 27 j = P 27 j) : pot P1 = pot P + 5 - 5 * (if 0 < P 25 (P 0 43) then 1 else 0) := by
  have a1 := asum_s (P := P) h1
  have a2 := asum_s (P := P1) (k := P 0 43) h1
  rw [if_pos hz, show asum P1 (P 0 43 - 1).toNat = asum P (P 0 43 - 1).toNat from asum_eq _ (fun j j0 j1 => o25 j (by omega))] at a2
  unfold pot
  rw [e36, e43, crd_eq (P := P) _ (fun j _ _ => r27 j), a1, a2]
  omega
/-- a pattern is whole: the one it is in goes on -/
theorem SX.pop {f i z a4 b4 a5 b5 : Int} {P P0 P1 P2 : PH} (h : SX f 0 P) (hb : BdM P) (hb0 : BdM P0) (hb1 : BdM P1) (hz : 0 < P 25 (P 0 43)) (ez : P 0 43 = z) (hz2 : 2 ≤ z) (hf0 : FrM ([43], []) P P0) (e0 : P0 0 43 = z - 1) (h4 : EM 4 a4 b4 P0 P1) (hf1 : FrM ([36], [19, 20, 21]) P0 P1) (h5 : EM 5 a5 b5 P1 P2) (hf2 : FrM ([36], [19, 20, 21]) P1 P2) (ei : P 0 37 = i) : SX f 1 P2 ∧ lev P (z - 1) ∧ ((P 27 (z - 1) = 0 ∧ pot P2 + 6 = pot P + 5) ∨ (P 27 (z - 1) ≠ 0 ∧ pot P2 + 2 = pot P + 5)) := by
  obtain ⟨⟨g1, g1', g1''⟩, g2, g3, g4, g5, g6, g7, g8⟩ := h
  have k36 : P0 0 36 = P 0 36 := hf0.1 36 rfl
  have k37 : P0 0 37 = P 0 37 := hf0.1 37 rfl
  have l37 : P1 0 37 = P0 0 37 := hf1.1 37 rfl
  have m37 : P2 0 37 = P1 0 37 := hf2.1 37 rfl
  have l43 : P1 0 43 = P0 0 43 := hf1.1 43 rfl
  have m43 : P2 0 43 = P1 0 43 := hf2.1 43 rfl
  have l36 := h4.1
  have m36 := h5.1
  have a1 := asum_s (P := P) g1
  rw [if_pos hz] at a1
  have q2 := asum_b P (P 0 43 - 1).toNat
  have p5 : P0 5 = P 5 := hf0.2 5 rfl rfl
  have p6 : P0 6 = P 6 := hf0.2 6 rfl rfl
  have p7 : P0 7 = P 7 := hf0.2 7 rfl rfl
  have p19 : P0 19 = P 19 := hf0.2 19 rfl rfl
  have p20 : P0 20 = P 20 := hf0.2 20 rfl rfl
  have p21 : P0 21 = P 21 := hf0.2 21 rfl rfl
  have p24 : P0 24 = P 24 := hf0.2 24 rfl rfl
  have p25 : P0 25 = P 25 := hf0.2 25 rfl rfl
  have p26 : P0 26 = P 26 := hf0.2 26 rfl rfl
  have p27 : P0 27 = P 27 := hf0.2 27 rfl rfl
  have r5 : P1 5 = P0 5 := hf1.2 5 rfl rfl
  have r6 : P1 6 = P0 6 := hf1.2 6 rfl rfl
  have r7 : P1 7 = P0 7 := hf1.2 7 rfl rfl
  have r24 : P1 24 = P0 24 := hf1.2 24 rfl rfl
  have r25 : P1 25 = P0 25 := hf1.2 25 rfl rfl
  have r26 : P1 26 = P0 26 := hf1.2 26 rfl rfl
  have r27 : P1 27 = P0 27 := hf1.2 27 rfl rfl
  have s5 : P2 5 = P1 5 := hf2.2 5 rfl rfl
  have s6 : P2 6 = P1 6 := hf2.2 6 rfl rfl
  have s7 : P2 7 = P1 7 := hf2.2 7 rfl rfl
  have s24 : P2 24 = P1 24 := hf2.2 24 rfl rfl
  have s25 : P2 25 = P1 25 := hf2.2 25 rfl rfl
  have s26 : P2 26 = P1 26 := hf2.2 26 rfl rfl
  have s27 : P2 27 = P1 27 := hf2.2 27 rfl rfl
  -- the heights in P0
  have w0 : WF P0 (P0 0 37) f (2800 * P0 0 37 + P0 0 36) := by
    rw [k36, k37]
    exact g5.eq hb (fun j _ _ => ⟨by rw [p19], by rw [p20], by rw [p21]⟩) (by rw [p5]) (fun x _ _ => by rw [p7])
  have t0 : hts P0 f (2800 * P0 0 37 + P0 0 36 - f).toNat = (asum P (P 0 43).toNat + P 0 43 - 1 + 0, P 0 43 - 1) := by
    rw [k36, k37, hts_eq _ (fun j _ _ => by rw [p19])]; exact g4
  have f0 : f ≤ 2800 * P0 0 37 + P0 0 36 := by rw [k36, k37]; exact g1''
  have w1 := h4.wf hb0 f0 w0 (fun j => by rw [r5]) (fun j => by rw [r7]) t0 ⟨by omega, by omega⟩ ⟨by omega, by omega⟩ (fun q => by omega) (fun q => by omega) (fun q => by omega)
  have t1 := h4.heights f0
  rw [t0] at t1
  have e1 : 2800 * P1 0 37 + P1 0 36 = 2800 * P0 0 37 + P0 0 36 + 1 := by rw [l37, l36]; omega
  replace w1 : WF P1 (P1 0 37) f (2800 * P1 0 37 + P1 0 36) := by rw [e1, l37]; exact w1
  rw [← e1] at t1
  have t1' : hts P1 f (2800 * P1 0 37 + P1 0 36 - f).toNat = (asum P (P 0 43).toNat + P 0 43 - 1, P 0 43 - 1 - 1) := by
    rw [t1]; unfold stp; rw [if_neg (by decide), if_pos rfl, Int.add_zero]
  have f1 : f ≤ 2800 * P1 0 37 + P1 0 36 := by omega
  have w2 := h5.wf hb1 f1 w1 (fun j => by rw [s5]) (fun j => by rw [s7]) t1' ⟨by omega, by omega⟩ ⟨by omega, by omega⟩ (fun q => by omega) (fun q => by omega) (fun q => by omega)
  have t2 := h5.heights f1
  rw [t1'] at t2
  have e2 : 2800 * P2 0 37 + P2 0 36 = 2800 * P1 0 37 + P1 0 36 + 1 := by rw [m37, m36]; omega
  replace w2 : WF P2 (P2 0 37) f (2800 * P2 0 37 + P2 0 36) := by rw [e2, m37]; exact w2
  rw [← e2] at t2
  have c43 : P2 0 43 = z - 1 := by rw [m43, l43, e0]
  have as : asum P2 (z - 1).toNat = asum P (z - 1).toNat := asum_eq _ (fun j _ _ => by rw [s25, r25, p25])
  refine ⟨?_, g3 (z - 1) (by omega) (by omega), ?_⟩
  · unfold SX
    rw [c43]
    refine ⟨⟨by omega, by omega, by omega⟩, fun j j0 j1 => by rw [s24, r24, p24]; exact g2 j j0 (by omega), fun j j0 j1 => ?_, ?_, w2, fun j j0 j1 => ?_, ?_⟩
    · have := g3 j j0 (by omega)
      unfold lev at this ⊢
      rw [m37, l37, k37, s5, r5, p5, s26, r26, p26, s27, r27, p27, s7, r7, p7, s6, r6, p6]; exact this
    · rw [t2, as]
      unfold stp
      rw [if_neg (by decide), if_neg (by decide), if_pos (by decide)]
      show (_, _) = (_, _)
      rw [ez] at a1 ⊢
      rw [show asum P z.toNat + z - 1 - 1 = asum P (z - 1).toNat + (z - 1) - 1 + 1 by omega]
    · have := g6 j j0 (by omega)
      rw [s25, r25, p25]; omega
    · have := g6 (z - 1) (by omega) (by omega)
      rw [s25, r25, p25]; omega
  · unfold pot
    rw [c43, m36, l36, k36, as, crd_eq (P := P) _ (fun j _ _ => by rw [s27, r27, p27]), ez]
    have c1 := crd_s (P := P) (k := z - 1) (by omega)
    rw [show z - 1 + 1 = z by omega] at c1
    rw [ez] at a1
    rw [c1, a1]
    by_cases e : P 27 (z - 1) = 0
    · rw [if_pos e]; exact Or.inl ⟨e, by omega⟩
    · rw [if_neg e]; exact Or.inr ⟨e, by omega⟩
/-- a field's pattern begins -/
theorem SX.into {f i z con fld kd : Int} {P P1 P2 P3 : PH} (h : SX f 1 P) (hcf : CF P) (hb : BdM P) (hb1 : BdM P1) (hb2 : BdM P2) (ez : P 0 43 = z) (ei : P 0 37 = i) (hz4 : P 6 (24 * i + con) + z ≤ 4) (hcon : 0 ≤ con ∧ con < P 5 i) (hfld : 0 ≤ fld ∧ fld < P 7 (24 * i + con)) (ekd : kd = P 8 (2 * (24 * i + con) + fld)) (hf1 : FrM ([], [26, 27]) P P1) (o26 : ∀ j : Int, j ≠ z → P1 26 j = P 26 j) (e26 : P1 26 z = con) (o27 : ∀ j : Int, j ≠ z → P1 27 j = P 27 j) (e27 : P1 27 z = fld) (he : EM 3 con fld P1 P2) (hf2 : FrM ([36], [19, 20, 21]) P1 P2) (hf3 : FrM ([43], [24, 25]) P2 P3) (e43 : P3 0 43 = z + 1) (e24 : P3 24 (z + 1) = kd) (o24 : ∀ j : Int, j ≠ z + 1 → P3 24 j = P2 24 j) (e25 : P3 25 (z + 1) = 0) (o25 : ∀ j : Int, j ≠ z + 1 → P3 25 j = P2 25 j) : SX f 0 P3 ∧ ((fld = 0 ∧ pot P3 = pot P + 11) ∨ (fld ≠ 0 ∧ pot P3 = pot P + 7)) := by
  obtain ⟨⟨g1, g1', g1''⟩, g2, g3, g4, g5, g6, g7, g8⟩ := h
  have k36 : P1 0 36 = P 0 36 := hf1.1 36 rfl
  have k37 : P1 0 37 = P 0 37 := hf1.1 37 rfl
  have l37 : P2 0 37 = P1 0 37 := hf2.1 37 rfl
  have l43 : P2 0 43 = P1 0 43 := hf2.1 43 rfl
  have l36 := he.1
  have m36 : P3 0 36 = P2 0 36 := hf3.1 36 rfl
  have m37 : P3 0 37 = P2 0 37 := hf3.1 37 rfl
  have q2 := asum_b P (P 0 43).toNat
  have p5 : P1 5 = P 5 := hf1.2 5 rfl rfl
  have p6 : P1 6 = P 6 := hf1.2 6 rfl rfl
  have p7 : P1 7 = P 7 := hf1.2 7 rfl rfl
  have p19 : P1 19 = P 19 := hf1.2 19 rfl rfl
  have p20 : P1 20 = P 20 := hf1.2 20 rfl rfl
  have p21 : P1 21 = P 21 := hf1.2 21 rfl rfl
  have p24 : P1 24 = P 24 := hf1.2 24 rfl rfl
  have p25 : P1 25 = P 25 := hf1.2 25 rfl rfl
  have r5 : P2 5 = P1 5 := hf2.2 5 rfl rfl
  have r6 : P2 6 = P1 6 := hf2.2 6 rfl rfl
  have r7 : P2 7 = P1 7 := hf2.2 7 rfl rfl
  have r24 : P2 24 = P1 24 := hf2.2 24 rfl rfl
  have r25 : P2 25 = P1 25 := hf2.2 25 rfl rfl
  have r26 : P2 26 = P1 26 := hf2.2 26 rfl rfl
  have r27 : P2 27 = P1 27 := hf2.2 27 rfl rfl
  have s5 : P3 5 = P2 5 := hf3.2 5 rfl rfl
  have s6 : P3 6 = P2 6 := hf3.2 6 rfl rfl
  have s7 : P3 7 = P2 7 := hf3.2 7 rfl rfl
  have s19 : P3 19 = P2 19 := hf3.2 19 rfl rfl
  have s20 : P3 20 = P2 20 := hf3.2 20 rfl rfl
  have s21 : P3 21 = P2 21 := hf3.2 21 rfl rfl
  have s26 : P3 26 = P2 26 := hf3.2 26 rfl rfl
  have s27 : P3 27 = P2 27 := hf3.2 27 rfl rfl
  have w0 : WF P1 (P1 0 37) f (2800 * P1 0 37 + P1 0 36) := by
    rw [k36, k37]
    exact g5.eq hb (fun j _ _ => ⟨by rw [p19], by rw [p20], by rw [p21]⟩) (by rw [p5]) (fun x _ _ => by rw [p7])
  have t0 : hts P1 f (2800 * P1 0 37 + P1 0 36 - f).toNat = (asum P (P 0 43).toNat + P 0 43 - 1 + 1, P 0 43 - 1) := by
    rw [k36, k37, hts_eq _ (fun j _ _ => by rw [p19])]; exact g4
  have f0 : f ≤ 2800 * P1 0 37 + P1 0 36 := by rw [k36, k37]; exact g1''
  have w1 := he.wf hb1 f0 w0 (fun j => by rw [r5]) (fun j => by rw [r7]) t0 ⟨by omega, by omega⟩ ⟨by omega, by omega⟩ (fun _ => by rw [k37, p5, p7, ei]; exact ⟨hcon.2, hfld.2⟩) (fun q => by omega) (fun q => by omega)
  have t1 := he.heights f0
  rw [t0] at t1
  have e1 : 2800 * P2 0 37 + P2 0 36 = 2800 * P1 0 37 + P1 0 36 + 1 := by rw [l37, l36]; omega
  replace w1 : WF P2 (P2 0 37) f (2800 * P2 0 37 + P2 0 36) := by rw [e1, l37]; exact w1
  rw [← e1] at t1
  have hcc := hcf (24 * i + con) fld hfld.1 hfld.2
  have q8 := bl_8 (k := 2 * (24 * i + con) + fld) hb
  have q6 := bl_6 (k := 24 * i + con) hb
  have as : asum P3 (z + 1).toNat = asum P z.toNat := by
    have a1 := asum_s (P := P3) (k := z + 1) (by omega)
    rw [e25, if_neg (by decide), show z + 1 - 1 = z by omega, Int.add_zero] at a1
    rw [a1]
    exact asum_eq _ (fun j j0 j1 => by rw [o25 j (by omega), r25, p25])
  have j37 : P3 0 37 = i := by rw [m37, l37, k37, ei]
  have j36 : P3 0 36 = P 0 36 + 1 := by rw [m36, l36, k36]
  refine ⟨?_, ?_⟩
  · unfold SX
    rw [e43]
    refine ⟨⟨by omega, by omega, by rw [m36, m37]; omega⟩, fun j j0 j1 => ?_, fun j j0 j1 => ?_, ?_, ?_, fun j j0 j1 => ?_, by omega, by have q36 := b0_36 hb; omega⟩
    · by_cases e : j = z + 1
      · rw [e, e24, ekd]; omega
      · rw [o24 j e, r24, p24]; exact g2 j j0 (by omega)
    · unfold lev
      rw [j37, s26, r26, s27, r27, s5, r5, p5, s6, r6, p6, s7, r7, p7]
      by_cases e : j = z
      · rw [e, e26, e27]; exact ⟨hcon.2, hfld.2, hz4⟩
      · have := g3 j j0 (by omega)
        unfold lev at this
        rw [ei] at this
        rw [o26 j e, o27 j e]; exact this
    · rw [m36, m37, hts_eq _ (fun j _ _ => by rw [s19]), t1, as]
      unfold stp
      rw [if_pos rfl]
      show (_, _) = (_, _)
      rw [ez, show asum P z.toNat + z - 1 + 1 = asum P z.toNat + (z + 1) - 1 + 0 by omega, show z - 1 + 1 = z + 1 - 1 by omega]
    · rw [m36, m37]
      exact w1.eq hb2 (fun j _ _ => ⟨by rw [s19], by rw [s20], by rw [s21]⟩) (by rw [s5]) (fun x _ _ => by rw [s7])
    · rw [o25 j (by omega), r25, p25, j36]
      by_cases e : j = z
      · rw [e, ← ez]; omega
      · have := g6 j j0 (by omega); omega
  · unfold pot
    rw [e43, j36, as, crd_s (P := P3) (k := z) (by omega), s27, r27, e27, crd_eq (P := P) _ (fun j j0 j1 => by rw [s27, r27, o27 j (by omega)]), ez]
    by_cases e : fld = 0
    · rw [if_pos e]; exact Or.inl ⟨e, by omega⟩
    · rw [if_neg e]; exact Or.inr ⟨e, by omega⟩
/-- a column's pattern begins -/
theorem SX.start {kd : Int} {P1 : PH} (hb : BdM P1) (e43 : P1 0 43 = 1) (e24 : P1 24 1 = kd) (hk : kd = 4 ∨ kd ≤ 3) (e25 : P1 25 1 = 0) : SX (2800 * P1 0 37 + P1 0 36) 0 P1 ∧ pot P1 = 5 * P1 0 36 := by
  have as : asum P1 (1 : Int).toNat = 0 := by
    have a1 := asum_s (P := P1) (k := 1) (by omega)
    rw [e25, if_neg (by decide)] at a1
    rw [a1]; rfl
  refine ⟨?_, ?_⟩
  · unfold SX
    rw [e43]
    refine ⟨⟨by omega, by omega, by omega⟩, fun j j0 j1 => ?_, fun j j0 j1 => by omega, ?_, fun n hn => by omega, fun j j0 j1 => by omega, by omega, by have q36 := b0_36 hb; omega⟩
    · rw [show j = 1 by omega, e24]; omega
    · rw [show (2800 * P1 0 37 + P1 0 36 - (2800 * P1 0 37 + P1 0 36)).toNat = 0 by omega, as]; rfl
  · unfold pot
    rw [e43, as]
    show _ + _ + crd P1 1 = _
    show _ + _ + (0 + 0) = _
    omega
/-- the codes of the columns so far, of the arm that is being told -/
def ZA (m : Int) (P : PH) : Prop := ∀ c : Int, 0 ≤ c → c < m → WF P (P 0 37) (2800 * P 0 37 + P 17 (4 * (12 * P 0 37 + P 13 (P 0 37)) + c)) (2800 * P 0 37 + P 18 (4 * (12 * P 0 37 + P 13 (P 0 37)) + c)) ∧ P 18 (4 * (12 * P 0 37 + P 13 (P 0 37)) + c) ≤ P 0 36
theorem ZA.fr {m : Int} {P P1 : PH} {F : FS} (h : ZA m P) (hf : FrM F P P1) (hd : disF F ([36, 37], [5, 7, 13, 17, 18, 19, 20, 21]) = true) : ZA m P1 := by
  unfold disF at hd
  simp only [List.all_cons, List.all_nil, Bool.and_true, Bool.and_eq_true, Bool.not_eq_true'] at hd
  obtain ⟨⟨d36, d37⟩, d5, d7, d13, d17, d18, d19, d20, d21⟩ := hd
  have e19 := hf.2 19 rfl d19
  intro c c0 c1
  obtain ⟨h1, h2⟩ := h c c0 c1
  rw [hf.1 36 d36, hf.1 37 d37, hf.2 13 rfl d13, hf.2 17 rfl d17, hf.2 18 rfl d18]
  refine ⟨?_, h2⟩
  intro n hn
  have h3 := h1 n hn
  rw [hts_eq (P := P) n (fun j _ _ => by rw [e19])]
  unfold okc at h3 ⊢
  rw [hf.2 5 rfl d5, hf.2 7 rfl d7, e19, hf.2 20 rfl d20, hf.2 21 rfl d21]
  exact h3
theorem ZA.zero {P : PH} : ZA 0 P := fun c c0 c1 => by omega
/-- the rows of codes stay -/
theorem WF.row {P P1 : PH} {b f e : Int} (h : WF P b f e) (r5 : ∀ j, P1 5 j = P 5 j) (r7 : ∀ j, P1 7 j = P 7 j) (r19 : ∀ j, P1 19 j = P 19 j) (r20 : ∀ j, P1 20 j = P 20 j) (r21 : ∀ j, P1 21 j = P 21 j) : WF P1 b f e := by
  intro n hn
  have h3 := h n hn
  rw [hts_eq (P := P) n (fun j _ _ => r19 j)]
  unfold okc at h3 ⊢
  rw [r5, r19, r20, r21, r7]
  exact h3
/-- a column's pattern is told -/
theorem ZA.next {m i a : Int} {P P0 P1 P2 : PH} (h : ZA m P) (hb0 : BdM P0) (ei : P 0 37 = i) (ea : P 13 i = a) (hm : 0 ≤ m) (i0 : P0 0 37 = i) (r0_36 : P0 0 36 = P 0 36) (o17 : ∀ j : Int, j ≠ 4 * (12 * i + a) + m → P0 17 j = P 17 j) (e17 : P0 17 (4 * (12 * i + a) + m) = P 0 36) (r0 : FrM ([3, 4, 5, 6, 7, 8, 9, 12], [17]) P P0) (hl : LO P0 P1) (r1 : FrM ([3, 4, 5, 6, 7, 8, 9, 12, 36, 43], [19, 20, 21, 24, 25, 26, 27]) P0 P1) (hw : WF P1 i (2800 * i + P0 0 36) (2800 * i + P1 0 36)) (o18 : ∀ j : Int, j ≠ 4 * (12 * i + a) + m → P2 18 j = P1 18 j) (e18 : P2 18 (4 * (12 * i + a) + m) = P1 0 36) (r2 : FrM ([], [18]) P1 P2) : ZA (m + 1) P2 := by
  obtain ⟨l1, l2, l3⟩ := hl
  have q5 : ∀ j, P2 5 j = P1 5 j := fun j => by rw [r2.2 5 rfl rfl]
  have q7 : ∀ j, P2 7 j = P1 7 j := fun j => by rw [r2.2 7 rfl rfl]
  have q19 : ∀ j, P2 19 j = P1 19 j := fun j => by rw [r2.2 19 rfl rfl]
  have q20 : ∀ j, P2 20 j = P1 20 j := fun j => by rw [r2.2 20 rfl rfl]
  have q21 : ∀ j, P2 21 j = P1 21 j := fun j => by rw [r2.2 21 rfl rfl]
  have k37 : P2 0 37 = i := by rw [r2.1 37 rfl, l1, i0]
  have k36 : P2 0 36 = P1 0 36 := r2.1 36 rfl
  have k13 : P2 13 i = a := by rw [r2.2 13 rfl rfl, r1.2 13 rfl rfl, r0.2 13 rfl rfl]; exact ea
  have k17 : ∀ j, P2 17 j = P0 17 j := fun j => by rw [r2.2 17 rfl rfl, r1.2 17 rfl rfl]
  intro c c0 c1
  rw [k37, k13, k36, k17]
  by_cases e : c = m
  · rw [e, e17, e18, ← r0_36]
    exact ⟨hw.row q5 q7 q19 q20 q21, Int.le_refl _⟩
  · obtain ⟨h1, h2⟩ := h c c0 (by omega)
    rw [ei, ea] at h1
    rw [ei, ea] at h2
    rw [o17 _ (by omega), o18 _ (by omega), r1.2 18 rfl rfl, r0.2 18 rfl rfl]
    have w0 : WF P0 i (2800 * i + P 17 (4 * (12 * i + a) + c)) (2800 * i + P 18 (4 * (12 * i + a) + c)) := h1.row (fun j => by rw [r0.2 5 rfl rfl]) (fun j => by rw [r0.2 7 rfl rfl]) (fun j => by rw [r0.2 19 rfl rfl]) (fun j => by rw [r0.2 20 rfl rfl]) (fun j => by rw [r0.2 21 rfl rfl])
    refine ⟨(w0.eq hb0 (fun j j0 j1 => l3 j (by rw [i0]; omega)) (by rw [r1.2 5 rfl rfl]) (fun x _ _ => by rw [r1.2 7 rfl rfl])).row q5 q7 q19 q20 q21, by omega⟩
/-- the arm is counted -/
theorem ZS.arm {i a : Int} {P P1 : PH} (h : ZS P) (ei : P 0 37 = i) (ea : P 13 i = a) (ha : ZA (P 11 i) P) (o13 : ∀ j : Int, j ≠ i → P1 13 j = P 13 j) (e13 : P1 13 i = a + 1) (hf : FrM ([], [13]) P P1) : ZS P1 := by
  have k11 : ∀ j, P1 11 j = P 11 j := fun j => by rw [hf.2 11 rfl rfl]
  intro b x c b0 b1 x0 x1 c0 c1
  rw [k11] at c1
  rw [hf.1 36 rfl, hf.1 37 rfl, hf.2 17 rfl rfl, hf.2 18 rfl rfl]
  have hgo : WF P b (2800 * b + P 17 (4 * (12 * b + x) + c)) (2800 * b + P 18 (4 * (12 * b + x) + c)) ∧ (b = P 0 37 → P 18 (4 * (12 * b + x) + c) ≤ P 0 36) := by
    by_cases e : b = i
    · rcases (show x < a ∨ x = a by rw [e, e13] at x1; omega) with q | q
      · exact h b x c b0 b1 x0 (by rw [e, ea]; exact q) c0 c1
      · obtain ⟨h1, h2⟩ := ha c c0 (by rw [← e]; exact c1)
        rw [ei, ea] at h1
        rw [ei, ea] at h2
        rw [e, q]
        exact ⟨h1, fun _ => h2⟩
    · rw [o13 b e] at x1
      exact h b x c b0 b1 x0 x1 c0 c1
  exact ⟨hgo.1.row (fun j => by rw [hf.2 5 rfl rfl]) (fun j => by rw [hf.2 7 rfl rfl]) (fun j => by rw [hf.2 19 rfl rfl]) (fun j => by rw [hf.2 20 rfl rfl]) (fun j => by rw [hf.2 21 rfl rfl]), hgo.2⟩
/-- the rows of an arm that isn't counted may change -/
theorem ZS.pat {P P1 : PH} {F : FS} {i a : Int} (h : ZS P) (ei : P 0 37 = i) (ea : P 13 i = a) (hi : 0 ≤ i ∧ i ≤ 1) (hb : BdM P) (ha : a ≤ 11) (o17 : ∀ j : Int, (j < 4 * (12 * i + a) ∨ 4 * (12 * i + a) + 3 < j) → P1 17 j = P 17 j) (o18 : ∀ j : Int, (j < 4 * (12 * i + a) ∨ 4 * (12 * i + a) + 3 < j) → P1 18 j = P 18 j) (hf : FrM F P P1) (hd : disF F ([36, 37], [5, 7, 11, 13, 19, 20, 21]) = true) : ZS P1 := by
  unfold disF at hd
  simp only [List.all_cons, List.all_nil, Bool.and_true, Bool.and_eq_true, Bool.not_eq_true'] at hd
  obtain ⟨⟨d36, d37⟩, d5, d7, d11, d13, d19, d20, d21⟩ := hd
  intro b x c b0 b1 x0 x1 c0 c1
  rw [hf.2 13 rfl d13] at x1
  rw [hf.2 11 rfl d11] at c1
  obtain ⟨h1, h2⟩ := h b x c b0 b1 x0 x1 c0 c1
  have q11 := bl_11 (k := b) hb
  have q13 := bl_13 (k := b) hb
  have q13i := bl_13 (k := i) hb
  rw [ea] at q13i
  have hx : 4 * (12 * b + x) + c < 4 * (12 * i + a) ∨ 4 * (12 * i + a) + 3 < 4 * (12 * b + x) + c := by
    by_cases e : b = i
    · rw [e, ea] at x1; rw [e]; omega
    · omega
  rw [o17 _ hx, o18 _ hx, hf.1 36 d36, hf.1 37 d37]
  exact ⟨h1.row (fun j => by rw [hf.2 5 rfl d5]) (fun j => by rw [hf.2 7 rfl d7]) (fun j => by rw [hf.2 19 rfl d19]) (fun j => by rw [hf.2 20 rfl d20]) (fun j => by rw [hf.2 21 rfl d21]), h2⟩
theorem pot_c (P : PH) : 5 * P 0 36 ≤ pot P := by
  have q1 := asum_b P (P 0 43).toNat
  have q2 := crd_b P (P 0 43).toNat
  unfold pot; omega
/-- the pattern is whole -/
theorem SX.done {f : Int} {P : PH} (h : SX f 0 P) (h1 : P 0 43 = 1) (hz : 0 < P 25 1) : WF P (P 0 37) f (2800 * P 0 37 + P 0 36) ∧ pot P = 5 * P 0 36 + 5 := by
  refine ⟨h.2.2.2.2.1, ?_⟩
  unfold pot
  have a1 := asum_s (P := P) (k := 1) (by omega)
  rw [if_pos hz] at a1
  rw [h1, a1]
  show _ + 5 * (0 + 1) + (0 + 0) = _
  omega
/-- the top's alternative is counted, whether it is the first or not -/
theorem SX.count {f : Int} {P P1 : PH} (hA : (SX f 0 P ∧ 0 < P 25 (P 0 43)) ∨ (SX f 1 P ∧ P 25 (P 0 43) ≤ 0)) (e36 : P1 0 36 = P 0 36) (e37 : P1 0 37 = P 0 37) (e43 : P1 0 43 = P 0 43) (o25 : ∀ j : Int, j ≠ P 0 43 → P1 25 j = P 25 j) (hz : 0 < P1 25 (P 0 43)) (hle : P1 25 (P 0 43) ≤ P 0 36) (r5 : ∀ j, P1 5 j = P 5 j) (r6 : ∀ j, P1 6 j = P 6 j) (r7 : ∀ j, P1 7 j = P 7 j) (r19 : ∀ j, P1 19 j = P 19 j) (r20 : ∀ j, P1 20 j = P 20 j) (r21 : ∀ j, P1 21 j = P 21 j) (r24 : ∀ j, P1 24 j = P 24 j) (r26 : ∀ j, P1 26 j = P 26 j) (r27 : ∀ j, P1 27 j = P 27 j) : SX f 0 P1 ∧ ((0 < P 25 (P 0 43) ∧ pot P1 = pot P) ∨ (P 25 (P 0 43) ≤ 0 ∧ pot P1 = pot P + 5)) := by
  rcases hA with ⟨h, hx⟩ | ⟨h, hx⟩
  · have hp := pot_alts h.1.1 e36 e43 o25 hz r27
    rw [if_pos hx] at hp
    exact ⟨h.alts e36 e37 e43 o25 hz (by omega) (by rw [if_pos hx]; omega) r5 r6 r7 r19 r20 r21 r24 r26 r27, Or.inl ⟨hx, by omega⟩⟩
  · have hp := pot_alts h.1.1 e36 e43 o25 hz r27
    rw [if_neg (by omega)] at hp
    exact ⟨h.alts e36 e37 e43 o25 hz (by omega) (by rw [if_neg (by omega)]; omega) r5 r6 r7 r19 r20 r21 r24 r26 r27, Or.inr ⟨hx, by omega⟩⟩
/-- the top's alternatives are more than none -/
def TP (P : PH) : Prop := 0 < P 25 (P 0 43)
theorem TP.fr {P P1 : PH} {F : FS} (h : TP P) (hf : FrM F P P1) (hd : disF F ([43], [25]) = true) : TP P1 := by
  unfold disF at hd
  simp only [List.all_cons, List.all_nil, Bool.and_true, Bool.true_and, Bool.and_eq_true, Bool.not_eq_true'] at hd
  unfold TP at h ⊢
  rw [hf.1 43 hd.1, hf.2 25 rfl hd.2]
  exact h
theorem ZA.mono {m k : Int} {P : PH} (h : ZA m P) (hk : k ≤ m) : ZA k P := fun c c0 c1 => h c c0 (by omega)
/-- .. or something was wrong -/
def ZB (x m : Int) (P : PH) : Prop := 0 < x ∨ ZA m P
theorem ZB.fr {x m : Int} {P P1 : PH} {F : FS} (h : ZB x m P) (hf : FrM F P P1) (hd : disF F ([36, 37], [5, 7, 13, 17, 18, 19, 20, 21]) = true) : ZB x m P1 := h.elim Or.inl (fun h => Or.inr (h.fr hf hd))
/-- heights at a code -/
def hN (P : PH) (f c : Int) : Int := (hts P f (c - f).toNat).1
def hD (P : PH) (f c : Int) : Int := (hts P f (c - f).toNat).2
theorem hN_0 {P : PH} {f : Int} : (0 : Int) = hN P f f := by unfold hN; rw [show (f - f).toNat = 0 by omega]; rfl
theorem hD_0 {P : PH} {f : Int} : (0 : Int) = hD P f f := by unfold hD; rw [show (f - f).toNat = 0 by omega]; rfl
theorem hts_at {P : PH} {f c : Int} (h : f ≤ c) : (P 19 c = 3 ∧ hN P f (c + 1) = hN P f c ∧ hD P f (c + 1) = hD P f c + 1) ∨ (P 19 c = 4 ∧ hN P f (c + 1) = hN P f c ∧ hD P f (c + 1) = hD P f c - 1) ∨ (5 ≤ P 19 c ∧ hN P f (c + 1) = hN P f c - 1 ∧ hD P f (c + 1) = hD P f c) ∨ (P 19 c ≤ 2 ∧ hN P f (c + 1) = hN P f c + 1 ∧ hD P f (c + 1) = hD P f c) := by
  unfold hN hD
  rw [show (c + 1 - f).toNat = (c - f).toNat + 1 by omega]
  show (_ ∧ (stp (P 19 (f + ((c - f).toNat : Int))) _).1 = _ ∧ (stp (P 19 (f + ((c - f).toNat : Int))) _).2 = _) ∨ (_ ∧ (stp (P 19 (f + ((c - f).toNat : Int))) _).1 = _ ∧ (stp (P 19 (f + ((c - f).toNat : Int))) _).2 = _) ∨ (_ ∧ (stp (P 19 (f + ((c - f).toNat : Int))) _).1 = _ ∧ (stp (P 19 (f + ((c - f).toNat : Int))) _).2 = _) ∨ (_ ∧ (stp (P 19 (f + ((c - f).toNat : Int))) _).1 = _ ∧ (stp (P 19 (f + ((c - f).toNat : Int))) _).2 = _)
  rw [show f + (((c - f).toNat : Nat) : Int) = c by omega]
  unfold stp
  by_cases h3 : P 19 c = 3
  · rw [if_pos h3]; exact Or.inl ⟨h3, rfl, rfl⟩
  · rw [if_neg h3]
    by_cases h4 : P 19 c = 4
    · rw [if_pos h4]; exact Or.inr (Or.inl ⟨h4, rfl, rfl⟩)
    · rw [if_neg h4]
      by_cases h5 : 5 ≤ P 19 c
      · rw [if_pos h5]; exact Or.inr (Or.inr (Or.inl ⟨h5, rfl, rfl⟩))
      · rw [if_neg h5]; exact Or.inr (Or.inr (Or.inr ⟨by omega, rfl, rfl⟩))
theorem WF.at {P : PH} {b f e c : Int} (h : WF P b f e) (hc : f ≤ c) (he : c < e) : (0 ≤ hN P f c ∧ hN P f c ≤ 800) ∧ (0 ≤ hD P f c ∧ hD P f c ≤ 10) ∧ (P 19 c = 3 → P 20 c < P 5 b ∧ P 21 c < P 7 (24 * b + P 20 c)) ∧ (P 19 c = 4 → 1 ≤ hD P f c) ∧ (5 ≤ P 19 c → 2 ≤ hN P f c) := by
  have h1 := h (c - f).toNat (by omega)
  rw [show f + (((c - f).toNat : Nat) : Int) = c by omega] at h1
  obtain ⟨a1, a2, a3, a4, a5, a6, a7⟩ := h1
  exact ⟨⟨a1, a2⟩, ⟨a3, a4⟩, a5, a6, a7⟩
end
section
/-! When a new telling begins. -/
theorem prd_up0 {P : PH} {k z b : Int} : prdU (up P 0 k z) b ((up P 0 k z) 11 b).toNat = prdU P b (P 11 b).toNat := prd_fr (F := ([k], [])) (FrM.s FrM.rf (by simp)) rfl
/-! A new telling begins. -/
theorem ZT.fresh {P P1 : PH} {i : Int} (h : ZT P) (o2 : ∀ j : Int, j ≠ i → P1 2 j = P 2 j) (o5 : ∀ j : Int, j ≠ i → P1 5 j = P 5 j) (e5 : P1 5 i = 0) (r3 : ∀ j, P1 3 j = P 3 j) (r6 : ∀ j, P1 6 j = P 6 j) (r7 : ∀ j, P1 7 j = P 7 j) (r8 : ∀ j, P1 8 j = P 8 j) (r10 : ∀ j, P1 10 j = P 10 j) : ZT P1 := by
  intro b c b0 b1 c0 c1
  have hne : b ≠ i := fun e => by rw [e, e5] at c1; omega
  rw [o5 b hne] at c1
  obtain ⟨h1, h2⟩ := h b c b0 b1 c0 c1
  exact ⟨by rw [r6, o2 b hne]; exact h1, h2.eq (r7 _) (r10 _) (fun f _ _ => ⟨r8 _, vals_eq fun _ => r3 _⟩)⟩
theorem ZO.fresh {P P1 : PH} {i : Int} (h : ZO P) (o2 : ∀ j : Int, j ≠ i → P1 2 j = P 2 j) (e2 : P1 2 i = 0) (o5 : ∀ j : Int, j ≠ i → P1 5 j = P 5 j) (r3 : ∀ j, P1 3 j = P 3 j) (r6 : ∀ j, P1 6 j = P 6 j) (r9 : ∀ j, P1 9 j = P 9 j) (r10 : ∀ j, P1 10 j = P 10 j) : ZO P1 := by
  intro b k v b0 b1 k0 k1 v0 v1
  have hne : b ≠ i := fun e => by rw [e, e2] at k1; omega
  rw [o2 b hne] at k1
  rw [r3] at v1
  obtain ⟨c, a1, a2, a3, a4, a5⟩ := h b k v b0 b1 k0 k1 v0 v1
  exact ⟨c, a1, by rw [o5 b hne]; exact a2, by rw [r6]; exact a3, by rw [r9]; exact a4, by rw [r9, r10]; exact a5⟩
theorem ZC.fresh {P P1 : PH} {i : Int} (h : ZC P) (o2 : ∀ j : Int, j ≠ i → P1 2 j = P 2 j) (o11 : ∀ j : Int, j ≠ i → P1 11 j = P 11 j) (e11 : P1 11 i = 0) (r3 : ∀ j, P1 3 j = P 3 j) (r12 : ∀ j, P1 12 j = P 12 j) : ZC P1 := by
  intro b c b0 b1 c0 c1
  have hne : b ≠ i := fun e => by rw [e, e11] at c1; omega
  rw [o11 b hne] at c1
  rw [r12, r3, o2 b hne]
  exact h b c b0 b1 c0 c1
theorem ZS.fresh {P P1 : PH} {i : Int} (h : ZS P) (e37 : P1 0 37 = i) (o5 : ∀ j : Int, j ≠ i → P1 5 j = P 5 j) (o11 : ∀ j : Int, j ≠ i → P1 11 j = P 11 j) (o13 : ∀ j : Int, j ≠ i → P1 13 j = P 13 j) (e13 : P1 13 i = 0) (r7 : ∀ j, P1 7 j = P 7 j) (r17 : ∀ j, P1 17 j = P 17 j) (r18 : ∀ j, P1 18 j = P 18 j) (r19 : ∀ j, P1 19 j = P 19 j) (r20 : ∀ j, P1 20 j = P 20 j) (r21 : ∀ j, P1 21 j = P 21 j) : ZS P1 := by
  intro b a c b0 b1 a0 a1 c0 c1
  have hne : b ≠ i := fun e => by rw [e, e13] at a1; omega
  rw [o13 b hne] at a1
  rw [o11 b hne] at c1
  obtain ⟨h1, h2⟩ := h b a c b0 b1 a0 a1 c0 c1
  rw [r17, r18, e37]
  refine ⟨?_, fun e => absurd e hne⟩
  intro n hn
  have h3 := h1 n hn
  rw [hts_eq (P := P) n (fun j _ _ => r19 j)]
  unfold okc at h3 ⊢
  rw [o5 b hne, r19, r20, r21, r7]
  exact h3
end
end
section
/-! Contracts of the reference: mg. -/
set_option maxRecDepth 100000 in
set_option maxHeartbeats 4000000 in
theorem m_X12_fieldOf (G : GT) (P : PH) (a1 : Int) (a2 : Int) (a3 : Int) (h_a1 : (-2147483648) ≤ a1 ∧ a1 ≤ 2147483647) (h_a2 : 0 ≤ a2 ∧ a2 ≤ 23) (h_a3 : 0 ≤ a3 ∧ a3 ≤ 19) (hB : BdM P) (p_zv : ZV P (P 0 13) (24 * P 0 13 + a2)) (p_fl : a3 < P 7 (24 * P 0 13 + a2)) (Q : Option PV → PH → Prop) (hQ : ∀ (r : Int) (_ : (-2147483648) ≤ r ∧ r ≤ 2147483647) (_ : (a1 < P 9 (24 * P 0 13 + a2) ∨ P 9 (24 * P 0 13 + a2) + P 10 (24 * P 0 13 + a2) ≤ a1) ∨ (0 ≤ r ∧ (a3 = 0 → r < vals P (P 0 13) (P 8 (2 * (24 * P 0 13 + a2)))) ∧ (a3 = 1 → r < vals P (P 0 13) (P 8 (2 * (24 * P 0 13 + a2) + 1))))), Q (some (vI r)) P) : Ct WSM G 2 iX12_fieldOf [vR 0, vI a1, vI a2, vI a3] P Q := by
  refine Ct.of (by decide) (l0 := [(0, vR 0), (1, vI a1), (2, vI a2), (3, vI a3)]) rfl (Nat.le_of_ble_eq_true rfl) ?_
  refine g_bipush dX12_fieldOf_0 (by decide) ?_
  refine g_aload_n dX12_fieldOf_2 rfl ?_
  refine m_g13 (z := (P 0 13)) rfl dX12_fieldOf_3 rfl ?_
  refine g_imul dX12_fieldOf_6 ?_
  refine g_iload_n dX12_fieldOf_7 rfl ?_
  refine g_iadd dX12_fieldOf_8 ?_
  refine g_istore (l1 := [(4, vI ((24 * (P 0 13)) + a2)), (0, vR 0), (1, vI a1), (2, vI a2), (3, vI a3)]) dX12_fieldOf_9 (by decide) rfl ?_
  refine g_iload_n dX12_fieldOf_11 rfl ?_
  refine g_aload_n dX12_fieldOf_12 rfl ?_
  refine m_g21 rfl dX12_fieldOf_13 ?_
  refine g_iload dX12_fieldOf_16 rfl ?_
  refine m_l9 (z := (P 9 ((24 * (P 0 13)) + a2))) dX12_fieldOf_18 ⟨by have q0 := b0_13 hB; omega, by have q0 := b0_13 hB; omega⟩ rfl ?_
  have f1 := bl_9 (k := ((24 * (P 0 13)) + a2)) hB
  refine g_icmp_lt (tgt := 41) dX12_fieldOf_19 (by decide) ⟨by omega, by omega⟩ ⟨by have q0 := bl_9 (k := ((24 * (P 0 13)) + a2)) hB; omega, by have q0 := bl_9 (k := ((24 * (P 0 13)) + a2)) hB; omega⟩ (fun k2 => ?_) (fun k2 => ?_)
  · refine g_iconst dX12_fieldOf_41 ?_
    exact g_retI dX12_fieldOf_42 rfl (hQ (-1) (by decide) (by have hzv := p_zv; unfold ZV at hzv; omega))
  · refine g_iload_n dX12_fieldOf_22 rfl ?_
    refine g_aload_n dX12_fieldOf_23 rfl ?_
    refine m_g21 rfl dX12_fieldOf_24 ?_
    refine g_iload dX12_fieldOf_27 rfl ?_
    refine m_l9 (z := (P 9 ((24 * (P 0 13)) + a2))) dX12_fieldOf_29 ⟨by have q0 := b0_13 hB; omega, by have q0 := b0_13 hB; omega⟩ rfl ?_
    refine g_aload_n dX12_fieldOf_30 rfl ?_
    refine m_g22 rfl dX12_fieldOf_31 ?_
    refine g_iload dX12_fieldOf_34 rfl ?_
    refine m_l10 (z := (P 10 ((24 * (P 0 13)) + a2))) dX12_fieldOf_36 ⟨by have q0 := b0_13 hB; omega, by have q0 := b0_13 hB; omega⟩ rfl ?_
    refine g_iadd dX12_fieldOf_37 ?_
    have f3 := bl_10 (k := ((24 * (P 0 13)) + a2)) hB
    refine g_icmp_lt (tgt := 43) dX12_fieldOf_38 (by decide) ⟨by omega, by omega⟩ ⟨by have q0 := bl_9 (k := ((24 * (P 0 13)) + a2)) hB; have q1 := bl_10 (k := ((24 * (P 0 13)) + a2)) hB; omega, by have q0 := bl_9 (k := ((24 * (P 0 13)) + a2)) hB; have q1 := bl_10 (k := ((24 * (P 0 13)) + a2)) hB; omega⟩ (fun k4 => ?_) (fun k4 => ?_)
    · refine g_iload_n dX12_fieldOf_43 rfl ?_
      refine g_aload_n dX12_fieldOf_44 rfl ?_
      refine m_g21 rfl dX12_fieldOf_45 ?_
      refine g_iload dX12_fieldOf_48 rfl ?_
      refine m_l9 (z := (P 9 ((24 * (P 0 13)) + a2))) dX12_fieldOf_50 ⟨by have q0 := b0_13 hB; omega, by have q0 := b0_13 hB; omega⟩ rfl ?_
      refine g_isub dX12_fieldOf_51 ?_
      refine g_istore (l1 := [(5, vI (a1 - (P 9 ((24 * (P 0 13)) + a2)))), (4, vI ((24 * (P 0 13)) + a2)), (0, vR 0), (1, vI a1), (2, vI a2), (3, vI a3)]) dX12_fieldOf_52 (by decide) rfl ?_
      refine g_aload_n dX12_fieldOf_54 rfl ?_
      refine m_g19 rfl dX12_fieldOf_55 ?_
      refine g_iload dX12_fieldOf_58 rfl ?_
      refine m_l7 (z := (P 7 ((24 * (P 0 13)) + a2))) dX12_fieldOf_60 ⟨by have q0 := b0_13 hB; omega, by have q0 := b0_13 hB; omega⟩ rfl ?_
      refine g_iconst dX12_fieldOf_61 ?_
      have f5 := bl_7 (k := ((24 * (P 0 13)) + a2)) hB
      refine g_icmp_ne (tgt := 68) dX12_fieldOf_62 (by decide) ⟨by have q0 := bl_7 (k := ((24 * (P 0 13)) + a2)) hB; omega, by have q0 := bl_7 (k := ((24 * (P 0 13)) + a2)) hB; omega⟩ (by decide) (fun k6 => ?_) (fun k6 => ?_)
      · refine g_aload_n dX12_fieldOf_68 rfl ?_
        refine g_aload_n dX12_fieldOf_69 rfl ?_
        refine m_g13 (z := (P 0 13)) rfl dX12_fieldOf_70 rfl ?_
        refine g_aload_n dX12_fieldOf_73 rfl ?_
        refine m_g20 rfl dX12_fieldOf_74 ?_
        refine g_iconst dX12_fieldOf_77 ?_
        refine g_iload dX12_fieldOf_78 rfl ?_
        refine g_imul dX12_fieldOf_80 ?_
        refine g_iconst dX12_fieldOf_81 ?_
        refine g_iadd dX12_fieldOf_82 ?_
        refine m_l8 (z := (P 8 ((2 * ((24 * (P 0 13)) + a2)) + 1))) dX12_fieldOf_83 ⟨by have q0 := b0_13 hB; omega, by have q0 := b0_13 hB; omega⟩ rfl ?_
        have f7 := b0_13 hB
        have f8 := bl_8 (k := ((2 * ((24 * (P 0 13)) + a2)) + 1)) hB
        refine g_vI (av := [vI (P 0 13), vI (P 8 ((2 * ((24 * (P 0 13)) + a2)) + 1))]) (o := 0) (st := []) (m_X12_valuesOf G P (P 0 13) (P 8 ((2 * ((24 * (P 0 13)) + a2)) + 1)) ⟨by have q0 := b0_13 hB; omega, by have q0 := b0_13 hB; omega⟩ ⟨by have q0 := bl_8 (k := ((2 * ((24 * (P 0 13)) + a2)) + 1)) hB; omega, by have q0 := bl_8 (k := ((2 * ((24 * (P 0 13)) + a2)) + 1)) hB; omega⟩ hB  _ (fun rc9 hc9 gc9_v => ⟨rc9, rfl, ?_⟩)) cf_X12_valuesOf t_1756 rfl (by decide) rfl rfl rfl (Nat.le_of_ble_eq_true rfl) (by decide) rfl dX12_fieldOf_84
        have hsd := vals_of gc9_v
        have hzv := p_zv
        unfold ZV at hzv
        have hz2 := (hzv.resolve_left (by omega)).resolve_left (by omega)
        have hz3 : 1 ≤ rc9 := by omega
        refine g_istore (l1 := [(6, vI rc9), (5, vI (a1 - (P 9 ((24 * (P 0 13)) + a2)))), (4, vI ((24 * (P 0 13)) + a2)), (0, vR 0), (1, vI a1), (2, vI a2), (3, vI a3)]) dX12_fieldOf_87 (by decide) rfl ?_
        refine g_iload_n dX12_fieldOf_89 rfl ?_
        refine g_if_ne (tgt := 101) dX12_fieldOf_90 (by decide) ⟨by omega, by omega⟩ (fun k10 => ?_) (fun k10 => ?_)
        · refine g_iload dX12_fieldOf_101 rfl ?_
          refine g_iload dX12_fieldOf_103 rfl ?_
          refine g_irem dX12_fieldOf_105 ⟨⟨by omega, by omega⟩, by omega⟩ ?_
          refine g_nm (fun b11 e_b11 => ?_)
          have h_b11 := irem_ir (a1 - (P 9 ((24 * (P 0 13)) + a2))) rc9
          rw [← e_b11] at h_b11
          have hrm9 : a3 = 0 ∨ (0 ≤ b11 ∧ b11 < rc9) := by first | (left; omega) | (right; rw [e_b11]; exact irem_b ⟨by omega, by omega⟩ ⟨by omega, by omega⟩)
          exact g_retI dX12_fieldOf_106 rfl (hQ b11 ⟨by omega, by omega⟩ (by have hzv := p_zv; unfold ZV at hzv; omega))
        · refine g_iload dX12_fieldOf_93 rfl ?_
          refine g_iload dX12_fieldOf_95 rfl ?_
          refine g_idiv dX12_fieldOf_97 ⟨⟨by omega, by omega⟩, by omega⟩ ?_
          refine g_nm (fun b12 e_b12 => ?_)
          have h_b12 := idiv_ir (a1 - (P 9 ((24 * (P 0 13)) + a2))) rc9
          rw [← e_b12] at h_b12
          have f_b12_0 := bl_9 (k := ((24 * (P 0 13)) + a2)) hB
          have hi9 : b12 = (a1 - (P 9 ((24 * (P 0 13)) + a2))) / rc9 := by rw [e_b12]; exact idiv_p ⟨by omega, by omega⟩ ⟨by omega, by omega⟩
          have hlt9 : b12 < vals P (P 0 13) (P 8 (2 * (24 * P 0 13 + a2))) := by rw [hi9]; exact Int.ediv_lt_of_lt_mul (by omega) (by rw [hsd]; have q := hz2.2.2.2; omega)
          have hnn9 : 0 ≤ b12 := by rw [hi9]; exact Int.ediv_nonneg (by omega) (by omega)
          refine g_goto (tgt := 106) dX12_fieldOf_98 (by decide) ?_
          have hrm9 : a3 = 0 ∨ (0 ≤ b12 ∧ b12 < rc9) := by first | (left; omega) | (right; rw [e_b12]; exact irem_b ⟨by omega, by omega⟩ ⟨by omega, by omega⟩)
          exact g_retI dX12_fieldOf_106 rfl (hQ b12 ⟨by omega, by omega⟩ (by have hzv := p_zv; unfold ZV at hzv; omega))
      · refine g_iload dX12_fieldOf_65 rfl ?_
        exact g_retI dX12_fieldOf_67 rfl (hQ (a1 - (P 9 ((24 * (P 0 13)) + a2))) ⟨by have q0 := bl_9 (k := ((24 * (P 0 13)) + a2)) hB; omega, by have q0 := bl_9 (k := ((24 * (P 0 13)) + a2)) hB; omega⟩ (by have hzv := p_zv; unfold ZV at hzv; omega))
    · refine g_iconst dX12_fieldOf_41 ?_
      exact g_retI dX12_fieldOf_42 rfl (hQ (-1) (by decide) (by have hzv := p_zv; unfold ZV at hzv; omega))
set_option maxRecDepth 100000 in
set_option maxHeartbeats 4000000 in
theorem m_X12_isFitting (G : GT) (P : PH) (a1 : Int) (a2 : Int) (a3 : Int) (h_a1 : 0 ≤ a1 ∧ a1 ≤ 11) (h_a2 : 0 ≤ a2 ∧ a2 ≤ 3) (h_a3 : (-2147483648) ≤ a3 ∧ a3 ≤ 2147483647) (hB : BdM P) (p_a : a1 < P 13 (P 0 13)) (p_c : a2 < P 11 (P 0 13)) (v_ZT : ZT P) (v_ZS : ZS P) (Q : Option PV → PH → Prop) (hQ : ∀ (r : Int) (_ : 0 ≤ r ∧ r ≤ 1) (P1 : PH) (_ : BdM P1) (_ : FrM ([], [29, 30]) P P1), Q (some (vI r)) P1) : Ct WSM G 3 iX12_isFitting [vR 0, vI a1, vI a2, vI a3] P Q := by
  refine Ct.of (by decide) (l0 := [(0, vR 0), (1, vI a1), (2, vI a2), (3, vI a3)]) rfl (Nat.le_of_ble_eq_true rfl) ?_
  refine g_iconst dX12_isFitting_0 ?_
  refine g_istore (l1 := [(4, vI 0), (0, vR 0), (1, vI a1), (2, vI a2), (3, vI a3)]) dX12_isFitting_1 (by decide) rfl ?_
  refine g_iconst dX12_isFitting_3 ?_
  refine g_istore (l1 := [(5, vI 0), (4, vI 0), (0, vR 0), (1, vI a1), (2, vI a2), (3, vI a3)]) dX12_isFitting_4 (by decide) rfl ?_
  refine g_aload_n dX12_isFitting_6 rfl ?_
  refine m_g46 rfl dX12_isFitting_7 ?_
  refine g_iconst dX12_isFitting_10 ?_
  refine g_iload_n dX12_isFitting_11 rfl ?_
  refine m_s29 dX12_isFitting_12 (by decide) ?_
  have hB1 := ba_29 (z := a3) (k := 0) hB ⟨by omega, by omega⟩
  refine g_iconst dX12_isFitting_13 ?_
  refine g_bipush dX12_isFitting_14 (by decide) ?_
  refine g_aload_n dX12_isFitting_16 rfl ?_
  refine m_g13 (z := (P 0 13)) rfl dX12_isFitting_17 ((up_o (by decide)).trans rfl) ?_
  refine g_imul dX12_isFitting_20 ?_
  refine g_iload_n dX12_isFitting_21 rfl ?_
  refine g_iadd dX12_isFitting_22 ?_
  refine g_imul dX12_isFitting_23 ?_
  refine g_iload_n dX12_isFitting_24 rfl ?_
  refine g_iadd dX12_isFitting_25 ?_
  refine g_istore (l1 := [(6, vI ((4 * ((12 * (P 0 13)) + a1)) + a2)), (5, vI 0), (4, vI 0), (0, vR 0), (1, vI a1), (2, vI a2), (3, vI a3)]) dX12_isFitting_26 (by decide) rfl ?_
  refine g_sipush dX12_isFitting_28 (by decide) ?_
  refine g_aload_n dX12_isFitting_31 rfl ?_
  refine m_g13 (z := (P 0 13)) rfl dX12_isFitting_32 ((up_o (by decide)).trans rfl) ?_
  refine g_imul dX12_isFitting_35 ?_
  refine g_aload_n dX12_isFitting_36 rfl ?_
  refine m_g29 rfl dX12_isFitting_37 ?_
  refine g_iload dX12_isFitting_40 rfl ?_
  refine m_l17 (z := (P 17 ((4 * ((12 * (P 0 13)) + a1)) + a2))) dX12_isFitting_42 ⟨by have q0 := b0_13 hB; omega, by have q0 := b0_13 hB; omega⟩ ((up_o (by decide)).trans rfl) ?_
  refine g_iadd dX12_isFitting_43 ?_
  obtain ⟨f9, hf9⟩ : ∃ f, f = ((2800 * (P 0 13)) + (P 17 ((4 * ((12 * (P 0 13)) + a1)) + a2))) := ⟨_, rfl⟩
  have hwf := (v_ZS (P 0 13) a1 a2 (by have q := b0_13 hB; omega) (by have q := b0_13 hB; omega) (by omega) p_a (by omega) p_c).1
  rw [← hf9] at hwf
  have q13b := b0_13 hB
  refine g_nm (fun v2 e_v2 => ?_)
  have f_v2_0 := b0_13 hB
  have f_v2_1 := bl_17 (k := ((4 * ((12 * (P 0 13)) + a1)) + a2)) hB
  refine g_istore (l1 := [(7, vI v2), (6, vI ((4 * ((12 * (P 0 13)) + a1)) + a2)), (5, vI 0), (4, vI 0), (0, vR 0), (1, vI a1), (2, vI a2), (3, vI a3)]) dX12_isFitting_44 (by decide) rfl ?_
  have L46_2 : ∀ (n46_2 : Nat) (x46_7_2 : Int) (h_x46_7_2 : 0 ≤ x46_7_2 ∧ x46_7_2 ≤ 5600) (x46_5_2 : Int) (h_x46_5_2 : 0 ≤ x46_5_2 ∧ x46_5_2 ≤ 11) (x46_4_2 : Int) (h_x46_4_2 : 0 ≤ x46_4_2 ∧ x46_4_2 ≤ 802) (H46_2 : PH) (hB46_2 : BdM H46_2) (hE46_2 : FrM ([], [29, 30]) (up P 29 0 a3) H46_2) (i46_0_2 : x46_4_2 = hN P f9 x46_7_2) (i46_1_2 : x46_5_2 = hD P f9 x46_7_2) (i46_2_2 : f9 ≤ x46_7_2) (hm46_2 : (5601 - x46_7_2 : Int).toNat < n46_2), Go WSM G 3 iX12_isFitting 46 [(0, vR 0), (4, vI x46_4_2), (5, vI x46_5_2), (6, vI ((4 * ((12 * (P 0 13)) + a1)) + a2)), (7, vI x46_7_2)] [] H46_2 Q := by
    intro n46_2
    induction n46_2 with
    | zero => intro x46_7_2 h_x46_7_2 x46_5_2 h_x46_5_2 x46_4_2 h_x46_4_2 H46_2 hB46_2 hE46_2 i46_0_2 i46_1_2 i46_2_2 hm46_2; exact absurd hm46_2 (Nat.not_lt_zero _)
    | succ n46_2 ih46_2 =>
    intro x46_7_2 h_x46_7_2 x46_5_2 h_x46_5_2 x46_4_2 h_x46_4_2 H46_2 hB46_2 hE46_2 i46_0_2 i46_1_2 i46_2_2 hm46_2
    refine g_iload dX12_isFitting_46 rfl ?_
    refine g_sipush dX12_isFitting_48 (by decide) ?_
    refine g_aload_n dX12_isFitting_51 rfl ?_
    refine m_g13 (z := (P 0 13)) rfl dX12_isFitting_52 ((hE46_2.1 13 rfl).trans ((up_o (by decide)).trans rfl)) ?_
    refine g_imul dX12_isFitting_55 ?_
    refine g_aload_n dX12_isFitting_56 rfl ?_
    refine m_g30 rfl dX12_isFitting_57 ?_
    refine g_iload dX12_isFitting_60 rfl ?_
    refine m_l18 (z := (P 18 ((4 * ((12 * (P 0 13)) + a1)) + a2))) dX12_isFitting_62 ⟨by have q0 := b0_13 hB; omega, by have q0 := b0_13 hB; omega⟩ ((congrFun (hE46_2.2 18 rfl rfl) _).trans ((up_o (by decide)).trans rfl)) ?_
    refine g_iadd dX12_isFitting_63 ?_
    have f145 := b0_13 hB
    have f146 := bl_18 (k := ((4 * ((12 * (P 0 13)) + a1)) + a2)) hB
    refine g_icmp_ge (tgt := 347) dX12_isFitting_64 (by decide) ⟨by omega, by omega⟩ ⟨by have q0 := b0_13 hB; have q1 := bl_18 (k := ((4 * ((12 * (P 0 13)) + a1)) + a2)) hB; omega, by have q0 := b0_13 hB; have q1 := bl_18 (k := ((4 * ((12 * (P 0 13)) + a1)) + a2)) hB; omega⟩ (fun k147 => ?_) (fun k147 => ?_)
    · refine g_aload_n dX12_isFitting_347 rfl ?_
      refine m_g47 rfl dX12_isFitting_348 ?_
      refine g_iconst dX12_isFitting_351 ?_
      refine m_l30 (z := (H46_2 30 0)) dX12_isFitting_352 (by decide) rfl ?_
      refine g_iconst dX12_isFitting_353 ?_
      have f148 := bl_30 (k := 0) hB46_2
      refine g_icmp_ne (tgt := 361) dX12_isFitting_354 (by decide) ⟨by have q0 := bl_30 (k := 0) hB46_2; omega, by have q0 := bl_30 (k := 0) hB46_2; omega⟩ (by decide) (fun k149 => ?_) (fun k149 => ?_)
      · refine g_iconst dX12_isFitting_361 ?_
        exact g_retZ dX12_isFitting_362 rfl (by decide) (hQ 0 (by decide) _ hB46_2 (FrM.c (FrM.a FrM.rf rfl rfl) hE46_2 rfl) )
      · refine g_iconst dX12_isFitting_357 ?_
        refine g_goto (tgt := 362) dX12_isFitting_358 (by decide) ?_
        exact g_retZ dX12_isFitting_362 rfl (by decide) (hQ 1 (by decide) _ hB46_2 (FrM.c (FrM.a FrM.rf rfl rfl) hE46_2 rfl) )
    · have hat := hwf.at (c := x46_7_2) (by omega) (by omega)
      have hst := hts_at (P := P) (f := f9) (c := x46_7_2) (by omega)
      have q19 := bl_19 (k := x46_7_2) hB
      have q21 := bl_21 (k := x46_7_2) hB
      refine g_aload_n dX12_isFitting_67 rfl ?_
      refine m_g32 rfl dX12_isFitting_68 ?_
      refine g_iload dX12_isFitting_71 rfl ?_
      refine m_l20 (z := (P 20 x46_7_2)) dX12_isFitting_73 ⟨by omega, by omega⟩ ((congrFun (hE46_2.2 20 rfl rfl) _).trans ((up_o (by decide)).trans rfl)) ?_
      refine g_istore (l1 := [(8, vI (P 20 x46_7_2)), (0, vR 0), (4, vI x46_4_2), (5, vI x46_5_2), (6, vI ((4 * ((12 * (P 0 13)) + a1)) + a2)), (7, vI x46_7_2)]) dX12_isFitting_74 (by decide) rfl ?_
      refine g_aload_n dX12_isFitting_76 rfl ?_
      refine m_g31 rfl dX12_isFitting_77 ?_
      refine g_iload dX12_isFitting_80 rfl ?_
      refine m_l19 (z := (P 19 x46_7_2)) dX12_isFitting_82 ⟨by omega, by omega⟩ ((congrFun (hE46_2.2 19 rfl rfl) _).trans ((up_o (by decide)).trans rfl)) ?_
      by_cases k150 : (P 19 x46_7_2) = 0
      · refine g_tswI (tgt := 120) 0 dX12_isFitting_83 ⟨by have q0 := bl_19 (k := x46_7_2) hB; omega, by have q0 := bl_19 (k := x46_7_2) hB; omega⟩ (by omega) (by omega) rfl (by decide) ?_
        refine g_aload_n dX12_isFitting_120 rfl ?_
        refine m_g47 rfl dX12_isFitting_121 ?_
        refine g_iload dX12_isFitting_124 rfl ?_
        refine g_iconst dX12_isFitting_126 ?_
        refine m_s30 dX12_isFitting_127 ⟨by omega, by omega⟩ ?_
        have hB151 := ba_30 (z := 1) (k := x46_4_2) hB46_2 (by decide)
        refine g_iinc (l1 := [(4, vI (x46_4_2 + 1)), (8, vI (P 20 x46_7_2)), (0, vR 0), (5, vI x46_5_2), (6, vI ((4 * ((12 * (P 0 13)) + a1)) + a2)), (7, vI x46_7_2)]) dX12_isFitting_128 rfl (by decide) rfl ?_
        refine g_goto (tgt := 341) dX12_isFitting_131 (by decide) ?_
        refine g_iinc (l1 := [(7, vI (x46_7_2 + 1)), (4, vI (x46_4_2 + 1)), (8, vI (P 20 x46_7_2)), (0, vR 0), (5, vI x46_5_2), (6, vI ((4 * ((12 * (P 0 13)) + a1)) + a2))]) dX12_isFitting_341 rfl (by decide) rfl ?_
        refine g_goto (tgt := 46) dX12_isFitting_344 (by decide) ?_
        refine g_forget (l1 := [(0, vR 0), (4, vI (x46_4_2 + 1)), (5, vI x46_5_2), (6, vI ((4 * ((12 * (P 0 13)) + a1)) + a2)), (7, vI (x46_7_2 + 1))]) (by intro q hq; simp only [List.mem_cons, List.not_mem_nil, or_false] at hq ⊢; rcases hq with rfl | rfl | rfl | rfl | rfl <;> simp) ?_
        exact ih46_2 (x46_7_2 + 1) ⟨by omega, by omega⟩ x46_5_2 ⟨by omega, by omega⟩ (x46_4_2 + 1) ⟨by omega, by omega⟩ _ hB151 (FrM.a (FrM.c FrM.rf hE46_2 rfl) rfl rfl) (by first | omega | (rw [show (x46_7_2 + 1) = f9 by omega]; exact hN_0)) (by first | omega | (rw [show (x46_7_2 + 1) = f9 by omega]; exact hD_0)) (by omega) (by omega)
      by_cases k152 : (P 19 x46_7_2) = 1
      · refine g_tswI (tgt := 134) 1 dX12_isFitting_83 ⟨by have q0 := bl_19 (k := x46_7_2) hB; omega, by have q0 := bl_19 (k := x46_7_2) hB; omega⟩ (by omega) (by omega) rfl (by decide) ?_
        refine g_aload_n dX12_isFitting_134 rfl ?_
        refine m_g47 rfl dX12_isFitting_135 ?_
        refine g_iload dX12_isFitting_138 rfl ?_
        refine g_aload_n dX12_isFitting_140 rfl ?_
        refine m_g46 rfl dX12_isFitting_141 ?_
        refine g_iload dX12_isFitting_144 rfl ?_
        refine m_l29 (z := (H46_2 29 x46_5_2)) dX12_isFitting_146 ⟨by omega, by omega⟩ rfl ?_
        refine g_iload dX12_isFitting_147 rfl ?_
        refine g_aload_n dX12_isFitting_149 rfl ?_
        refine m_g33 rfl dX12_isFitting_150 ?_
        refine g_iload dX12_isFitting_153 rfl ?_
        refine m_l21 (z := (P 21 x46_7_2)) dX12_isFitting_155 ⟨by omega, by omega⟩ ((congrFun (hE46_2.2 21 rfl rfl) _).trans ((up_o (by decide)).trans rfl)) ?_
        have f153 := bl_29 (k := x46_5_2) hB46_2
        have f154 := bl_20 (k := x46_7_2) hB
        have f155 := bl_21 (k := x46_7_2) hB
        refine g_sI (av := [vI (H46_2 29 x46_5_2), vI (P 20 x46_7_2), vI (P 21 x46_7_2)]) (st := [vI x46_4_2, vR 30]) (m_X12_is G H46_2 (H46_2 29 x46_5_2) (P 20 x46_7_2) (P 21 x46_7_2) ⟨by have q0 := bl_29 (k := x46_5_2) hB46_2; omega, by have q0 := bl_29 (k := x46_5_2) hB46_2; omega⟩ ⟨by have q0 := bl_20 (k := x46_7_2) hB; omega, by have q0 := bl_20 (k := x46_7_2) hB; omega⟩ ⟨by have q0 := bl_21 (k := x46_7_2) hB; omega, by have q0 := bl_21 (k := x46_7_2) hB; omega⟩ hB46_2  _ (fun rc156 hc156 gc156_is => ⟨rc156, rfl, ?_⟩)) cf_X12_is t_1800 rfl (Nat.le_of_ble_eq_true rfl) (by decide) rfl dX12_isFitting_156
        refine g_if_eq (tgt := 166) dX12_isFitting_159 (by decide) ⟨by omega, by omega⟩ (fun k157 => ?_) (fun k157 => ?_)
        · refine g_iconst dX12_isFitting_166 ?_
          refine m_s30 dX12_isFitting_167 ⟨by omega, by omega⟩ ?_
          have hB158 := ba_30 (z := 0) (k := x46_4_2) hB46_2 (by decide)
          refine g_iinc (l1 := [(4, vI (x46_4_2 + 1)), (8, vI (P 20 x46_7_2)), (0, vR 0), (5, vI x46_5_2), (6, vI ((4 * ((12 * (P 0 13)) + a1)) + a2)), (7, vI x46_7_2)]) dX12_isFitting_168 rfl (by decide) rfl ?_
          refine g_goto (tgt := 341) dX12_isFitting_171 (by decide) ?_
          refine g_iinc (l1 := [(7, vI (x46_7_2 + 1)), (4, vI (x46_4_2 + 1)), (8, vI (P 20 x46_7_2)), (0, vR 0), (5, vI x46_5_2), (6, vI ((4 * ((12 * (P 0 13)) + a1)) + a2))]) dX12_isFitting_341 rfl (by decide) rfl ?_
          refine g_goto (tgt := 46) dX12_isFitting_344 (by decide) ?_
          refine g_forget (l1 := [(0, vR 0), (4, vI (x46_4_2 + 1)), (5, vI x46_5_2), (6, vI ((4 * ((12 * (P 0 13)) + a1)) + a2)), (7, vI (x46_7_2 + 1))]) (by intro q hq; simp only [List.mem_cons, List.not_mem_nil, or_false] at hq ⊢; rcases hq with rfl | rfl | rfl | rfl | rfl <;> simp) ?_
          exact ih46_2 (x46_7_2 + 1) ⟨by omega, by omega⟩ x46_5_2 ⟨by omega, by omega⟩ (x46_4_2 + 1) ⟨by omega, by omega⟩ _ hB158 (FrM.a (FrM.c FrM.rf hE46_2 rfl) rfl rfl) (by first | omega | (rw [show (x46_7_2 + 1) = f9 by omega]; exact hN_0)) (by first | omega | (rw [show (x46_7_2 + 1) = f9 by omega]; exact hD_0)) (by omega) (by omega)
        · refine g_iconst dX12_isFitting_162 ?_
          refine g_goto (tgt := 167) dX12_isFitting_163 (by decide) ?_
          refine m_s30 dX12_isFitting_167 ⟨by omega, by omega⟩ ?_
          have hB159 := ba_30 (z := 1) (k := x46_4_2) hB46_2 (by decide)
          refine g_iinc (l1 := [(4, vI (x46_4_2 + 1)), (8, vI (P 20 x46_7_2)), (0, vR 0), (5, vI x46_5_2), (6, vI ((4 * ((12 * (P 0 13)) + a1)) + a2)), (7, vI x46_7_2)]) dX12_isFitting_168 rfl (by decide) rfl ?_
          refine g_goto (tgt := 341) dX12_isFitting_171 (by decide) ?_
          refine g_iinc (l1 := [(7, vI (x46_7_2 + 1)), (4, vI (x46_4_2 + 1)), (8, vI (P 20 x46_7_2)), (0, vR 0), (5, vI x46_5_2), (6, vI ((4 * ((12 * (P 0 13)) + a1)) + a2))]) dX12_isFitting_341 rfl (by decide) rfl ?_
          refine g_goto (tgt := 46) dX12_isFitting_344 (by decide) ?_
          refine g_forget (l1 := [(0, vR 0), (4, vI (x46_4_2 + 1)), (5, vI x46_5_2), (6, vI ((4 * ((12 * (P 0 13)) + a1)) + a2)), (7, vI (x46_7_2 + 1))]) (by intro q hq; simp only [List.mem_cons, List.not_mem_nil, or_false] at hq ⊢; rcases hq with rfl | rfl | rfl | rfl | rfl <;> simp) ?_
          exact ih46_2 (x46_7_2 + 1) ⟨by omega, by omega⟩ x46_5_2 ⟨by omega, by omega⟩ (x46_4_2 + 1) ⟨by omega, by omega⟩ _ hB159 (FrM.a (FrM.c FrM.rf hE46_2 rfl) rfl rfl) (by first | omega | (rw [show (x46_7_2 + 1) = f9 by omega]; exact hN_0)) (by first | omega | (rw [show (x46_7_2 + 1) = f9 by omega]; exact hD_0)) (by omega) (by omega)
      by_cases k160 : (P 19 x46_7_2) = 2
      · refine g_tswI (tgt := 174) 2 dX12_isFitting_83 ⟨by have q0 := bl_19 (k := x46_7_2) hB; omega, by have q0 := bl_19 (k := x46_7_2) hB; omega⟩ (by omega) (by omega) rfl (by decide) ?_
        refine g_aload_n dX12_isFitting_174 rfl ?_
        refine m_g47 rfl dX12_isFitting_175 ?_
        refine g_iload dX12_isFitting_178 rfl ?_
        refine g_aload_n dX12_isFitting_180 rfl ?_
        refine m_g46 rfl dX12_isFitting_181 ?_
        refine g_iload dX12_isFitting_184 rfl ?_
        refine m_l29 (z := (H46_2 29 x46_5_2)) dX12_isFitting_186 ⟨by omega, by omega⟩ rfl ?_
        refine g_aload_n dX12_isFitting_187 rfl ?_
        refine m_g21 rfl dX12_isFitting_188 ?_
        refine g_bipush dX12_isFitting_191 (by decide) ?_
        refine g_aload_n dX12_isFitting_193 rfl ?_
        refine m_g13 (z := (P 0 13)) rfl dX12_isFitting_194 ((hE46_2.1 13 rfl).trans ((up_o (by decide)).trans rfl)) ?_
        refine g_imul dX12_isFitting_197 ?_
        refine g_iload dX12_isFitting_198 rfl ?_
        refine g_iadd dX12_isFitting_200 ?_
        refine m_l9 (z := (P 9 ((24 * (P 0 13)) + (P 20 x46_7_2)))) dX12_isFitting_201 ⟨by have q0 := b0_13 hB; have q1 := bl_20 (k := x46_7_2) hB; omega, by have q0 := b0_13 hB; have q1 := bl_20 (k := x46_7_2) hB; omega⟩ ((congrFun (hE46_2.2 9 rfl rfl) _).trans ((up_o (by decide)).trans rfl)) ?_
        refine g_aload_n dX12_isFitting_202 rfl ?_
        refine m_g21 rfl dX12_isFitting_203 ?_
        refine g_bipush dX12_isFitting_206 (by decide) ?_
        refine g_aload_n dX12_isFitting_208 rfl ?_
        refine m_g13 (z := (P 0 13)) rfl dX12_isFitting_209 ((hE46_2.1 13 rfl).trans ((up_o (by decide)).trans rfl)) ?_
        refine g_imul dX12_isFitting_212 ?_
        refine g_iload dX12_isFitting_213 rfl ?_
        refine g_iadd dX12_isFitting_215 ?_
        refine m_l9 (z := (P 9 ((24 * (P 0 13)) + (P 20 x46_7_2)))) dX12_isFitting_216 ⟨by have q0 := b0_13 hB; have q1 := bl_20 (k := x46_7_2) hB; omega, by have q0 := b0_13 hB; have q1 := bl_20 (k := x46_7_2) hB; omega⟩ ((congrFun (hE46_2.2 9 rfl rfl) _).trans ((up_o (by decide)).trans rfl)) ?_
        refine g_aload_n dX12_isFitting_217 rfl ?_
        refine m_g22 rfl dX12_isFitting_218 ?_
        refine g_bipush dX12_isFitting_221 (by decide) ?_
        refine g_aload_n dX12_isFitting_223 rfl ?_
        refine m_g13 (z := (P 0 13)) rfl dX12_isFitting_224 ((hE46_2.1 13 rfl).trans ((up_o (by decide)).trans rfl)) ?_
        refine g_imul dX12_isFitting_227 ?_
        refine g_iload dX12_isFitting_228 rfl ?_
        refine g_iadd dX12_isFitting_230 ?_
        refine m_l10 (z := (P 10 ((24 * (P 0 13)) + (P 20 x46_7_2)))) dX12_isFitting_231 ⟨by have q0 := b0_13 hB; have q1 := bl_20 (k := x46_7_2) hB; omega, by have q0 := b0_13 hB; have q1 := bl_20 (k := x46_7_2) hB; omega⟩ ((congrFun (hE46_2.2 10 rfl rfl) _).trans ((up_o (by decide)).trans rfl)) ?_
        refine g_iadd dX12_isFitting_232 ?_
        refine g_iconst dX12_isFitting_233 ?_
        refine g_isub dX12_isFitting_234 ?_
        have f161 := bl_29 (k := x46_5_2) hB46_2
        have f162 := bl_9 (k := ((24 * (P 0 13)) + (P 20 x46_7_2))) hB
        have f163 := bl_10 (k := ((24 * (P 0 13)) + (P 20 x46_7_2))) hB
        refine g_sI (av := [vI (H46_2 29 x46_5_2), vI (P 9 ((24 * (P 0 13)) + (P 20 x46_7_2))), vI (((P 9 ((24 * (P 0 13)) + (P 20 x46_7_2))) + (P 10 ((24 * (P 0 13)) + (P 20 x46_7_2)))) - 1)]) (st := [vI x46_4_2, vR 30]) (m_X12_is G H46_2 (H46_2 29 x46_5_2) (P 9 ((24 * (P 0 13)) + (P 20 x46_7_2))) (((P 9 ((24 * (P 0 13)) + (P 20 x46_7_2))) + (P 10 ((24 * (P 0 13)) + (P 20 x46_7_2)))) - 1) ⟨by have q0 := bl_29 (k := x46_5_2) hB46_2; omega, by have q0 := bl_29 (k := x46_5_2) hB46_2; omega⟩ ⟨by have q0 := bl_9 (k := ((24 * (P 0 13)) + (P 20 x46_7_2))) hB; omega, by have q0 := bl_9 (k := ((24 * (P 0 13)) + (P 20 x46_7_2))) hB; omega⟩ ⟨by have q0 := bl_9 (k := ((24 * (P 0 13)) + (P 20 x46_7_2))) hB; have q1 := bl_10 (k := ((24 * (P 0 13)) + (P 20 x46_7_2))) hB; omega, by have q0 := bl_9 (k := ((24 * (P 0 13)) + (P 20 x46_7_2))) hB; have q1 := bl_10 (k := ((24 * (P 0 13)) + (P 20 x46_7_2))) hB; omega⟩ hB46_2  _ (fun rc164 hc164 gc164_is => ⟨rc164, rfl, ?_⟩)) cf_X12_is t_1800 rfl (Nat.le_of_ble_eq_true rfl) (by decide) rfl dX12_isFitting_235
        refine g_if_eq (tgt := 245) dX12_isFitting_238 (by decide) ⟨by omega, by omega⟩ (fun k165 => ?_) (fun k165 => ?_)
        · refine g_iconst dX12_isFitting_245 ?_
          refine m_s30 dX12_isFitting_246 ⟨by omega, by omega⟩ ?_
          have hB166 := ba_30 (z := 0) (k := x46_4_2) hB46_2 (by decide)
          refine g_iinc (l1 := [(4, vI (x46_4_2 + 1)), (8, vI (P 20 x46_7_2)), (0, vR 0), (5, vI x46_5_2), (6, vI ((4 * ((12 * (P 0 13)) + a1)) + a2)), (7, vI x46_7_2)]) dX12_isFitting_247 rfl (by decide) rfl ?_
          refine g_goto (tgt := 341) dX12_isFitting_250 (by decide) ?_
          refine g_iinc (l1 := [(7, vI (x46_7_2 + 1)), (4, vI (x46_4_2 + 1)), (8, vI (P 20 x46_7_2)), (0, vR 0), (5, vI x46_5_2), (6, vI ((4 * ((12 * (P 0 13)) + a1)) + a2))]) dX12_isFitting_341 rfl (by decide) rfl ?_
          refine g_goto (tgt := 46) dX12_isFitting_344 (by decide) ?_
          refine g_forget (l1 := [(0, vR 0), (4, vI (x46_4_2 + 1)), (5, vI x46_5_2), (6, vI ((4 * ((12 * (P 0 13)) + a1)) + a2)), (7, vI (x46_7_2 + 1))]) (by intro q hq; simp only [List.mem_cons, List.not_mem_nil, or_false] at hq ⊢; rcases hq with rfl | rfl | rfl | rfl | rfl <;> simp) ?_
          exact ih46_2 (x46_7_2 + 1) ⟨by omega, by omega⟩ x46_5_2 ⟨by omega, by omega⟩ (x46_4_2 + 1) ⟨by omega, by omega⟩ _ hB166 (FrM.a (FrM.c FrM.rf hE46_2 rfl) rfl rfl) (by first | omega | (rw [show (x46_7_2 + 1) = f9 by omega]; exact hN_0)) (by first | omega | (rw [show (x46_7_2 + 1) = f9 by omega]; exact hD_0)) (by omega) (by omega)
        · refine g_iconst dX12_isFitting_241 ?_
          refine g_goto (tgt := 246) dX12_isFitting_242 (by decide) ?_
          refine m_s30 dX12_isFitting_246 ⟨by omega, by omega⟩ ?_
          have hB167 := ba_30 (z := 1) (k := x46_4_2) hB46_2 (by decide)
          refine g_iinc (l1 := [(4, vI (x46_4_2 + 1)), (8, vI (P 20 x46_7_2)), (0, vR 0), (5, vI x46_5_2), (6, vI ((4 * ((12 * (P 0 13)) + a1)) + a2)), (7, vI x46_7_2)]) dX12_isFitting_247 rfl (by decide) rfl ?_
          refine g_goto (tgt := 341) dX12_isFitting_250 (by decide) ?_
          refine g_iinc (l1 := [(7, vI (x46_7_2 + 1)), (4, vI (x46_4_2 + 1)), (8, vI (P 20 x46_7_2)), (0, vR 0), (5, vI x46_5_2), (6, vI ((4 * ((12 * (P 0 13)) + a1)) + a2))]) dX12_isFitting_341 rfl (by decide) rfl ?_
          refine g_goto (tgt := 46) dX12_isFitting_344 (by decide) ?_
          refine g_forget (l1 := [(0, vR 0), (4, vI (x46_4_2 + 1)), (5, vI x46_5_2), (6, vI ((4 * ((12 * (P 0 13)) + a1)) + a2)), (7, vI (x46_7_2 + 1))]) (by intro q hq; simp only [List.mem_cons, List.not_mem_nil, or_false] at hq ⊢; rcases hq with rfl | rfl | rfl | rfl | rfl <;> simp) ?_
          exact ih46_2 (x46_7_2 + 1) ⟨by omega, by omega⟩ x46_5_2 ⟨by omega, by omega⟩ (x46_4_2 + 1) ⟨by omega, by omega⟩ _ hB167 (FrM.a (FrM.c FrM.rf hE46_2 rfl) rfl rfl) (by first | omega | (rw [show (x46_7_2 + 1) = f9 by omega]; exact hN_0)) (by first | omega | (rw [show (x46_7_2 + 1) = f9 by omega]; exact hD_0)) (by omega) (by omega)
      by_cases k168 : (P 19 x46_7_2) = 3
      · refine g_tswI (tgt := 253) 3 dX12_isFitting_83 ⟨by have q0 := bl_19 (k := x46_7_2) hB; omega, by have q0 := bl_19 (k := x46_7_2) hB; omega⟩ (by omega) (by omega) rfl (by decide) ?_
        refine g_aload_n dX12_isFitting_253 rfl ?_
        refine m_g46 rfl dX12_isFitting_254 ?_
        refine g_iload dX12_isFitting_257 rfl ?_
        refine g_iconst dX12_isFitting_259 ?_
        refine g_iadd dX12_isFitting_260 ?_
        refine g_aload_n dX12_isFitting_261 rfl ?_
        refine g_aload_n dX12_isFitting_262 rfl ?_
        refine m_g46 rfl dX12_isFitting_263 ?_
        refine g_iload dX12_isFitting_266 rfl ?_
        refine m_l29 (z := (H46_2 29 x46_5_2)) dX12_isFitting_268 ⟨by omega, by omega⟩ rfl ?_
        refine g_iload dX12_isFitting_269 rfl ?_
        refine g_aload_n dX12_isFitting_271 rfl ?_
        refine m_g33 rfl dX12_isFitting_272 ?_
        refine g_iload dX12_isFitting_275 rfl ?_
        refine m_l21 (z := (P 21 x46_7_2)) dX12_isFitting_277 ⟨by omega, by omega⟩ ((congrFun (hE46_2.2 21 rfl rfl) _).trans ((up_o (by decide)).trans rfl)) ?_
        have f169 := bl_29 (k := x46_5_2) hB46_2
        have f170 := bl_20 (k := x46_7_2) hB
        have f171 := bl_21 (k := x46_7_2) hB
        refine g_vI (av := [vI (H46_2 29 x46_5_2), vI (P 20 x46_7_2), vI (P 21 x46_7_2)]) (o := 0) (st := [vI (x46_5_2 + 1), vR 29]) (m_X12_fieldOf G H46_2 (H46_2 29 x46_5_2) (P 20 x46_7_2) (P 21 x46_7_2) ⟨by have q0 := bl_29 (k := x46_5_2) hB46_2; omega, by have q0 := bl_29 (k := x46_5_2) hB46_2; omega⟩ ⟨by have q0 := bl_20 (k := x46_7_2) hB; omega, by have q0 := bl_20 (k := x46_7_2) hB; omega⟩ ⟨by have q0 := bl_21 (k := x46_7_2) hB; omega, by have q0 := bl_21 (k := x46_7_2) hB; omega⟩ hB46_2 (by rw [show H46_2 0 13 = _ from ((hE46_2.1 13 rfl).trans ((up_o (by decide)).trans rfl))]; exact (((ZT.fr (F := ([], [29, 30])) v_ZT (FrM.c (FrM.a FrM.rf rfl rfl) hE46_2 rfl) rfl)) (P 0 13) (P 20 x46_7_2) (by omega) (by omega) (by omega) (by rw [show H46_2 5 (P 0 13) = _ from ((congrFun (hE46_2.2 5 rfl rfl) _).trans ((up_o (by decide)).trans rfl))]; omega)).2) (by rw [show H46_2 0 13 = _ from ((hE46_2.1 13 rfl).trans ((up_o (by decide)).trans rfl)), show H46_2 7 ((24 * (P 0 13)) + (P 20 x46_7_2)) = _ from ((congrFun (hE46_2.2 7 rfl rfl) _).trans ((up_o (by decide)).trans rfl))]; omega) _ (fun rc172 hc172 gc172_rg => ⟨rc172, rfl, ?_⟩)) cf_X12_fieldOf t_1839 rfl (by decide) rfl rfl rfl (Nat.le_of_ble_eq_true rfl) (by decide) rfl dX12_isFitting_278
        have z173 : H46_2 0 13 = (P 0 13) := ((hE46_2.1 13 rfl).trans ((up_o (by decide)).trans rfl))
        refine m_s29 dX12_isFitting_281 ⟨by omega, by omega⟩ ?_
        have hB174 := ba_29 (z := rc172) (k := (x46_5_2 + 1)) hB46_2 ⟨by omega, by omega⟩
        refine g_iinc (l1 := [(5, vI (x46_5_2 + 1)), (8, vI (P 20 x46_7_2)), (0, vR 0), (4, vI x46_4_2), (6, vI ((4 * ((12 * (P 0 13)) + a1)) + a2)), (7, vI x46_7_2)]) dX12_isFitting_282 rfl (by decide) rfl ?_
        refine g_goto (tgt := 341) dX12_isFitting_285 (by decide) ?_
        refine g_iinc (l1 := [(7, vI (x46_7_2 + 1)), (5, vI (x46_5_2 + 1)), (8, vI (P 20 x46_7_2)), (0, vR 0), (4, vI x46_4_2), (6, vI ((4 * ((12 * (P 0 13)) + a1)) + a2))]) dX12_isFitting_341 rfl (by decide) rfl ?_
        refine g_goto (tgt := 46) dX12_isFitting_344 (by decide) ?_
        refine g_forget (l1 := [(0, vR 0), (4, vI x46_4_2), (5, vI (x46_5_2 + 1)), (6, vI ((4 * ((12 * (P 0 13)) + a1)) + a2)), (7, vI (x46_7_2 + 1))]) (by intro q hq; simp only [List.mem_cons, List.not_mem_nil, or_false] at hq ⊢; rcases hq with rfl | rfl | rfl | rfl | rfl <;> simp) ?_
        exact ih46_2 (x46_7_2 + 1) ⟨by omega, by omega⟩ (x46_5_2 + 1) ⟨by omega, by omega⟩ x46_4_2 ⟨by omega, by omega⟩ _ hB174 (FrM.a (FrM.c FrM.rf hE46_2 rfl) rfl rfl) (by first | omega | (rw [show (x46_7_2 + 1) = f9 by omega]; exact hN_0)) (by first | omega | (rw [show (x46_7_2 + 1) = f9 by omega]; exact hD_0)) (by omega) (by omega)
      by_cases k175 : (P 19 x46_7_2) = 4
      · refine g_tswI (tgt := 288) 4 dX12_isFitting_83 ⟨by have q0 := bl_19 (k := x46_7_2) hB; omega, by have q0 := bl_19 (k := x46_7_2) hB; omega⟩ (by omega) (by omega) rfl (by decide) ?_
        refine g_iinc (l1 := [(5, vI (x46_5_2 + (-1))), (8, vI (P 20 x46_7_2)), (0, vR 0), (4, vI x46_4_2), (6, vI ((4 * ((12 * (P 0 13)) + a1)) + a2)), (7, vI x46_7_2)]) dX12_isFitting_288 rfl (by decide) rfl ?_
        refine g_goto (tgt := 341) dX12_isFitting_291 (by decide) ?_
        refine g_iinc (l1 := [(7, vI (x46_7_2 + 1)), (5, vI (x46_5_2 + (-1))), (8, vI (P 20 x46_7_2)), (0, vR 0), (4, vI x46_4_2), (6, vI ((4 * ((12 * (P 0 13)) + a1)) + a2))]) dX12_isFitting_341 rfl (by decide) rfl ?_
        refine g_goto (tgt := 46) dX12_isFitting_344 (by decide) ?_
        refine g_forget (l1 := [(0, vR 0), (4, vI x46_4_2), (5, vI (x46_5_2 + (-1))), (6, vI ((4 * ((12 * (P 0 13)) + a1)) + a2)), (7, vI (x46_7_2 + 1))]) (by intro q hq; simp only [List.mem_cons, List.not_mem_nil, or_false] at hq ⊢; rcases hq with rfl | rfl | rfl | rfl | rfl <;> simp) ?_
        exact ih46_2 (x46_7_2 + 1) ⟨by omega, by omega⟩ (x46_5_2 + (-1)) ⟨by omega, by omega⟩ x46_4_2 ⟨by omega, by omega⟩ _ hB46_2 (FrM.c FrM.rf hE46_2 rfl) (by first | omega | (rw [show (x46_7_2 + 1) = f9 by omega]; exact hN_0)) (by first | omega | (rw [show (x46_7_2 + 1) = f9 by omega]; exact hD_0)) (by omega) (by omega)
      by_cases k176 : (P 19 x46_7_2) = 5
      · refine g_tswI (tgt := 294) 5 dX12_isFitting_83 ⟨by have q0 := bl_19 (k := x46_7_2) hB; omega, by have q0 := bl_19 (k := x46_7_2) hB; omega⟩ (by omega) (by omega) rfl (by decide) ?_
        refine g_iinc (l1 := [(4, vI (x46_4_2 + (-1))), (8, vI (P 20 x46_7_2)), (0, vR 0), (5, vI x46_5_2), (6, vI ((4 * ((12 * (P 0 13)) + a1)) + a2)), (7, vI x46_7_2)]) dX12_isFitting_294 rfl (by decide) rfl ?_
        refine g_aload_n dX12_isFitting_297 rfl ?_
        refine m_g47 rfl dX12_isFitting_298 ?_
        refine g_iload dX12_isFitting_301 rfl ?_
        refine g_iconst dX12_isFitting_303 ?_
        refine g_isub dX12_isFitting_304 ?_
        refine g_dup2 dX12_isFitting_305 rfl rfl ?_
        refine m_l30 (z := (H46_2 30 ((x46_4_2 + (-1)) - 1))) dX12_isFitting_306 ⟨by omega, by omega⟩ rfl ?_
        refine g_aload_n dX12_isFitting_307 rfl ?_
        refine m_g47 rfl dX12_isFitting_308 ?_
        refine g_iload dX12_isFitting_311 rfl ?_
        refine m_l30 (z := (H46_2 30 (x46_4_2 + (-1)))) dX12_isFitting_313 ⟨by omega, by omega⟩ rfl ?_
        refine g_iand dX12_isFitting_314 ?_
        refine g_nm (fun b177 e_b177 => ?_)
        have h_b177 := iand_l (x := (H46_2 30 ((x46_4_2 + (-1)) - 1))) (y := (H46_2 30 (x46_4_2 + (-1)))) ⟨by have q0 := bl_30 (k := ((x46_4_2 + (-1)) - 1)) hB46_2; omega, by have q0 := bl_30 (k := ((x46_4_2 + (-1)) - 1)) hB46_2; omega⟩
        rw [← e_b177] at h_b177
        have f_b177_0 := bl_30 (k := ((x46_4_2 + (-1)) - 1)) hB46_2
        refine m_s30 dX12_isFitting_315 ⟨by omega, by omega⟩ ?_
        have hB178 := ba_30 (z := b177) (k := ((x46_4_2 + (-1)) - 1)) hB46_2 ⟨by omega, by omega⟩
        refine g_goto (tgt := 341) dX12_isFitting_316 (by decide) ?_
        refine g_iinc (l1 := [(7, vI (x46_7_2 + 1)), (4, vI (x46_4_2 + (-1))), (8, vI (P 20 x46_7_2)), (0, vR 0), (5, vI x46_5_2), (6, vI ((4 * ((12 * (P 0 13)) + a1)) + a2))]) dX12_isFitting_341 rfl (by decide) rfl ?_
        refine g_goto (tgt := 46) dX12_isFitting_344 (by decide) ?_
        refine g_forget (l1 := [(0, vR 0), (4, vI (x46_4_2 + (-1))), (5, vI x46_5_2), (6, vI ((4 * ((12 * (P 0 13)) + a1)) + a2)), (7, vI (x46_7_2 + 1))]) (by intro q hq; simp only [List.mem_cons, List.not_mem_nil, or_false] at hq ⊢; rcases hq with rfl | rfl | rfl | rfl | rfl <;> simp) ?_
        exact ih46_2 (x46_7_2 + 1) ⟨by omega, by omega⟩ x46_5_2 ⟨by omega, by omega⟩ (x46_4_2 + (-1)) ⟨by omega, by omega⟩ _ hB178 (FrM.a (FrM.c FrM.rf hE46_2 rfl) rfl rfl) (by first | omega | (rw [show (x46_7_2 + 1) = f9 by omega]; exact hN_0)) (by first | omega | (rw [show (x46_7_2 + 1) = f9 by omega]; exact hD_0)) (by omega) (by omega)
      refine g_tswO (tgt := 319) dX12_isFitting_83 ⟨by have q0 := bl_19 (k := x46_7_2) hB; omega, by have q0 := bl_19 (k := x46_7_2) hB; omega⟩ (by omega) (by decide) ?_
      refine g_iinc (l1 := [(4, vI (x46_4_2 + (-1))), (8, vI (P 20 x46_7_2)), (0, vR 0), (5, vI x46_5_2), (6, vI ((4 * ((12 * (P 0 13)) + a1)) + a2)), (7, vI x46_7_2)]) dX12_isFitting_319 rfl (by decide) rfl ?_
      refine g_aload_n dX12_isFitting_322 rfl ?_
      refine m_g47 rfl dX12_isFitting_323 ?_
      refine g_iload dX12_isFitting_326 rfl ?_
      refine g_iconst dX12_isFitting_328 ?_
      refine g_isub dX12_isFitting_329 ?_
      refine g_dup2 dX12_isFitting_330 rfl rfl ?_
      refine m_l30 (z := (H46_2 30 ((x46_4_2 + (-1)) - 1))) dX12_isFitting_331 ⟨by omega, by omega⟩ rfl ?_
      refine g_aload_n dX12_isFitting_332 rfl ?_
      refine m_g47 rfl dX12_isFitting_333 ?_
      refine g_iload dX12_isFitting_336 rfl ?_
      refine m_l30 (z := (H46_2 30 (x46_4_2 + (-1)))) dX12_isFitting_338 ⟨by omega, by omega⟩ rfl ?_
      refine g_ior dX12_isFitting_339 ?_
      refine g_nm (fun b179 e_b179 => ?_)
      have h_b179 : 0 ≤ (ior (H46_2 30 ((x46_4_2 + (-1)) - 1)) (H46_2 30 (x46_4_2 + (-1)))) ∧ (ior (H46_2 30 ((x46_4_2 + (-1)) - 1)) (H46_2 30 (x46_4_2 + (-1)))) < 2 := ior_b 1 (by decide) (x := (H46_2 30 ((x46_4_2 + (-1)) - 1))) (y := (H46_2 30 (x46_4_2 + (-1)))) (show 0 ≤ (H46_2 30 ((x46_4_2 + (-1)) - 1)) ∧ (H46_2 30 ((x46_4_2 + (-1)) - 1)) < 2 from ⟨by have q0 := bl_30 (k := ((x46_4_2 + (-1)) - 1)) hB46_2; omega, by have q0 := bl_30 (k := ((x46_4_2 + (-1)) - 1)) hB46_2; omega⟩) (show 0 ≤ (H46_2 30 (x46_4_2 + (-1))) ∧ (H46_2 30 (x46_4_2 + (-1))) < 2 from ⟨by have q0 := bl_30 (k := (x46_4_2 + (-1))) hB46_2; omega, by have q0 := bl_30 (k := (x46_4_2 + (-1))) hB46_2; omega⟩)
      rw [← e_b179] at h_b179
      refine m_s30 dX12_isFitting_340 ⟨by omega, by omega⟩ ?_
      have hB180 := ba_30 (z := b179) (k := ((x46_4_2 + (-1)) - 1)) hB46_2 ⟨by omega, by omega⟩
      refine g_iinc (l1 := [(7, vI (x46_7_2 + 1)), (4, vI (x46_4_2 + (-1))), (8, vI (P 20 x46_7_2)), (0, vR 0), (5, vI x46_5_2), (6, vI ((4 * ((12 * (P 0 13)) + a1)) + a2))]) dX12_isFitting_341 rfl (by decide) rfl ?_
      refine g_goto (tgt := 46) dX12_isFitting_344 (by decide) ?_
      refine g_forget (l1 := [(0, vR 0), (4, vI (x46_4_2 + (-1))), (5, vI x46_5_2), (6, vI ((4 * ((12 * (P 0 13)) + a1)) + a2)), (7, vI (x46_7_2 + 1))]) (by intro q hq; simp only [List.mem_cons, List.not_mem_nil, or_false] at hq ⊢; rcases hq with rfl | rfl | rfl | rfl | rfl <;> simp) ?_
      exact ih46_2 (x46_7_2 + 1) ⟨by omega, by omega⟩ x46_5_2 ⟨by omega, by omega⟩ (x46_4_2 + (-1)) ⟨by omega, by omega⟩ _ hB180 (FrM.a (FrM.c FrM.rf hE46_2 rfl) rfl rfl) (by first | omega | (rw [show (x46_7_2 + 1) = f9 by omega]; exact hN_0)) (by first | omega | (rw [show (x46_7_2 + 1) = f9 by omega]; exact hD_0)) (by omega) (by omega)
  refine g_forget (l1 := [(0, vR 0), (4, vI 0), (5, vI 0), (6, vI ((4 * ((12 * (P 0 13)) + a1)) + a2)), (7, vI v2)]) (by intro q hq; simp only [List.mem_cons, List.not_mem_nil, or_false] at hq ⊢; rcases hq with rfl | rfl | rfl | rfl | rfl <;> simp) ?_
  exact L46_2 _ v2 ⟨by omega, by omega⟩ 0 (by decide) 0 (by decide) _ hB1 FrM.rf (by first | omega | (rw [show v2 = f9 by omega]; exact hN_0)) (by first | omega | (rw [show v2 = f9 by omega]; exact hD_0)) (by omega) (Nat.lt_succ_self _)
end
section
/-! The open values of a row that is read, and the pile of a value that is written. -/
def levR (P : PH) (j : Int) : Prop := P 27 j < P 7 (24 * P 0 13 + P 26 j) ∧ P 6 (24 * P 0 13 + P 26 j) + j ≤ 4
def SR (P : PH) : Prop := (1 ≤ P 0 43 ∧ P 0 43 ≤ 5) ∧ (∀ j : Int, 1 ≤ j → j ≤ P 0 43 → P 24 j = 4 ∨ P 24 j + j ≤ 4) ∧ ∀ j : Int, 1 ≤ j → j < P 0 43 → levR P j
theorem SR.fr {P P1 : PH} {F : FS} (h : SR P) (hf : FrM F P P1) (hd : disF F ([13, 43], [6, 7, 24, 26, 27]) = true) : SR P1 := by
  unfold disF at hd
  simp only [List.all_cons, List.all_nil, Bool.and_true, Bool.and_eq_true, Bool.not_eq_true'] at hd
  unfold SR levR at h ⊢
  rw [hf.1 13 hd.1.1, hf.1 43 hd.1.2, hf.2 6 rfl hd.2.1, hf.2 7 rfl hd.2.2.1, hf.2 24 rfl hd.2.2.2.1, hf.2 26 rfl hd.2.2.2.2.1, hf.2 27 rfl hd.2.2.2.2.2]
  exact h
theorem SR.pop {P P1 : PH} (h : SR P) {z : Int} (ez : P 0 43 = z) (hz : 2 ≤ z) (e43 : P1 0 43 = z - 1) (e13 : P1 0 13 = P 0 13) (r6 : ∀ j, P1 6 j = P 6 j) (r7 : ∀ j, P1 7 j = P 7 j) (r24 : ∀ j, P1 24 j = P 24 j) (r26 : ∀ j, P1 26 j = P 26 j) (r27 : ∀ j, P1 27 j = P 27 j) : SR P1 := by
  obtain ⟨h1, h2, h3⟩ := h
  unfold SR
  rw [e43]
  refine ⟨⟨by omega, by omega⟩, fun j j0 j1 => by rw [r24]; exact h2 j j0 (by omega), fun j j0 j1 => ?_⟩
  have := h3 j j0 (by omega)
  unfold levR at this ⊢
  rw [e13, r26, r27, r6, r7]
  exact this
/-- a field is opened -/
theorem SR.push {P P1 P2 : PH} {z b con fld kd : Int} (h : SR P) (hcf : CF P) (ez : P 0 43 = z) (eb : P 0 13 = b) (hf1 : FrM ([3, 4, 5, 6, 7, 8, 9, 12], [25, 26, 27]) P P1) (o26 : ∀ j : Int, j ≠ z → P1 26 j = P 26 j) (e26 : P1 26 z = con) (o27 : ∀ j : Int, j ≠ z → P1 27 j = P 27 j) (e27 : P1 27 z = fld) (hfld : 0 ≤ fld ∧ fld < P 7 (24 * b + con)) (hk : P 6 (24 * b + con) + z ≤ 4) (hk0 : 0 ≤ P 6 (24 * b + con)) (ekd : kd = P 8 (2 * (24 * b + con) + fld)) (hf2 : FrM ([43], [24, 25]) P1 P2) (e43 : P2 0 43 = z + 1) (e24 : P2 24 (z + 1) = kd) (o24 : ∀ j : Int, j ≠ z + 1 → P2 24 j = P1 24 j) : SR P2 := by
  obtain ⟨h1, h2, h3⟩ := h
  have p6 : P2 6 = P 6 := (hf2.2 6 rfl rfl).trans (hf1.2 6 rfl rfl)
  have p7 : P2 7 = P 7 := (hf2.2 7 rfl rfl).trans (hf1.2 7 rfl rfl)
  have p13 : P2 0 13 = P 0 13 := (hf2.1 13 rfl).trans (hf1.1 13 rfl)
  have p24 : P1 24 = P 24 := hf1.2 24 rfl rfl
  have p26 : P2 26 = P1 26 := hf2.2 26 rfl rfl
  have p27 : P2 27 = P1 27 := hf2.2 27 rfl rfl
  have hcc := hcf (24 * b + con) fld hfld.1 hfld.2
  unfold SR
  rw [e43]
  refine ⟨⟨by omega, by omega⟩, fun j j0 j1 => ?_, fun j j0 j1 => ?_⟩
  · by_cases e : j = z + 1
    · rw [e, e24, ekd]; omega
    · rw [o24 j e, p24]; exact h2 j j0 (by omega)
  · unfold levR
    rw [p13, p6, p7, p26, p27, eb]
    by_cases e : j = z
    · rw [e, e26, e27]; exact ⟨hfld.2, hk⟩
    · have := h3 j j0 (by omega)
      unfold levR at this
      rw [eb] at this
      rw [o26 j e, o27 j e]; exact this
theorem SR.start {P1 : PH} {kd : Int} (e43 : P1 0 43 = 1) (e24 : P1 24 1 = kd) (hk : kd = 4 ∨ kd ≤ 3) : SR P1 := by
  unfold SR
  rw [e43]
  exact ⟨⟨by omega, by omega⟩, fun j j0 j1 => by rw [show j = 1 by omega, e24]; omega, fun j j0 j1 => by omega⟩
/-- what a thing on the pile may still write -/
def wt (k : Int) : Int := if k = 5 then 1 else if k = 4 then 2 else if k = 3 then 197 else if k = 2 then 93 else if k = 1 then 41 else 15
theorem wt_b (k : Int) : 1 ≤ wt k ∧ wt k ≤ 197 := by unfold wt; split <;> (try split) <;> (try split) <;> (try split) <;> (try split) <;> decide
theorem wt_field {k f : Int} (hk : 0 ≤ k ∧ k ≤ 3) (hf : f = 4 ∨ (0 ≤ f ∧ f < k)) : 2 * wt f + 11 ≤ wt k := by
  have hk' : k = 0 ∨ k = 1 ∨ k = 2 ∨ k = 3 := by omega
  have hf' : f = 4 ∨ (f = 0 ∧ 1 ≤ k) ∨ (f = 1 ∧ 2 ≤ k) ∨ (f = 2 ∧ 3 ≤ k) := by omega
  rcases hk' with rfl | rfl | rfl | rfl <;> rcases hf' with rfl | ⟨rfl, _⟩ | ⟨rfl, _⟩ | ⟨rfl, _⟩ <;> first | omega | decide
def tw (P : PH) : Nat → Int
  | 0 => 0
  | n + 1 => tw P n + wt (P 47 (n : Int))
theorem tw_eq {P P1 : PH} : ∀ n : Nat, (∀ j : Int, 0 ≤ j → j < n → P1 47 j = P 47 j) → tw P1 n = tw P n := by
  intro n
  induction n with
  | zero => intro _; rfl
  | succ n ih =>
    intro h
    show tw P1 n + _ = tw P n + _
    rw [ih (fun j h0 h1 => h j h0 (by omega)), h _ (by omega) (by omega)]
theorem tw_b (P : PH) : ∀ n : Nat, 0 ≤ tw P n := by
  intro n
  induction n with
  | zero => exact Int.le_refl _
  | succ n ih =>
    show 0 ≤ tw P n + _
    have := wt_b (P 47 (n : Int))
    omega
def twp (P : PH) : Int := tw P (P 0 73).toNat
theorem twp_b (P : PH) : 0 ≤ twp P := tw_b P _
theorem twp_fr {P P1 : PH} {F : FS} (hf : FrM F P P1) (hd : disF F ([73], [47]) = true) : twp P1 = twp P := by
  unfold disF at hd
  simp only [List.all_cons, List.all_nil, Bool.and_true, Bool.true_and, Bool.and_eq_true, Bool.not_eq_true'] at hd
  unfold twp
  rw [hf.1 73 hd.1, tw_eq (P := P) _ (fun j _ _ => by rw [hf.2 47 rfl hd.2])]
theorem twp_pop {P P1 : PH} {n : Int} (e : P 0 73 = n) (hn : 1 ≤ n) (e1 : P1 0 73 = n - 1) (r47 : ∀ j, P1 47 j = P 47 j) : twp P = twp P1 + wt (P 47 (n - 1)) := by
  unfold twp
  rw [e, e1, show n.toNat = (n - 1).toNat + 1 by omega]
  show tw P (n - 1).toNat + wt (P 47 ((n - 1).toNat : Int)) = _
  rw [tw_eq (P := P) (P1 := P1) _ (fun j _ _ => r47 j), show (((n - 1).toNat : Nat) : Int) = n - 1 by omega]
/-- a thing on the pile at a place -/
def tok (P : PH) (j k v : Int) : Prop := k = 5 ∧ j ≤ 19 ∨ (k = 4 ∧ j ≤ 19 ∧ 0 ≤ v ∧ v ≤ 19) ∨ (0 ≤ k ∧ k < 4 ∧ j + 3 * k ≤ 15 ∧ k < P 2 (P 0 13) ∧ 0 ≤ v ∧ v < P 3 (4 * P 0 13 + k))
def TD (P : PH) : Prop := P 0 73 ≤ 20 ∧ ∀ j : Int, 0 ≤ j → j < P 0 73 → tok P j (P 47 j) (P 48 j)
theorem TD.fr {P P1 : PH} {F : FS} (h : TD P) (hf : FrM F P P1) (hd : disF F ([13, 73], [2, 3, 47, 48]) = true) : TD P1 := by
  unfold disF at hd
  simp only [List.all_cons, List.all_nil, Bool.and_true, Bool.and_eq_true, Bool.not_eq_true'] at hd
  unfold TD tok at h ⊢
  rw [hf.1 13 hd.1.1, hf.1 73 hd.1.2, hf.2 2 rfl hd.2.1, hf.2 3 rfl hd.2.2.1, hf.2 47 rfl hd.2.2.2.1, hf.2 48 rfl hd.2.2.2.2]
  exact h
theorem TD.push {P P1 : PH} {k v : Int} (h : TD P) (hb : BdM P) (he : LA k v P P1) (hf : FrM ([73], [47, 48]) P P1) (ht : tok P (P 0 73) k v) : TD P1 ∧ twp P1 = twp P + wt k := by
  obtain ⟨h1, h2⟩ := h
  obtain ⟨e1, e2, e3, e4⟩ := he
  have q := b0_73 hb
  have p2 : P1 2 = P 2 := hf.2 2 rfl rfl
  have p3 : P1 3 = P 3 := hf.2 3 rfl rfl
  have p13 : P1 0 13 = P 0 13 := hf.1 13 rfl
  have h19 : P 0 73 ≤ 19 := by unfold tok at ht; omega
  refine ⟨⟨by omega, fun j j0 j1 => ?_⟩, ?_⟩
  · by_cases e : j = P 0 73
    · unfold tok at ht ⊢
      rw [p2, p3, p13, e, e3, e4]; exact ht
    · have := h2 j j0 (by omega)
      unfold tok at this ⊢
      rw [p2, p3, p13, (e2 j e).1, (e2 j e).2]; exact this
  · unfold twp
    rw [e1, show (P 0 73 + 1).toNat = (P 0 73).toNat + 1 by omega]
    show tw P1 (P 0 73).toNat + wt (P1 47 ((P 0 73).toNat : Int)) = _
    rw [tw_eq (P := P) (P1 := P1) _ (fun j j0 j1 => (e2 j (by omega)).1), show (((P 0 73).toNat : Nat) : Int) = P 0 73 by omega, e3]
theorem TD.pop {P P1 : PH} {n : Int} (h : TD P) (e : P 0 73 = n) (hn : 1 ≤ n) (e1 : P1 0 73 = n - 1) (e13 : P1 0 13 = P 0 13) (r2 : ∀ j, P1 2 j = P 2 j) (r3 : ∀ j, P1 3 j = P 3 j) (r47 : ∀ j, P1 47 j = P 47 j) (r48 : ∀ j, P1 48 j = P 48 j) : TD P1 ∧ tok P1 (n - 1) (P 47 (n - 1)) (P 48 (n - 1)) := by
  obtain ⟨h1, h2⟩ := h
  refine ⟨⟨by omega, fun j j0 j1 => ?_⟩, ?_⟩
  · have := h2 j j0 (by omega)
    unfold tok at this ⊢
    rw [e13, r2, r3, r47, r48]; exact this
  · have := h2 (n - 1) (by omega) (by omega)
    unfold tok at this ⊢
    rw [e13, r2, r3]; exact this
theorem TD.zero {P : PH} (h : P 0 73 = 0) : TD P ∧ twp P = 0 := by
  refine ⟨⟨by omega, fun j j0 j1 => by omega⟩, ?_⟩
  unfold twp
  rw [h]; rfl
theorem wt_con {k : Int} (hk : 0 ≤ k ∧ k ≤ 3) : 15 ≤ wt k := by
  have hk' : k = 0 ∨ k = 1 ∨ k = 2 ∨ k = 3 := by omega
  rcases hk' with rfl | rfl | rfl | rfl <;> decide
end
