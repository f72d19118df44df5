/-! Contracts of the reference: mj. -/
set_option maxRecDepth 100000 in
set_option maxHeartbeats 4000000 in
theorem m_X12_conOf (G : GT) (P : PH) (a1 : Int) (a2 : Int) (h_a1 : 0 ≤ a1 ∧ a1 ≤ 3) (h_a2 : (-2147483648) ≤ a2 ∧ a2 ≤ 2147483647) (hB : BdM P) (p_kv : a1 < P 2 (P 0 13) ∧ 0 ≤ a2 ∧ a2 < P 3 (4 * P 0 13 + a1)) (v_ZO : ZO P) (Q : Option PV → PH → Prop) (hQ : ∀ (r : Int) (_ : 0 ≤ r ∧ r ≤ 23) (_ : r < P 5 (P 0 13) ∧ P 6 (24 * P 0 13 + r) = a1 ∧ P 9 (24 * P 0 13 + r) ≤ a2 ∧ a2 < P 9 (24 * P 0 13 + r) + P 10 (24 * P 0 13 + r)), Q (some (vI r)) P) : Ct WSM G 2 iX12_conOf [vR 0, vI a1, vI a2] P Q := by
  refine Ct.of (by decide) (l0 := [(0, vR 0), (1, vI a1), (2, vI a2)]) rfl (Nat.le_of_ble_eq_true rfl) ?_
  have q13 := b0_13 hB
  refine g_iconst dX12_conOf_0 ?_
  refine g_istore_n (l1 := [(3, vI 0), (0, vR 0), (1, vI a1), (2, vI a2)]) dX12_conOf_1 (by decide) rfl ?_
  have L2_0 : ∀ (n2_0 : Nat) (x2_3_0 : Int) (h_x2_3_0 : 0 ≤ x2_3_0 ∧ x2_3_0 ≤ 24) (i2_0_0 : ∀ d : Int, 0 ≤ d → d < x2_3_0 → P 6 (24 * P 0 13 + d) = a1 → ¬ (P 9 (24 * P 0 13 + d) ≤ a2 ∧ a2 < P 9 (24 * P 0 13 + d) + P 10 (24 * P 0 13 + d))) (hm2_0 : (25 - x2_3_0 : Int).toNat < n2_0), Go WSM G 2 iX12_conOf 2 [(0, vR 0), (1, vI a1), (2, vI a2), (3, vI x2_3_0)] [] P Q := by
    intro n2_0
    induction n2_0 with
    | zero => intro x2_3_0 h_x2_3_0 i2_0_0 hm2_0; exact absurd hm2_0 (Nat.not_lt_zero _)
    | succ n2_0 ih2_0 =>
    intro x2_3_0 h_x2_3_0 i2_0_0 hm2_0
    refine g_iload_n dX12_conOf_2 rfl ?_
    refine g_aload_n dX12_conOf_3 rfl ?_
    refine m_g17 rfl dX12_conOf_4 ?_
    refine g_aload_n dX12_conOf_7 rfl ?_
    refine m_g13 (z := (P 0 13)) rfl dX12_conOf_8 rfl ?_
    refine m_l5 (z := (P 5 (P 0 13))) dX12_conOf_11 ⟨by have q0 := b0_13 hB; omega, by have q0 := b0_13 hB; omega⟩ rfl ?_
    have f34 := bl_5 (k := (P 0 13)) hB
    refine g_icmp_ge (tgt := 76) dX12_conOf_12 (by decide) ⟨by omega, by omega⟩ ⟨by have q0 := bl_5 (k := (P 0 13)) hB; omega, by have q0 := bl_5 (k := (P 0 13)) hB; omega⟩ (fun k35 => ?_) (fun k35 => ?_)
    · exfalso
      obtain ⟨d, d0, d1, d2, d3, d4⟩ := v_ZO (P 0 13) a1 a2 q13.1 q13.2 h_a1.1 p_kv.1 p_kv.2.1 p_kv.2.2
      exact i2_0_0 d d0 (by omega) d2 ⟨d3, d4⟩
    · refine g_bipush dX12_conOf_15 (by decide) ?_
      refine g_aload_n dX12_conOf_17 rfl ?_
      refine m_g13 (z := (P 0 13)) rfl dX12_conOf_18 rfl ?_
      refine g_imul dX12_conOf_21 ?_
      refine g_iload_n dX12_conOf_22 rfl ?_
      refine g_iadd dX12_conOf_23 ?_
      refine g_istore (l1 := [(4, vI ((24 * (P 0 13)) + x2_3_0)), (0, vR 0), (1, vI a1), (2, vI a2), (3, vI x2_3_0)]) dX12_conOf_24 (by decide) rfl ?_
      refine g_aload_n dX12_conOf_26 rfl ?_
      refine m_g18 rfl dX12_conOf_27 ?_
      refine g_iload dX12_conOf_30 rfl ?_
      refine m_l6 (z := (P 6 ((24 * (P 0 13)) + x2_3_0))) dX12_conOf_32 ⟨by have q0 := b0_13 hB; omega, by have q0 := b0_13 hB; omega⟩ rfl ?_
      refine g_iload_n dX12_conOf_33 rfl ?_
      have f36 := bl_6 (k := ((24 * (P 0 13)) + x2_3_0)) hB
      refine g_icmp_ne (tgt := 70) dX12_conOf_34 (by decide) ⟨by have q0 := bl_6 (k := ((24 * (P 0 13)) + x2_3_0)) hB; omega, by have q0 := bl_6 (k := ((24 * (P 0 13)) + x2_3_0)) hB; omega⟩ ⟨by omega, by omega⟩ (fun k37 => ?_) (fun k37 => ?_)
      · have hnx : ∀ d : Int, 0 ≤ d → d < x2_3_0 + 1 → P 6 (24 * P 0 13 + d) = a1 → ¬ (P 9 (24 * P 0 13 + d) ≤ a2 ∧ a2 < P 9 (24 * P 0 13 + d) + P 10 (24 * P 0 13 + d)) := by
          intro d d0 d1 dk dr
          by_cases e : d = x2_3_0
          · rw [e] at dk dr; omega
          · exact i2_0_0 d d0 (by omega) dk dr
        refine g_iinc (l1 := [(3, vI (x2_3_0 + 1)), (4, vI ((24 * (P 0 13)) + x2_3_0)), (0, vR 0), (1, vI a1), (2, vI a2)]) dX12_conOf_70 rfl (by decide) rfl ?_
        refine g_goto (tgt := 2) dX12_conOf_73 (by decide) ?_
        refine g_forget (l1 := [(0, vR 0), (1, vI a1), (2, vI a2), (3, vI (x2_3_0 + 1))]) (by intro q hq; simp only [List.mem_cons, List.not_mem_nil, or_false] at hq ⊢; rcases hq with rfl | rfl | rfl | rfl <;> simp) ?_
        exact ih2_0 (x2_3_0 + 1) ⟨by omega, by omega⟩ (by first | exact hnx | (intro d d0 d1; exfalso; omega)) (by omega)
      · refine g_iload_n dX12_conOf_37 rfl ?_
        refine g_aload_n dX12_conOf_38 rfl ?_
        refine m_g21 rfl dX12_conOf_39 ?_
        refine g_iload dX12_conOf_42 rfl ?_
        refine m_l9 (z := (P 9 ((24 * (P 0 13)) + x2_3_0))) dX12_conOf_44 ⟨by have q0 := b0_13 hB; omega, by have q0 := b0_13 hB; omega⟩ rfl ?_
        refine g_aload_n dX12_conOf_45 rfl ?_
        refine m_g21 rfl dX12_conOf_46 ?_
        refine g_iload dX12_conOf_49 rfl ?_
        refine m_l9 (z := (P 9 ((24 * (P 0 13)) + x2_3_0))) dX12_conOf_51 ⟨by have q0 := b0_13 hB; omega, by have q0 := b0_13 hB; omega⟩ rfl ?_
        refine g_aload_n dX12_conOf_52 rfl ?_
        refine m_g22 rfl dX12_conOf_53 ?_
        refine g_iload dX12_conOf_56 rfl ?_
        refine m_l10 (z := (P 10 ((24 * (P 0 13)) + x2_3_0))) dX12_conOf_58 ⟨by have q0 := b0_13 hB; omega, by have q0 := b0_13 hB; omega⟩ rfl ?_
        refine g_iadd dX12_conOf_59 ?_
        refine g_iconst dX12_conOf_60 ?_
        refine g_isub dX12_conOf_61 ?_
        have f38 := bl_9 (k := ((24 * (P 0 13)) + x2_3_0)) hB
        have f39 := bl_10 (k := ((24 * (P 0 13)) + x2_3_0)) hB
        refine g_sI (av := [vI a2, vI (P 9 ((24 * (P 0 13)) + x2_3_0)), vI (((P 9 ((24 * (P 0 13)) + x2_3_0)) + (P 10 ((24 * (P 0 13)) + x2_3_0))) - 1)]) (st := []) (m_X12_is G P a2 (P 9 ((24 * (P 0 13)) + x2_3_0)) (((P 9 ((24 * (P 0 13)) + x2_3_0)) + (P 10 ((24 * (P 0 13)) + x2_3_0))) - 1) ⟨by omega, by omega⟩ ⟨by have q0 := bl_9 (k := ((24 * (P 0 13)) + x2_3_0)) hB; omega, by have q0 := bl_9 (k := ((24 * (P 0 13)) + x2_3_0)) hB; omega⟩ ⟨by have q0 := bl_9 (k := ((24 * (P 0 13)) + x2_3_0)) hB; have q1 := bl_10 (k := ((24 * (P 0 13)) + x2_3_0)) hB; omega, by have q0 := bl_9 (k := ((24 * (P 0 13)) + x2_3_0)) hB; have q1 := bl_10 (k := ((24 * (P 0 13)) + x2_3_0)) hB; omega⟩ hB  _ (fun rc40 hc40 gc40_is => ⟨rc40, rfl, ?_⟩)) cf_X12_is t_1800 rfl (Nat.le_of_ble_eq_true rfl) (by decide) rfl dX12_conOf_62
        refine g_if_eq (tgt := 70) dX12_conOf_65 (by decide) ⟨by omega, by omega⟩ (fun k41 => ?_) (fun k41 => ?_)
        · have hnx : ∀ d : Int, 0 ≤ d → d < x2_3_0 + 1 → P 6 (24 * P 0 13 + d) = a1 → ¬ (P 9 (24 * P 0 13 + d) ≤ a2 ∧ a2 < P 9 (24 * P 0 13 + d) + P 10 (24 * P 0 13 + d)) := by
            intro d d0 d1 dk dr
            by_cases e : d = x2_3_0
            · rw [e] at dk dr; omega
            · exact i2_0_0 d d0 (by omega) dk dr
          refine g_iinc (l1 := [(3, vI (x2_3_0 + 1)), (4, vI ((24 * (P 0 13)) + x2_3_0)), (0, vR 0), (1, vI a1), (2, vI a2)]) dX12_conOf_70 rfl (by decide) rfl ?_
          refine g_goto (tgt := 2) dX12_conOf_73 (by decide) ?_
          refine g_forget (l1 := [(0, vR 0), (1, vI a1), (2, vI a2), (3, vI (x2_3_0 + 1))]) (by intro q hq; simp only [List.mem_cons, List.not_mem_nil, or_false] at hq ⊢; rcases hq with rfl | rfl | rfl | rfl <;> simp) ?_
          exact ih2_0 (x2_3_0 + 1) ⟨by omega, by omega⟩ (by first | exact hnx | (intro d d0 d1; exfalso; omega)) (by omega)
        · refine g_iload_n dX12_conOf_68 rfl ?_
          exact g_retI dX12_conOf_69 rfl (hQ x2_3_0 ⟨by omega, by omega⟩ (by have q0 := bl_5 (k := (P 0 13)) hB; have q1 := bl_6 (k := (24 * P 0 13 + x2_3_0)) hB; have q2 := bl_9 (k := (24 * P 0 13 + x2_3_0)) hB; have q3 := bl_10 (k := (24 * P 0 13 + x2_3_0)) hB; omega))
  refine g_forget (l1 := [(0, vR 0), (1, vI a1), (2, vI a2), (3, vI 0)]) (by intro q hq; simp only [List.mem_cons, List.not_mem_nil, or_false] at hq ⊢; rcases hq with rfl | rfl | rfl | rfl <;> simp) ?_
  exact L2_0 _ 0 (by decide) (by first | exact hnx | (intro d d0 d1; exfalso; omega)) (Nat.lt_succ_self _)
set_option maxRecDepth 100000 in
set_option maxHeartbeats 4000000 in
theorem m_X12_writesValue (G : GT) (P : PH) (a1 : Int) (a2 : Int) (h_a1 : 0 ≤ a1 ∧ a1 ≤ 4) (h_a2 : (-2147483648) ≤ a2 ∧ a2 ≤ 2147483647) (hB : BdM P) (p_tk : tok P (P 0 73) a1 a2) (p_ps : P 0 70 + twp P + wt a1 ≤ 791) (v_TD : TD P) (v_ZT : ZT P) (v_ZO : ZO P) (v_CF : CF P) (Q : Option PV → PH → Prop) (hQ : ∀ (P1 : PH) (_ : BdM P1) (_ : FrM ([70, 73], [46, 47, 48]) P P1) (_ : P1 0 70 + twp P1 ≤ 791) (_ : twp P1 + 1 ≤ twp P + wt a1) (_ : TD P1), Q none P1) : Ct WSM G 3 iX12_writesValue [vR 0, vI a1, vI a2] P Q := by
  refine Ct.of (by decide) (l0 := [(0, vR 0), (1, vI a1), (2, vI a2)]) rfl (Nat.le_of_ble_eq_true rfl) ?_
  have htk := p_tk
  unfold tok at htk
  have htb := twp_b P
  have q73 := b0_73 hB
  have q70 := b0_70 hB
  refine g_iload_n dX12_writesValue_0 rfl ?_
  refine g_iconst dX12_writesValue_1 ?_
  refine g_icmp_ne (tgt := 34) dX12_writesValue_2 (by decide) ⟨by omega, by omega⟩ (by decide) (fun k1 => ?_) (fun k1 => ?_)
  · have hwc := wt_con (k := a1) ⟨by omega, by omega⟩
    have hw5 : wt 5 = 1 := by decide
    have hkv : a1 < P 2 (P 0 13) ∧ 0 ≤ a2 ∧ a2 < P 3 (4 * P 0 13 + a1) := by omega
    have q13 := b0_13 hB
    refine g_aload_n dX12_writesValue_34 rfl ?_
    refine g_iload_n dX12_writesValue_35 rfl ?_
    refine g_iload_n dX12_writesValue_36 rfl ?_
    refine g_vI (av := [vI a1, vI a2]) (o := 0) (st := []) (m_X12_conOf G P a1 a2 ⟨by omega, by omega⟩ ⟨by omega, by omega⟩ hB (hkv) v_ZO _ (fun rc2 hc2 gc2_c => ⟨rc2, rfl, ?_⟩)) cf_X12_conOf t_1982 rfl (by decide) rfl rfl rfl (Nat.le_of_ble_eq_true rfl) (by decide) rfl dX12_writesValue_37
    have hco := gc2_c
    refine g_istore_n (l1 := [(3, vI rc2), (0, vR 0), (1, vI a1), (2, vI a2)]) dX12_writesValue_40 (by decide) rfl ?_
    refine g_bipush dX12_writesValue_41 (by decide) ?_
    refine g_aload_n dX12_writesValue_43 rfl ?_
    refine m_g13 (z := (P 0 13)) rfl dX12_writesValue_44 rfl ?_
    refine g_imul dX12_writesValue_47 ?_
    refine g_iload_n dX12_writesValue_48 rfl ?_
    refine g_iadd dX12_writesValue_49 ?_
    refine g_istore (l1 := [(4, vI ((24 * (P 0 13)) + rc2)), (3, vI rc2), (0, vR 0), (1, vI a1), (2, vI a2)]) dX12_writesValue_50 (by decide) rfl ?_
    refine g_aload_n dX12_writesValue_52 rfl ?_
    refine g_aload_n dX12_writesValue_53 rfl ?_
    refine m_g35 rfl dX12_writesValue_54 ?_
    refine g_iload dX12_writesValue_57 rfl ?_
    refine m_l23 (z := (P 23 ((24 * (P 0 13)) + rc2))) dX12_writesValue_59 ⟨by have q0 := b0_13 hB; omega, by have q0 := b0_13 hB; omega⟩ rfl ?_
    have f3 := bl_23 (k := ((24 * (P 0 13)) + rc2)) hB
    refine g_vV (av := [vL (P 23 ((24 * (P 0 13)) + rc2))]) (o := 0) (st := []) (m_X12_writesName G P (P 23 ((24 * (P 0 13)) + rc2)) ⟨by have q0 := bl_23 (k := ((24 * (P 0 13)) + rc2)) hB; omega, by have q0 := bl_23 (k := ((24 * (P 0 13)) + rc2)) hB; omega⟩ hB (by have q0 := bl_23 (k := ((24 * (P 0 13)) + rc2)) hB; have q1 := b0_70 hB; omega) _ (fun Pc4 hBc4 hFc4 gc4_o => ⟨rfl, ?_⟩)) cf_X12_writesName t_1986 rfl (by decide) rfl rfl rfl (Nat.le_of_ble_eq_true rfl) (by decide) rfl dX12_writesValue_60
    refine g_aload_n dX12_writesValue_63 rfl ?_
    refine m_g19 rfl dX12_writesValue_64 ?_
    refine g_iload dX12_writesValue_67 rfl ?_
    refine m_l7 (z := (P 7 ((24 * (P 0 13)) + rc2))) dX12_writesValue_69 ⟨by have q0 := b0_13 hB; omega, by have q0 := b0_13 hB; omega⟩ ((congrFun (hFc4.2 7 rfl rfl) _).trans rfl) ?_
    have f5 := bl_7 (k := ((24 * (P 0 13)) + rc2)) hB
    refine g_if_ne (tgt := 74) dX12_writesValue_70 (by decide) ⟨by have q0 := bl_7 (k := ((24 * (P 0 13)) + rc2)) hB; omega, by have q0 := bl_7 (k := ((24 * (P 0 13)) + rc2)) hB; omega⟩ (fun k6 => ?_) (fun k6 => ?_)
    · refine g_aload_n dX12_writesValue_74 rfl ?_
      refine g_iconst dX12_writesValue_75 ?_
      refine g_bipush dX12_writesValue_76 (by decide) ?_
      have hqt := (twp_fr (F := ([70], [46])) (FrM.c FrM.rf hFc4 rfl) rfl : twp Pc4 = twp P)
      have htd := (TD.fr (F := ([70], [46])) v_TD (FrM.c FrM.rf hFc4 rfl) rfl)
      have hbt := hBc4
      have htok : tok Pc4 (Pc4 0 73) 5 41 := Or.inl ⟨rfl, by have q := (((hFc4.1 73 rfl).trans rfl) : Pc4 0 73 = (P 0 73)); omega⟩
      refine g_vV (av := [vI 5, vI 41]) (o := 0) (st := []) (m_X12_later G Pc4 5 41 (by decide) (by decide) hBc4 (by have q0 := (((hFc4.1 73 rfl).trans rfl) : Pc4 0 73 = (P 0 73)); have q1 := b0_73 hB; omega) _ (fun Pc7 hBc7 hFc7 gc7_o gc7_e => ⟨rfl, ?_⟩)) cf_X12_later t_1970 rfl (by decide) rfl rfl rfl (Nat.le_of_ble_eq_true rfl) (by decide) rfl dX12_writesValue_78
      have z8 : Pc4 0 73 = (P 0 73) := ((hFc4.1 73 rfl).trans rfl)
      have hpu := htd.push hbt gc7_e hFc7 htok
      have hpu2 := hpu.2
      have iv9 : TD Pc7 := hpu.1
      refine g_aload_n dX12_writesValue_81 rfl ?_
      refine m_g19 rfl dX12_writesValue_82 ?_
      refine g_iload dX12_writesValue_85 rfl ?_
      refine m_l7 (z := (P 7 ((24 * (P 0 13)) + rc2))) dX12_writesValue_87 ⟨by have q0 := b0_13 hB; omega, by have q0 := b0_13 hB; omega⟩ ((congrFun (hFc7.2 7 rfl rfl) _).trans ((congrFun (hFc4.2 7 rfl rfl) _).trans rfl)) ?_
      refine g_iconst dX12_writesValue_88 ?_
      refine g_isub dX12_writesValue_89 ?_
      refine g_istore (l1 := [(5, vI ((P 7 ((24 * (P 0 13)) + rc2)) - 1)), (4, vI ((24 * (P 0 13)) + rc2)), (3, vI rc2), (0, vR 0), (1, vI a1), (2, vI a2)]) dX12_writesValue_90 (by decide) rfl ?_
      have L92_9 : ∀ (n92_9 : Nat) (x92_5_9 : Int) (h_x92_5_9 : (-1) ≤ x92_5_9 ∧ x92_5_9 ≤ 1) (H92_9 : PH) (hB92_9 : BdM H92_9) (hE92_9 : FrM ([73], [47, 48]) Pc7 H92_9) (i92_0_9 : H92_9 0 73 = P 0 73 + 1 + 2 * (P 7 ((24 * (P 0 13)) + rc2) - 1 - x92_5_9)) (i92_1_9 : ((P 7 ((24 * (P 0 13)) + rc2) - 1 - x92_5_9) = 0 ∧ twp H92_9 ≤ twp P + 1) ∨ ((P 7 ((24 * (P 0 13)) + rc2) - 1 - x92_5_9) = 1 ∧ 2 * twp H92_9 ≤ 2 * twp P + 4 + (wt a1 - 11)) ∨ ((P 7 ((24 * (P 0 13)) + rc2) - 1 - x92_5_9) = 2 ∧ 2 * twp H92_9 ≤ 2 * twp P + 6 + 2 * (wt a1 - 11))) (i92_2_9 : H92_9 0 70 ≤ P 0 70 + 8) (i92_3_9 : x92_5_9 < P 7 ((24 * (P 0 13)) + rc2)) (w92_TD_9 : TD H92_9) (hm92_9 : (x92_5_9 + 1 : Int).toNat < n92_9), Go WSM G 3 iX12_writesValue 92 [(0, vR 0), (2, vI a2), (3, vI rc2), (4, vI ((24 * (P 0 13)) + rc2)), (5, vI x92_5_9)] [] H92_9 Q := by
        intro n92_9
        induction n92_9 with
        | zero => intro x92_5_9 h_x92_5_9 H92_9 hB92_9 hE92_9 i92_0_9 i92_1_9 i92_2_9 i92_3_9 w92_TD_9 hm92_9; exact absurd hm92_9 (Nat.not_lt_zero _)
        | succ n92_9 ih92_9 =>
        intro x92_5_9 h_x92_5_9 H92_9 hB92_9 hE92_9 i92_0_9 i92_1_9 i92_2_9 i92_3_9 w92_TD_9 hm92_9
        refine g_iload dX12_writesValue_92 rfl ?_
        refine g_if_lt (tgt := 144) dX12_writesValue_94 (by decide) ⟨by omega, by omega⟩ (fun k55 => ?_) (fun k55 => ?_)
        · exact g_retV dX12_writesValue_144 rfl (hQ _ hB92_9 (FrM.c (FrM.c (FrM.c FrM.rf hFc4 rfl) hFc7 rfl) hE92_9 rfl) (by have q0 := (((hE92_9.1 70 rfl).trans ((hFc7.1 70 rfl).trans rfl)) : H92_9 0 70 = (Pc4 0 70)); have q1 := b0_70 hBc4; omega) (by omega) w92_TD_9)
        · refine g_aload_n dX12_writesValue_97 rfl ?_
          refine g_aload_n dX12_writesValue_98 rfl ?_
          refine m_g20 rfl dX12_writesValue_99 ?_
          refine g_iconst dX12_writesValue_102 ?_
          refine g_iload dX12_writesValue_103 rfl ?_
          refine g_imul dX12_writesValue_105 ?_
          refine g_iload dX12_writesValue_106 rfl ?_
          refine g_iadd dX12_writesValue_108 ?_
          refine m_l8 (z := (P 8 ((2 * ((24 * (P 0 13)) + rc2)) + x92_5_9))) dX12_writesValue_109 ⟨by have q0 := b0_13 hB; omega, by have q0 := b0_13 hB; omega⟩ ((congrFun (hE92_9.2 8 rfl rfl) _).trans ((congrFun (hFc7.2 8 rfl rfl) _).trans ((congrFun (hFc4.2 8 rfl rfl) _).trans rfl))) ?_
          refine g_aload_n dX12_writesValue_110 rfl ?_
          refine g_iload_n dX12_writesValue_111 rfl ?_
          refine g_iload_n dX12_writesValue_112 rfl ?_
          refine g_iload dX12_writesValue_113 rfl ?_
          have hv3 : ∀ b k, vals H92_9 b k = vals P b k := fun b k => vals_eq fun _ => ((congrFun (hE92_9.2 3 rfl rfl) _).trans ((congrFun (hFc7.2 3 rfl rfl) _).trans ((congrFun (hFc4.2 3 rfl rfl) _).trans rfl)))
          have r8c : ∀ j, H92_9 8 j = P 8 j := fun j => ((congrFun (hE92_9.2 8 rfl rfl) _).trans ((congrFun (hFc7.2 8 rfl rfl) _).trans ((congrFun (hFc4.2 8 rfl rfl) _).trans rfl)))
          have r9c : ∀ j, H92_9 9 j = P 9 j := fun j => ((congrFun (hE92_9.2 9 rfl rfl) _).trans ((congrFun (hFc7.2 9 rfl rfl) _).trans ((congrFun (hFc4.2 9 rfl rfl) _).trans rfl)))
          have r10c : ∀ j, H92_9 10 j = P 10 j := fun j => ((congrFun (hE92_9.2 10 rfl rfl) _).trans ((congrFun (hFc7.2 10 rfl rfl) _).trans ((congrFun (hFc4.2 10 rfl rfl) _).trans rfl)))
          have e13c := (((hE92_9.1 13 rfl).trans ((hFc7.1 13 rfl).trans ((hFc4.1 13 rfl).trans rfl))) : H92_9 0 13 = (P 0 13))
          refine g_vI (av := [vI a2, vI rc2, vI x92_5_9]) (o := 0) (st := [vI (P 8 ((2 * ((24 * (P 0 13)) + rc2)) + x92_5_9)), vR 0]) (m_X12_fieldOf G H92_9 a2 rc2 x92_5_9 ⟨by omega, by omega⟩ ⟨by omega, by omega⟩ ⟨by omega, by omega⟩ hB92_9 (by rw [show H92_9 0 13 = _ from ((hE92_9.1 13 rfl).trans ((hFc7.1 13 rfl).trans ((hFc4.1 13 rfl).trans rfl)))]; exact (((ZT.fr (F := ([70, 73], [46, 47, 48])) v_ZT (FrM.c (FrM.c (FrM.c FrM.rf hFc4 rfl) hFc7 rfl) hE92_9 rfl) rfl)) (P 0 13) rc2 (by omega) (by omega) (by omega) (by rw [show H92_9 5 (P 0 13) = _ from ((congrFun (hE92_9.2 5 rfl rfl) _).trans ((congrFun (hFc7.2 5 rfl rfl) _).trans ((congrFun (hFc4.2 5 rfl rfl) _).trans rfl)))]; omega)).2) (by rw [show H92_9 0 13 = _ from ((hE92_9.1 13 rfl).trans ((hFc7.1 13 rfl).trans ((hFc4.1 13 rfl).trans rfl))), show H92_9 7 ((24 * (P 0 13)) + rc2) = _ from ((congrFun (hE92_9.2 7 rfl rfl) _).trans ((congrFun (hFc7.2 7 rfl rfl) _).trans ((congrFun (hFc4.2 7 rfl rfl) _).trans rfl)))]; omega) _ (fun rc56 hc56 gc56_rg => ⟨rc56, rfl, ?_⟩)) cf_X12_fieldOf t_1839 rfl (by decide) rfl rfl rfl (Nat.le_of_ble_eq_true rfl) (by decide) rfl dX12_writesValue_115
          have z57 : H92_9 0 13 = (P 0 13) := ((hE92_9.1 13 rfl).trans ((hFc7.1 13 rfl).trans ((hFc4.1 13 rfl).trans rfl)))
          have hrg := gc56_rg
          simp only [e13c, r8c, r9c, r10c, hv3] at hrg
          have hrv : 0 ≤ rc56 ∧ rc56 < vals P (P 0 13) (P 8 (2 * ((24 * (P 0 13)) + rc2) + x92_5_9)) := by
            have h5 : x92_5_9 = 0 ∨ x92_5_9 = 1 := by omega
            have hrg2 := hrg.resolve_left (by omega)
            rcases h5 with h5 | h5
            · rw [h5, show 2 * ((24 * (P 0 13)) + rc2) + 0 = 2 * ((24 * (P 0 13)) + rc2) by omega]; exact ⟨hrg2.1, hrg2.2.1 h5⟩
            · rw [h5]; exact ⟨hrg2.1, hrg2.2.2 h5⟩
          have hcf := v_CF ((24 * (P 0 13)) + rc2) x92_5_9 (by omega) (by omega)
          have q8 := bl_8 (k := 2 * ((24 * (P 0 13)) + rc2) + x92_5_9) hB
          have htok : tok H92_9 (H92_9 0 73) (P 8 ((2 * ((24 * (P 0 13)) + rc2)) + x92_5_9)) rc56 := by
            have q := (rfl : H92_9 0 73 = (H92_9 0 73))
            unfold tok
            rw [show H92_9 0 13 = _ from ((hE92_9.1 13 rfl).trans ((hFc7.1 13 rfl).trans ((hFc4.1 13 rfl).trans rfl))), show H92_9 2 (P 0 13) = _ from ((congrFun (hE92_9.2 2 rfl rfl) _).trans ((congrFun (hFc7.2 2 rfl rfl) _).trans ((congrFun (hFc4.2 2 rfl rfl) _).trans rfl))), show H92_9 3 (4 * P 0 13 + (P 8 ((2 * ((24 * (P 0 13)) + rc2)) + x92_5_9))) = _ from ((congrFun (hE92_9.2 3 rfl rfl) _).trans ((congrFun (hFc7.2 3 rfl rfl) _).trans ((congrFun (hFc4.2 3 rfl rfl) _).trans rfl)))]
            unfold vals at hrv
            by_cases e4 : P 8 (2 * ((24 * (P 0 13)) + rc2) + x92_5_9) = 4
            · rw [if_pos e4] at hrv; omega
            · rw [if_neg e4] at hrv; omega
          have hwf := wt_field (k := a1) (f := (P 8 ((2 * ((24 * (P 0 13)) + rc2)) + x92_5_9))) ⟨by omega, by omega⟩ (by omega)
          have htd := w92_TD_9
          have hbt := hB92_9
          have f58 := bl_8 (k := ((2 * ((24 * (P 0 13)) + rc2)) + x92_5_9)) hB
          refine g_vV (av := [vI (P 8 ((2 * ((24 * (P 0 13)) + rc2)) + x92_5_9)), vI rc56]) (o := 0) (st := []) (m_X12_later G H92_9 (P 8 ((2 * ((24 * (P 0 13)) + rc2)) + x92_5_9)) rc56 ⟨by have q0 := bl_8 (k := ((2 * ((24 * (P 0 13)) + rc2)) + x92_5_9)) hB; omega, by have q0 := bl_8 (k := ((2 * ((24 * (P 0 13)) + rc2)) + x92_5_9)) hB; omega⟩ ⟨by omega, by omega⟩ hB92_9 (by have q0 := bl_8 (k := ((2 * ((24 * (P 0 13)) + rc2)) + x92_5_9)) hB; have q1 := b0_73 hB92_9; omega) _ (fun Pc59 hBc59 hFc59 gc59_o gc59_e => ⟨rfl, ?_⟩)) cf_X12_later t_1970 rfl (by decide) rfl rfl rfl (Nat.le_of_ble_eq_true rfl) (by decide) rfl dX12_writesValue_118
          have hpu := htd.push hbt gc59_e hFc59 htok
          have hpu2 := hpu.2
          have iv60 : TD Pc59 := hpu.1
          refine g_aload_n dX12_writesValue_121 rfl ?_
          refine g_iconst dX12_writesValue_122 ?_
          refine g_iload dX12_writesValue_123 rfl ?_
          refine g_if_ne (tgt := 133) dX12_writesValue_125 (by decide) ⟨by omega, by omega⟩ (fun k61 => ?_) (fun k61 => ?_)
          · refine g_bipush dX12_writesValue_133 (by decide) ?_
            have htd2 := iv60
            have hbt2 := hBc59
            have htok2 : tok Pc59 (Pc59 0 73) 5 44 := Or.inl ⟨rfl, by have q := (rfl : Pc59 0 73 = (Pc59 0 73)); omega⟩
            refine g_vV (av := [vI 5, vI 44]) (o := 0) (st := []) (m_X12_later G Pc59 5 44 (by decide) (by decide) hBc59 (by have q0 := b0_73 hBc59; omega) _ (fun Pc62 hBc62 hFc62 gc62_o gc62_e => ⟨rfl, ?_⟩)) cf_X12_later t_1970 rfl (by decide) rfl rfl rfl (Nat.le_of_ble_eq_true rfl) (by decide) rfl dX12_writesValue_135
            have hpv := htd2.push hbt2 gc62_e hFc62 htok2
            have hpv2 := hpv.2
            have iv63 : TD Pc62 := hpv.1
            refine g_iinc (l1 := [(5, vI (x92_5_9 + (-1))), (0, vR 0), (2, vI a2), (3, vI rc2), (4, vI ((24 * (P 0 13)) + rc2))]) dX12_writesValue_138 rfl (by decide) rfl ?_
            refine g_goto (tgt := 92) dX12_writesValue_141 (by decide) ?_
            refine g_forget (l1 := [(0, vR 0), (2, vI a2), (3, vI rc2), (4, vI ((24 * (P 0 13)) + rc2)), (5, vI (x92_5_9 + (-1)))]) (by intro q hq; simp only [List.mem_cons, List.not_mem_nil, or_false] at hq ⊢; rcases hq with rfl | rfl | rfl | rfl | rfl <;> simp) ?_
            exact ih92_9 (x92_5_9 + (-1)) ⟨by omega, by omega⟩ _ hBc62 (FrM.c (FrM.c (FrM.c FrM.rf hE92_9 rfl) hFc59 rfl) hFc62 rfl) (by have q0 := b0_73 hBc62; omega) (by omega) (by have q0 := (((hFc62.1 70 rfl).trans ((hFc59.1 70 rfl).trans ((hE92_9.1 70 rfl).trans ((hFc7.1 70 rfl).trans rfl)))) : Pc62 0 70 = (Pc4 0 70)); have q1 := b0_70 hBc4; omega) (by omega) iv63 (by omega)
          · refine g_bipush dX12_writesValue_128 (by decide) ?_
            refine g_goto (tgt := 135) dX12_writesValue_130 (by decide) ?_
            have htd2 := iv60
            have hbt2 := hBc59
            have htok2 : tok Pc59 (Pc59 0 73) 5 40 := Or.inl ⟨rfl, by have q := (rfl : Pc59 0 73 = (Pc59 0 73)); omega⟩
            refine g_vV (av := [vI 5, vI 40]) (o := 0) (st := []) (m_X12_later G Pc59 5 40 (by decide) (by decide) hBc59 (by have q0 := b0_73 hBc59; omega) _ (fun Pc64 hBc64 hFc64 gc64_o gc64_e => ⟨rfl, ?_⟩)) cf_X12_later t_1970 rfl (by decide) rfl rfl rfl (Nat.le_of_ble_eq_true rfl) (by decide) rfl dX12_writesValue_135
            have hpv := htd2.push hbt2 gc64_e hFc64 htok2
            have hpv2 := hpv.2
            have iv65 : TD Pc64 := hpv.1
            refine g_iinc (l1 := [(5, vI (x92_5_9 + (-1))), (0, vR 0), (2, vI a2), (3, vI rc2), (4, vI ((24 * (P 0 13)) + rc2))]) dX12_writesValue_138 rfl (by decide) rfl ?_
            refine g_goto (tgt := 92) dX12_writesValue_141 (by decide) ?_
            refine g_forget (l1 := [(0, vR 0), (2, vI a2), (3, vI rc2), (4, vI ((24 * (P 0 13)) + rc2)), (5, vI (x92_5_9 + (-1)))]) (by intro q hq; simp only [List.mem_cons, List.not_mem_nil, or_false] at hq ⊢; rcases hq with rfl | rfl | rfl | rfl | rfl <;> simp) ?_
            exact ih92_9 (x92_5_9 + (-1)) ⟨by omega, by omega⟩ _ hBc64 (FrM.c (FrM.c (FrM.c FrM.rf hE92_9 rfl) hFc59 rfl) hFc64 rfl) (by have q0 := b0_73 hBc64; omega) (by omega) (by have q0 := (((hFc64.1 70 rfl).trans ((hFc59.1 70 rfl).trans ((hE92_9.1 70 rfl).trans ((hFc7.1 70 rfl).trans rfl)))) : Pc64 0 70 = (Pc4 0 70)); have q1 := b0_70 hBc4; omega) (by omega) iv65 (by omega)
      refine g_forget (l1 := [(0, vR 0), (2, vI a2), (3, vI rc2), (4, vI ((24 * (P 0 13)) + rc2)), (5, vI ((P 7 ((24 * (P 0 13)) + rc2)) - 1))]) (by intro q hq; simp only [List.mem_cons, List.not_mem_nil, or_false] at hq ⊢; rcases hq with rfl | rfl | rfl | rfl | rfl <;> simp) ?_
      exact L92_9 _ ((P 7 ((24 * (P 0 13)) + rc2)) - 1) ⟨by have q0 := bl_7 (k := ((24 * (P 0 13)) + rc2)) hB; omega, by have q0 := bl_7 (k := ((24 * (P 0 13)) + rc2)) hB; omega⟩ _ hBc7 FrM.rf (by have q0 := bl_7 (k := ((24 * (P 0 13)) + rc2)) hB; have q1 := b0_73 hBc7; omega) (by have q0 := bl_7 (k := ((24 * (P 0 13)) + rc2)) hB; omega) (by have q0 := bl_7 (k := ((24 * (P 0 13)) + rc2)) hB; have q1 := (((hFc7.1 70 rfl).trans rfl) : Pc7 0 70 = (Pc4 0 70)); have q2 := b0_70 hBc4; omega) (by have q0 := bl_7 (k := ((24 * (P 0 13)) + rc2)) hB; omega) iv9 (Nat.lt_succ_self _)
    · exact g_retV dX12_writesValue_73 rfl (hQ _ hBc4 (FrM.c FrM.rf hFc4 rfl) (by have q0 := b0_70 hBc4; have q1 := (twp_fr (F := ([70], [46])) (FrM.c FrM.rf hFc4 rfl) rfl : twp Pc4 = twp P); omega) (by have q0 := (twp_fr (F := ([70], [46])) (FrM.c FrM.rf hFc4 rfl) rfl : twp Pc4 = twp P); omega) (TD.fr (F := ([70], [46])) v_TD (FrM.c FrM.rf hFc4 rfl) rfl))
  · have hw4 : wt a1 = 2 := by rw [show a1 = 4 by omega]; decide
    refine g_iload_n dX12_writesValue_5 rfl ?_
    refine g_bipush dX12_writesValue_6 (by decide) ?_
    refine g_icmp_le (tgt := 22) dX12_writesValue_8 (by decide) ⟨by omega, by omega⟩ (by decide) (fun k66 => ?_) (fun k66 => ?_)
    · refine g_aload_n dX12_writesValue_22 rfl ?_
      refine g_bipush dX12_writesValue_23 (by decide) ?_
      refine g_iload_n dX12_writesValue_25 rfl ?_
      refine g_bipush dX12_writesValue_26 (by decide) ?_
      refine g_irem dX12_writesValue_28 ⟨(by decide), by decide⟩ ?_
      refine g_nm (fun b67 e_b67 => ?_)
      have h_b67 := irem_any (x := a2) (y := 10) ⟨by omega, by omega⟩ ⟨by omega, by omega⟩
      rw [← e_b67] at h_b67
      refine g_iadd dX12_writesValue_29 ?_
      refine g_vV (av := [vI (48 + b67)]) (o := 0) (st := []) (m_X12_writes G P (48 + b67) ⟨by omega, by omega⟩ hB (by have q0 := b0_70 hB; omega) _ (fun Pc68 hBc68 hFc68 gc68_o => ⟨rfl, ?_⟩)) cf_X12_writes t_1974 rfl (by decide) rfl rfl rfl (Nat.le_of_ble_eq_true rfl) (by decide) rfl dX12_writesValue_30
      exact g_retV dX12_writesValue_33 rfl (hQ _ hBc68 (FrM.c FrM.rf hFc68 rfl) (by have q0 := b0_70 hBc68; have q1 := (twp_fr (F := ([70], [46])) (FrM.c FrM.rf hFc68 rfl) rfl : twp Pc68 = twp P); omega) (by have q0 := (twp_fr (F := ([70], [46])) (FrM.c FrM.rf hFc68 rfl) rfl : twp Pc68 = twp P); omega) (TD.fr (F := ([70], [46])) v_TD (FrM.c FrM.rf hFc68 rfl) rfl))
    · refine g_aload_n dX12_writesValue_11 rfl ?_
      refine g_bipush dX12_writesValue_12 (by decide) ?_
      refine g_iload_n dX12_writesValue_14 rfl ?_
      refine g_bipush dX12_writesValue_15 (by decide) ?_
      refine g_idiv dX12_writesValue_17 ⟨(by decide), by decide⟩ ?_
      refine g_nm (fun b69 e_b69 => ?_)
      have h_b69 := idiv_p (x := a2) (y := 10) ⟨by omega, by omega⟩ ⟨by omega, by omega⟩
      rw [← e_b69] at h_b69
      refine g_iadd dX12_writesValue_18 ?_
      refine g_vV (av := [vI (48 + b69)]) (o := 0) (st := []) (m_X12_writes G P (48 + b69) ⟨by omega, by omega⟩ hB (by have q0 := b0_70 hB; omega) _ (fun Pc70 hBc70 hFc70 gc70_o => ⟨rfl, ?_⟩)) cf_X12_writes t_1974 rfl (by decide) rfl rfl rfl (Nat.le_of_ble_eq_true rfl) (by decide) rfl dX12_writesValue_19
      refine g_aload_n dX12_writesValue_22 rfl ?_
      refine g_bipush dX12_writesValue_23 (by decide) ?_
      refine g_iload_n dX12_writesValue_25 rfl ?_
      refine g_bipush dX12_writesValue_26 (by decide) ?_
      refine g_irem dX12_writesValue_28 ⟨(by decide), by decide⟩ ?_
      refine g_nm (fun b71 e_b71 => ?_)
      have h_b71 := irem_b (x := a2) (y := 10) ⟨by omega, by omega⟩ ⟨by omega, by omega⟩
      rw [← e_b71] at h_b71
      refine g_iadd dX12_writesValue_29 ?_
      refine g_vV (av := [vI (48 + b71)]) (o := 0) (st := []) (m_X12_writes G Pc70 (48 + b71) ⟨by omega, by omega⟩ hBc70 (by have q0 := b0_70 hBc70; omega) _ (fun Pc72 hBc72 hFc72 gc72_o => ⟨rfl, ?_⟩)) cf_X12_writes t_1974 rfl (by decide) rfl rfl rfl (Nat.le_of_ble_eq_true rfl) (by decide) rfl dX12_writesValue_30
      exact g_retV dX12_writesValue_33 rfl (hQ _ hBc72 (FrM.c (FrM.c FrM.rf hFc70 rfl) hFc72 rfl) (by have q0 := b0_70 hBc72; have q1 := (twp_fr (F := ([70], [46])) (FrM.c (FrM.c FrM.rf hFc70 rfl) hFc72 rfl) rfl : twp Pc72 = twp P); omega) (by have q0 := (twp_fr (F := ([70], [46])) (FrM.c (FrM.c FrM.rf hFc70 rfl) hFc72 rfl) rfl : twp Pc72 = twp P); omega) (TD.fr (F := ([70], [46])) v_TD (FrM.c (FrM.c FrM.rf hFc70 rfl) hFc72 rfl) rfl))
set_option maxRecDepth 100000 in
set_option maxHeartbeats 4000000 in
theorem m_X12_text (G : GT) (P : PH) (a1 : Int) (h_a1 : (-2147483648) ≤ a1 ∧ a1 ≤ 2147483647) (hB : BdM P) (v_okC : okC P) (v_ZT : ZT P) (v_ZO : ZO P) (v_ZC : ZC P) (v_CF : CF P) (Q : Option PV → PH → Prop) (hQ : ∀ (r : Int) (_ : (-2147483648) ≤ r ∧ r ≤ 2147483647) (P1 : PH) (_ : BdM P1) (_ : FrM ([70, 73], [44, 46, 47, 48]) P P1), Q (some (vI r)) P1) : Ct WSM G 4 iX12_text [vR 0, vI a1] P Q := by
  refine Ct.of (by decide) (l0 := [(0, vR 0), (1, vI a1)]) rfl (Nat.le_of_ble_eq_true rfl) ?_
  refine g_aload_n dX12_text_0 rfl ?_
  refine g_iload_n dX12_text_1 rfl ?_
  refine g_vI (av := [vI a1]) (o := 0) (st := []) (m_X12_isRow G P a1 ⟨by omega, by omega⟩ hB  _ (fun rc1 hc1 gc1_p => ⟨rc1, rfl, ?_⟩)) cf_X12_isRow t_1946 rfl (by decide) rfl rfl rfl (Nat.le_of_ble_eq_true rfl) (by decide) rfl dX12_text_2
  have f2 := b0_44 hB
  have f3 := b0_52 hB
  refine g_if_ne (tgt := 10) dX12_text_5 (by decide) ⟨by omega, by omega⟩ (fun k4 => ?_) (fun k4 => ?_)
  · refine g_aload_n dX12_text_10 rfl ?_
    refine g_iload_n dX12_text_11 rfl ?_
    refine g_vV (av := [vI a1]) (o := 0) (st := []) (m_X12_valuesIn G P a1 ⟨by omega, by omega⟩ hB v_okC _ (fun Pc5 hBc5 hFc5 gc5_vv => ⟨rfl, ?_⟩)) cf_X12_valuesIn t_1903 rfl (by decide) rfl rfl rfl (Nat.le_of_ble_eq_true rfl) (by decide) rfl dX12_text_12
    have hvv := gc5_vv
    refine g_aload_n dX12_text_15 rfl ?_
    refine g_iconst dX12_text_16 ?_
    refine m_p70 rfl dX12_text_17 ?_
    have hB6 := bs_70 (z := 0) hBc5 (by decide)
    refine g_aload_n dX12_text_20 rfl ?_
    refine g_iconst dX12_text_21 ?_
    refine m_p73 rfl dX12_text_22 ?_
    have hB7 := bs_73 (z := 0) hB6 (by decide)
    have htz := TD.zero (P := (up (up Pc5 0 70 0) 0 73 0)) up_same
    have htz2 := htz.2
    have iv8 : TD (up (up Pc5 0 70 0) 0 73 0) := htz.1
    refine g_aload_n dX12_text_25 rfl ?_
    refine g_vI (av := []) (o := 0) (st := []) (m_X12_columns G (up (up Pc5 0 70 0) 0 73 0)  hB7  _ (fun rc9 hc9 gc9_c => ⟨rc9, rfl, ?_⟩)) cf_X12_columns t_1827 rfl (by decide) rfl rfl rfl (Nat.le_of_ble_eq_true rfl) (by decide) rfl dX12_text_26
    have z10 : (up (up Pc5 0 70 0) 0 73 0) 0 13 = (P 0 13) := ((up_k (by decide)).trans ((up_k (by decide)).trans ((hFc5.1 13 rfl).trans rfl)))
    have hcl : rc9 = P 11 (P 0 13) := by have q := gc9_c; rw [show (up (up Pc5 0 70 0) 0 73 0) 0 13 = _ from ((up_k (by decide)).trans ((up_k (by decide)).trans ((hFc5.1 13 rfl).trans rfl))), show (up (up Pc5 0 70 0) 0 73 0) 11 (P 0 13) = _ from ((up_o (by decide)).trans ((up_o (by decide)).trans ((congrFun (hFc5.2 11 rfl rfl) _).trans rfl)))] at q; exact q
    have q13 := b0_13 hB
    refine g_iconst dX12_text_29 ?_
    refine g_isub dX12_text_30 ?_
    have q11t := bl_11 (k := P 0 13) hB
    refine g_istore_n (l1 := [(2, vI (rc9 - 1)), (0, vR 0), (1, vI a1)]) dX12_text_31 (by decide) rfl ?_
    have L32_10 : ∀ (n32_10 : Nat) (x32_2_10 : Int) (h_x32_2_10 : (-1) ≤ x32_2_10 ∧ x32_2_10 ≤ 3) (H32_10 : PH) (hB32_10 : BdM H32_10) (hE32_10 : FrM ([73], [47, 48]) (up (up Pc5 0 70 0) 0 73 0) H32_10) (i32_0_10 : (0 ≤ x32_2_10 ∧ twp H32_10 ≤ 198 * (P 11 (P 0 13) - 1 - x32_2_10) ∧ H32_10 0 73 = 2 * (P 11 (P 0 13) - 1 - x32_2_10)) ∨ (x32_2_10 = -1 ∧ twp H32_10 ≤ 791)) (i32_1_10 : H32_10 0 70 = 0) (i32_2_10 : x32_2_10 < P 11 (P 0 13)) (w32_TD_10 : TD H32_10) (hm32_10 : (x32_2_10 + 1 : Int).toNat < n32_10), Go WSM G 4 iX12_text 32 [(0, vR 0), (2, vI x32_2_10)] [] H32_10 Q := by
      intro n32_10
      induction n32_10 with
      | zero => intro x32_2_10 h_x32_2_10 H32_10 hB32_10 hE32_10 i32_0_10 i32_1_10 i32_2_10 w32_TD_10 hm32_10; exact absurd hm32_10 (Nat.not_lt_zero _)
      | succ n32_10 ih32_10 =>
      intro x32_2_10 h_x32_2_10 H32_10 hB32_10 hE32_10 i32_0_10 i32_1_10 i32_2_10 w32_TD_10 hm32_10
      refine g_iload_n dX12_text_32 rfl ?_
      refine g_if_lt (tgt := 76) dX12_text_33 (by decide) ⟨by omega, by omega⟩ (fun k218 => ?_) (fun k218 => ?_)
      · have L76_218 : ∀ (n76_218 : Nat) (H76_218 : PH) (hB76_218 : BdM H76_218) (hE76_218 : FrM ([70, 73], [46, 47, 48]) H32_10 H76_218) (i76_0_218 : H76_218 0 70 + twp H76_218 ≤ 791) (w76_TD_218 : TD H76_218) (hm76_218 : (twp H76_218 : Int).toNat < n76_218), Go WSM G 4 iX12_text 76 [(0, vR 0)] [] H76_218 Q := by
          intro n76_218
          induction n76_218 with
          | zero => intro H76_218 hB76_218 hE76_218 i76_0_218 w76_TD_218 hm76_218; exact absurd hm76_218 (Nat.not_lt_zero _)
          | succ n76_218 ih76_218 =>
          intro H76_218 hB76_218 hE76_218 i76_0_218 w76_TD_218 hm76_218
          refine g_aload_n dX12_text_76 rfl ?_
          refine m_g73 (z := (H76_218 0 73)) rfl dX12_text_77 rfl ?_
          have f264 := b0_73 hB76_218
          refine g_if_le (tgt := 135) dX12_text_80 (by decide) ⟨by have q0 := b0_73 hB76_218; omega, by have q0 := b0_73 hB76_218; omega⟩ (fun k265 => ?_) (fun k265 => ?_)
          · refine g_aload_n dX12_text_135 rfl ?_
            refine m_g70 (z := (H76_218 0 70)) rfl dX12_text_136 rfl ?_
            exact g_retI dX12_text_139 rfl (hQ (H76_218 0 70) ⟨by have q0 := b0_70 hB76_218; omega, by have q0 := b0_70 hB76_218; omega⟩ _ hB76_218 (FrM.c (FrM.c (FrM.s (FrM.s (FrM.c FrM.rf hFc5 rfl) rfl) rfl) hE32_10 rfl) hE76_218 rfl) )
          · obtain ⟨z, hz⟩ : ∃ z, z = (H76_218 0 73) := ⟨_, rfl⟩
            have htd0 := w76_TD_218
            have hz73 := (rfl : H76_218 0 73 = (H76_218 0 73))
            have hzq : H76_218 0 73 = z := by omega
            have k13 : (13 : Int) ≠ 73 := by decide
            have htb0 := twp_b H76_218
            refine g_aload_n dX12_text_83 rfl ?_
            refine g_dup dX12_text_84 rfl ?_
            refine m_g73 (z := (H76_218 0 73)) rfl dX12_text_85 rfl ?_
            refine g_iconst dX12_text_88 ?_
            refine g_isub dX12_text_89 ?_
            refine m_p73 rfl dX12_text_90 ?_
            have hB266 := bs_73 (z := ((H76_218 0 73) - 1)) hB76_218 ⟨by have q0 := b0_73 hB76_218; omega, by have q0 := b0_73 hB76_218; omega⟩
            have htp := htd0.pop (P1 := (up H76_218 0 73 ((H76_218 0 73) - 1))) (n := z) (by omega) (by omega) (by have q := (up_same : (up H76_218 0 73 ((H76_218 0 73) - 1)) 0 73 = ((H76_218 0 73) - 1)); omega) ((up_k k13).trans rfl) (fun j => ((up_o (by decide)).trans rfl)) (fun j => ((up_o (by decide)).trans rfl)) (fun j => ((up_o (by decide)).trans rfl)) (fun j => ((up_o (by decide)).trans rfl))
            have htw := twp_pop (P := _) (P1 := (up H76_218 0 73 ((H76_218 0 73) - 1))) (n := z) hzq (by omega) (by have q := (up_same : (up H76_218 0 73 ((H76_218 0 73) - 1)) 0 73 = ((H76_218 0 73) - 1)); omega) (fun j => ((up_o (by decide)).trans rfl))
            rw [hz] at htw
            have hk2 := htp.2
            rw [hz] at hk2
            have hk3 := hk2
            unfold tok at hk3
            have iv267 : TD (up H76_218 0 73 ((H76_218 0 73) - 1)) := htp.1
            refine g_aload_n dX12_text_93 rfl ?_
            refine m_g71 rfl dX12_text_94 ?_
            refine g_aload_n dX12_text_97 rfl ?_
            refine m_g73 (z := ((H76_218 0 73) - 1)) rfl dX12_text_98 up_same ?_
            refine m_l47 (z := (H76_218 47 ((H76_218 0 73) - 1))) dX12_text_101 ⟨by have q0 := b0_73 hB76_218; omega, by have q0 := b0_73 hB76_218; omega⟩ ((up_o (by decide)).trans rfl) ?_
            have hwb1 := wt_b (H76_218 47 ((H76_218 0 73) - 1))
            have htb1 := twp_b (up H76_218 0 73 ((H76_218 0 73) - 1))
            refine g_istore_n (l1 := [(2, vI (H76_218 47 ((H76_218 0 73) - 1))), (0, vR 0)]) dX12_text_102 (by decide) rfl ?_
            refine g_aload_n dX12_text_103 rfl ?_
            refine m_g72 rfl dX12_text_104 ?_
            refine g_aload_n dX12_text_107 rfl ?_
            refine m_g73 (z := ((H76_218 0 73) - 1)) rfl dX12_text_108 up_same ?_
            refine m_l48 (z := (H76_218 48 ((H76_218 0 73) - 1))) dX12_text_111 ⟨by have q0 := b0_73 hB76_218; omega, by have q0 := b0_73 hB76_218; omega⟩ ((up_o (by decide)).trans rfl) ?_
            refine g_istore_n (l1 := [(3, vI (H76_218 48 ((H76_218 0 73) - 1))), (2, vI (H76_218 47 ((H76_218 0 73) - 1))), (0, vR 0)]) dX12_text_112 (by decide) rfl ?_
            have hw5 : (H76_218 47 ((H76_218 0 73) - 1)) = 5 → wt ((H76_218 47 ((H76_218 0 73) - 1))) = 1 := fun e => by rw [e]; decide
            refine g_iload_n dX12_text_113 rfl ?_
            refine g_iconst dX12_text_114 ?_
            have f268 := bl_47 (k := ((H76_218 0 73) - 1)) hB76_218
            refine g_icmp_ne (tgt := 126) dX12_text_115 (by decide) ⟨by have q0 := bl_47 (k := ((H76_218 0 73) - 1)) hB76_218; omega, by have q0 := bl_47 (k := ((H76_218 0 73) - 1)) hB76_218; omega⟩ (by decide) (fun k269 => ?_) (fun k269 => ?_)
            · refine g_aload_n dX12_text_126 rfl ?_
              refine g_iload_n dX12_text_127 rfl ?_
              refine g_iload_n dX12_text_128 rfl ?_
              have f270 := bl_48 (k := ((H76_218 0 73) - 1)) hB76_218
              refine g_vV (av := [vI (H76_218 47 ((H76_218 0 73) - 1)), vI (H76_218 48 ((H76_218 0 73) - 1))]) (o := 0) (st := []) (m_X12_writesValue G (up H76_218 0 73 ((H76_218 0 73) - 1)) (H76_218 47 ((H76_218 0 73) - 1)) (H76_218 48 ((H76_218 0 73) - 1)) ⟨by have q0 := bl_47 (k := ((H76_218 0 73) - 1)) hB76_218; omega, by have q0 := bl_47 (k := ((H76_218 0 73) - 1)) hB76_218; omega⟩ ⟨by have q0 := bl_48 (k := ((H76_218 0 73) - 1)) hB76_218; omega, by have q0 := bl_48 (k := ((H76_218 0 73) - 1)) hB76_218; omega⟩ hB266 (by rw [show (up H76_218 0 73 ((H76_218 0 73) - 1)) 0 73 = _ from up_same]; exact hk2) (by have q0 := bl_47 (k := ((H76_218 0 73) - 1)) hB76_218; have q1 := bl_48 (k := ((H76_218 0 73) - 1)) hB76_218; have q2 := (((up_k (by decide)).trans rfl) : (up H76_218 0 73 ((H76_218 0 73) - 1)) 0 70 = (H76_218 0 70)); have q3 := b0_70 hB76_218; omega) iv267 (ZT.fr (F := ([70, 73], [44, 46, 47, 48])) v_ZT (FrM.s (FrM.c (FrM.c (FrM.s (FrM.s (FrM.c FrM.rf hFc5 rfl) rfl) rfl) hE32_10 rfl) hE76_218 rfl) rfl) rfl) (ZO.fr (F := ([70, 73], [44, 46, 47, 48])) v_ZO (FrM.s (FrM.c (FrM.c (FrM.s (FrM.s (FrM.c FrM.rf hFc5 rfl) rfl) rfl) hE32_10 rfl) hE76_218 rfl) rfl) rfl) (CF.fr (F := ([70, 73], [44, 46, 47, 48])) v_CF (FrM.s (FrM.c (FrM.c (FrM.s (FrM.s (FrM.c FrM.rf hFc5 rfl) rfl) rfl) hE32_10 rfl) hE76_218 rfl) rfl) rfl) _ (fun Pc271 hBc271 hFc271 gc271_ps gc271_ms vc271_TD => ⟨rfl, ?_⟩)) cf_X12_writesValue t_1978 rfl (by decide) rfl rfl rfl (Nat.le_of_ble_eq_true rfl) (by decide) rfl dX12_text_129
              refine g_goto (tgt := 76) dX12_text_132 (by decide) ?_
              refine g_forget (l1 := [(0, vR 0)]) (by intro q hq; simp only [List.mem_cons, List.not_mem_nil, or_false] at hq ⊢; rcases hq with rfl <;> simp) ?_
              exact ih76_218 _ hBc271 (FrM.c (FrM.s (FrM.c FrM.rf hE76_218 rfl) rfl) hFc271 rfl) (by have q0 := b0_70 hBc271; omega) vc271_TD (by omega)
            · refine g_aload_n dX12_text_118 rfl ?_
              refine g_iload_n dX12_text_119 rfl ?_
              have f272 := bl_48 (k := ((H76_218 0 73) - 1)) hB76_218
              refine g_vV (av := [vI (H76_218 48 ((H76_218 0 73) - 1))]) (o := 0) (st := []) (m_X12_writes G (up H76_218 0 73 ((H76_218 0 73) - 1)) (H76_218 48 ((H76_218 0 73) - 1)) ⟨by have q0 := bl_48 (k := ((H76_218 0 73) - 1)) hB76_218; omega, by have q0 := bl_48 (k := ((H76_218 0 73) - 1)) hB76_218; omega⟩ hB266 (by have q0 := bl_48 (k := ((H76_218 0 73) - 1)) hB76_218; have q1 := (((up_k (by decide)).trans rfl) : (up H76_218 0 73 ((H76_218 0 73) - 1)) 0 70 = (H76_218 0 70)); have q2 := b0_70 hB76_218; omega) _ (fun Pc273 hBc273 hFc273 gc273_o => ⟨rfl, ?_⟩)) cf_X12_writes t_1974 rfl (by decide) rfl rfl rfl (Nat.le_of_ble_eq_true rfl) (by decide) rfl dX12_text_120
              have z274 : (up H76_218 0 73 ((H76_218 0 73) - 1)) 0 70 = (H76_218 0 70) := ((up_k (by decide)).trans rfl)
              refine g_goto (tgt := 132) dX12_text_123 (by decide) ?_
              refine g_goto (tgt := 76) dX12_text_132 (by decide) ?_
              refine g_forget (l1 := [(0, vR 0)]) (by intro q hq; simp only [List.mem_cons, List.not_mem_nil, or_false] at hq ⊢; rcases hq with rfl <;> simp) ?_
              exact ih76_218 _ hBc273 (FrM.c (FrM.s (FrM.c FrM.rf hE76_218 rfl) rfl) hFc273 rfl) (by have q0 := b0_70 hBc273; have q1 := (twp_fr (F := ([70], [46])) (FrM.c FrM.rf hFc273 rfl) rfl : twp Pc273 = twp (up H76_218 0 73 ((H76_218 0 73) - 1))); omega) (TD.fr (F := ([70], [46])) iv267 (FrM.c FrM.rf hFc273 rfl) rfl) (by have q0 := (twp_fr (F := ([70], [46])) (FrM.c FrM.rf hFc273 rfl) rfl : twp Pc273 = twp (up H76_218 0 73 ((H76_218 0 73) - 1))); omega)
        refine g_forget (l1 := [(0, vR 0)]) (by intro q hq; simp only [List.mem_cons, List.not_mem_nil, or_false] at hq ⊢; rcases hq with rfl <;> simp) ?_
        exact L76_218 _ _ hB32_10 FrM.rf (by have q0 := (((hE32_10.1 70 rfl).trans ((up_k (by decide)).trans up_same)) : H32_10 0 70 = 0); omega) w32_TD_10 (Nat.lt_succ_self _)
      · refine g_aload_n dX12_text_36 rfl ?_
        refine g_aload_n dX12_text_37 rfl ?_
        refine m_g24 rfl dX12_text_38 ?_
        refine g_iconst dX12_text_41 ?_
        refine g_aload_n dX12_text_42 rfl ?_
        refine m_g13 (z := (P 0 13)) rfl dX12_text_43 ((hE32_10.1 13 rfl).trans ((up_k (by decide)).trans ((up_k (by decide)).trans ((hFc5.1 13 rfl).trans rfl)))) ?_
        refine g_imul dX12_text_46 ?_
        refine g_iload_n dX12_text_47 rfl ?_
        refine g_iadd dX12_text_48 ?_
        refine m_l12 (z := (P 12 ((4 * (P 0 13)) + x32_2_10))) dX12_text_49 ⟨by have q0 := b0_13 hB; omega, by have q0 := b0_13 hB; omega⟩ ((congrFun (hE32_10.2 12 rfl rfl) _).trans ((up_o (by decide)).trans ((up_o (by decide)).trans ((congrFun (hFc5.2 12 rfl rfl) _).trans rfl)))) ?_
        refine g_aload_n dX12_text_50 rfl ?_
        refine m_g67 rfl dX12_text_51 ?_
        refine g_iload_n dX12_text_54 rfl ?_
        refine m_l44 (z := (Pc5 44 x32_2_10)) dX12_text_55 ⟨by omega, by omega⟩ ((congrFun (hE32_10.2 44 rfl rfl) _).trans ((up_o (by decide)).trans ((up_o (by decide)).trans rfl))) ?_
        have q12 := bl_12 (k := 4 * P 0 13 + x32_2_10) hB
        have hvl := hvv x32_2_10 (by omega) (by omega)
        have hzl := v_ZC (P 0 13) x32_2_10 (by omega) (by omega) (by omega) (by omega)
        have hww := wt_b (P 12 ((4 * (P 0 13)) + x32_2_10))
        have htok : tok H32_10 (H32_10 0 73) (P 12 ((4 * (P 0 13)) + x32_2_10)) (Pc5 44 x32_2_10) := by
          have q := (rfl : H32_10 0 73 = (H32_10 0 73))
          unfold tok
          rw [show H32_10 0 13 = _ from ((hE32_10.1 13 rfl).trans ((up_k (by decide)).trans ((up_k (by decide)).trans ((hFc5.1 13 rfl).trans rfl)))), show H32_10 2 (P 0 13) = _ from ((congrFun (hE32_10.2 2 rfl rfl) _).trans ((up_o (by decide)).trans ((up_o (by decide)).trans ((congrFun (hFc5.2 2 rfl rfl) _).trans rfl)))), show H32_10 3 (4 * P 0 13 + (P 12 ((4 * (P 0 13)) + x32_2_10))) = _ from ((congrFun (hE32_10.2 3 rfl rfl) _).trans ((up_o (by decide)).trans ((up_o (by decide)).trans ((congrFun (hFc5.2 3 rfl rfl) _).trans rfl))))]
          unfold vals at hvl
          by_cases e4 : P 12 (4 * P 0 13 + x32_2_10) = 4
          · rw [if_pos e4] at hvl; omega
          · rw [if_neg e4] at hvl; omega
        have htd := w32_TD_10
        have hbt := hB32_10
        have f275 := bl_12 (k := ((4 * (P 0 13)) + x32_2_10)) hB
        have f276 := bl_44 (k := x32_2_10) hBc5
        refine g_vV (av := [vI (P 12 ((4 * (P 0 13)) + x32_2_10)), vI (Pc5 44 x32_2_10)]) (o := 0) (st := []) (m_X12_later G H32_10 (P 12 ((4 * (P 0 13)) + x32_2_10)) (Pc5 44 x32_2_10) ⟨by have q0 := bl_12 (k := ((4 * (P 0 13)) + x32_2_10)) hB; omega, by have q0 := bl_12 (k := ((4 * (P 0 13)) + x32_2_10)) hB; omega⟩ ⟨by have q0 := bl_44 (k := x32_2_10) hBc5; omega, by have q0 := bl_44 (k := x32_2_10) hBc5; omega⟩ hB32_10 (by have q0 := bl_12 (k := ((4 * (P 0 13)) + x32_2_10)) hB; have q1 := bl_44 (k := x32_2_10) hBc5; have q2 := b0_73 hB32_10; omega) _ (fun Pc277 hBc277 hFc277 gc277_o gc277_e => ⟨rfl, ?_⟩)) cf_X12_later t_1970 rfl (by decide) rfl rfl rfl (Nat.le_of_ble_eq_true rfl) (by decide) rfl dX12_text_56
        have hpu := htd.push hbt gc277_e hFc277 htok
        have hpu2 := hpu.2
        have iv278 : TD Pc277 := hpu.1
        refine g_iload_n dX12_text_59 rfl ?_
        refine g_if_le (tgt := 70) dX12_text_60 (by decide) ⟨by omega, by omega⟩ (fun k279 => ?_) (fun k279 => ?_)
        · refine g_iinc (l1 := [(2, vI (x32_2_10 + (-1))), (0, vR 0)]) dX12_text_70 rfl (by decide) rfl ?_
          refine g_goto (tgt := 32) dX12_text_73 (by decide) ?_
          refine g_forget (l1 := [(0, vR 0), (2, vI (x32_2_10 + (-1)))]) (by intro q hq; simp only [List.mem_cons, List.not_mem_nil, or_false] at hq ⊢; rcases hq with rfl | rfl <;> simp) ?_
          exact ih32_10 (x32_2_10 + (-1)) ⟨by omega, by omega⟩ _ hBc277 (FrM.c (FrM.c FrM.rf hE32_10 rfl) hFc277 rfl) (by have q0 := b0_73 hBc277; omega) (by have q0 := (((hFc277.1 70 rfl).trans ((hE32_10.1 70 rfl).trans ((up_k (by decide)).trans up_same))) : Pc277 0 70 = 0); omega) (by omega) iv278 (by omega)
        · refine g_aload_n dX12_text_63 rfl ?_
          refine g_iconst dX12_text_64 ?_
          refine g_bipush dX12_text_65 (by decide) ?_
          have htd2 := iv278
          have hbt2 := hBc277
          have htok2 : tok Pc277 (Pc277 0 73) 5 44 := Or.inl ⟨rfl, by have q := (rfl : Pc277 0 73 = (Pc277 0 73)); omega⟩
          have hw5 : wt 5 = 1 := by decide
          refine g_vV (av := [vI 5, vI 44]) (o := 0) (st := []) (m_X12_later G Pc277 5 44 (by decide) (by decide) hBc277 (by have q0 := b0_73 hBc277; omega) _ (fun Pc280 hBc280 hFc280 gc280_o gc280_e => ⟨rfl, ?_⟩)) cf_X12_later t_1970 rfl (by decide) rfl rfl rfl (Nat.le_of_ble_eq_true rfl) (by decide) rfl dX12_text_67
          have hpv := htd2.push hbt2 gc280_e hFc280 htok2
          have hpv2 := hpv.2
          have iv281 : TD Pc280 := hpv.1
          refine g_iinc (l1 := [(2, vI (x32_2_10 + (-1))), (0, vR 0)]) dX12_text_70 rfl (by decide) rfl ?_
          refine g_goto (tgt := 32) dX12_text_73 (by decide) ?_
          refine g_forget (l1 := [(0, vR 0), (2, vI (x32_2_10 + (-1)))]) (by intro q hq; simp only [List.mem_cons, List.not_mem_nil, or_false] at hq ⊢; rcases hq with rfl | rfl <;> simp) ?_
          exact ih32_10 (x32_2_10 + (-1)) ⟨by omega, by omega⟩ _ hBc280 (FrM.c (FrM.c (FrM.c FrM.rf hE32_10 rfl) hFc277 rfl) hFc280 rfl) (by have q0 := b0_73 hBc280; omega) (by have q0 := (((hFc280.1 70 rfl).trans ((hFc277.1 70 rfl).trans ((hE32_10.1 70 rfl).trans ((up_k (by decide)).trans up_same)))) : Pc280 0 70 = 0); omega) (by omega) iv281 (by omega)
    refine g_forget (l1 := [(0, vR 0), (2, vI (rc9 - 1))]) (by intro q hq; simp only [List.mem_cons, List.not_mem_nil, or_false] at hq ⊢; rcases hq with rfl | rfl <;> simp) ?_
    exact L32_10 _ (rc9 - 1) ⟨by omega, by omega⟩ _ hB7 FrM.rf (by have q0 := (up_same : (up (up Pc5 0 70 0) 0 73 0) 0 73 = 0); omega) (by have q0 := (((up_k (by decide)).trans up_same) : (up (up Pc5 0 70 0) 0 73 0) 0 70 = 0); omega) (by omega) iv8 (Nat.lt_succ_self _)
  · refine g_iconst dX12_text_8 ?_
    exact g_retI dX12_text_9 rfl (hQ (-1) (by decide) _ hB FrM.rf )
