/-! What the reference answers: X12_put. -/
set_option maxRecDepth 100000 in
set_option maxHeartbeats 4000000 in
theorem f_X12_put (G : GT) (P : PH) (T : TT) (a1 : Int) (h_a1 : (-2147483648) ≤ a1 ∧ a1 ≤ 2147483647) (hB : BdM P) (p_t : P 0 1 ≤ 1596) (z0 : CM T P) (Q : Option PV → PH → Prop) (hQ : ∀ (P1 : PH) (_ : BdM P1) (_ : FrM ([1], [1]) P P1) (_ : P1 0 1 = P 0 1 + 4) (_ : CM (tput T a1 4) P1), Q none P1) : Ct WSM G 1 iX12_put [vR 0, vI a1] P Q := by
  refine Ct.of (by decide) (l0 := [(0, vR 0), (1, vI a1)]) rfl (Nat.le_of_ble_eq_true rfl) ?_
  refine g_bipush dX12_put_0 (by decide) ?_
  refine g_istore_n (l1 := [(2, vI 24), (0, vR 0), (1, vI a1)]) dX12_put_2 (by decide) rfl ?_
  have L3_0 : ∀ (n3_0 : Nat) (x3_2_0 : Int) (h_x3_2_0 : (-8) ≤ x3_2_0 ∧ x3_2_0 ≤ 24) (H3_0 : PH) (hB3_0 : BdM H3_0) (hE3_0 : FrM ([1], [1]) P H3_0) (i3_0_0 : H3_0 0 1 = P 0 1 + (24 - x3_2_0) / 8) (i3_1_0 : x3_2_0 % 8 = 0) (i3_2_0 : CM (tput T a1 ((24 - x3_2_0) / 8).toNat) H3_0) (hm3_0 : (x3_2_0 + 9 : Int).toNat < n3_0), Go WSM G 1 iX12_put 3 [(0, vR 0), (1, vI a1), (2, vI x3_2_0)] [] H3_0 Q := by
    intro n3_0
    induction n3_0 with
    | zero => intro x3_2_0 h_x3_2_0 H3_0 hB3_0 hE3_0 i3_0_0 i3_1_0 i3_2_0 hm3_0; exact absurd hm3_0 (Nat.not_lt_zero _)
    | succ n3_0 ih3_0 =>
    intro x3_2_0 h_x3_2_0 H3_0 hB3_0 hE3_0 i3_0_0 i3_1_0 i3_2_0 hm3_0
    refine g_iload_n dX12_put_3 rfl ?_
    refine g_if_lt (tgt := 39) dX12_put_4 (by decide) ⟨by omega, by omega⟩ (fun k22 => ?_) (fun k22 => ?_)
    · exact g_retV dX12_put_39 rfl (hQ _ hB3_0 (FrM.c FrM.rf hE3_0 rfl) (by have q0 := b0_1 hB3_0; (first | (clear k22; omega) | omega)) (by have q := i3_2_0; rw [show ((24 - x3_2_0) / 8).toNat = 4 by (first | (clear k22; omega) | omega)] at q; exact q))
    · refine g_aload_n dX12_put_7 rfl ?_
      refine m_g0 rfl dX12_put_8 ?_
      refine g_aload_n dX12_put_11 rfl ?_
      refine m_g1 (z := (H3_0 0 1)) rfl dX12_put_12 rfl ?_
      refine g_iload_n dX12_put_15 rfl ?_
      refine g_iload_n dX12_put_16 rfl ?_
      refine g_ishr dX12_put_17 ?_
      refine g_nm (fun b23 e_b23 => ?_)
      have h_b23 := ishr_ir a1 x3_2_0
      rw [← e_b23] at h_b23
      refine g_sipush dX12_put_18 (by decide) ?_
      refine g_iand dX12_put_21 ?_
      refine g_nm (fun b24 e_b24 => ?_)
      have h_b24 := iand_r (x := b23) (y := 255) ⟨by (first | (clear k22; omega) | omega), by (first | (clear k22; omega) | omega)⟩
      rw [← e_b24] at h_b24
      have hw : b24 = iand (ishr a1 (24 - 8 * (((((24 - x3_2_0) / 8).toNat) : Nat) : Int))) 255 := by rw [e_b24, e_b23, show (24 - 8 * (((((24 - x3_2_0) / 8).toNat) : Nat) : Int)) = x3_2_0 by (first | (clear k22; omega) | omega)]
      refine m_s1 dX12_put_22 ⟨by have q0 := b0_1 hB3_0; (first | (clear k22; omega) | omega), by have q0 := b0_1 hB3_0; (first | (clear k22; omega) | omega)⟩ ?_
      have hB25 := ba_1 (z := b24) (k := (H3_0 0 1)) hB3_0 ⟨by (first | (clear k22; omega) | omega), by (first | (clear k22; omega) | omega)⟩
      refine g_aload_n dX12_put_23 rfl ?_
      refine g_dup dX12_put_24 rfl ?_
      refine m_g1 (z := (H3_0 0 1)) rfl dX12_put_25 ((up_o (by decide)).trans rfl) ?_
      refine g_iconst dX12_put_28 ?_
      refine g_iadd dX12_put_29 ?_
      refine m_p1 rfl dX12_put_30 ?_
      have hB26 := bs_1 (z := ((H3_0 0 1) + 1)) hB25 ⟨by have q0 := b0_1 hB3_0; (first | (clear k22; omega) | omega), by have q0 := b0_1 hB3_0; (first | (clear k22; omega) | omega)⟩
      have hcm9 : CM (tput T a1 ((24 - (x3_2_0 + (-8))) / 8).toNat) (up (up H3_0 1 (H3_0 0 1) b24) 0 1 ((H3_0 0 1) + 1)) := by
        rw [show ((24 - (x3_2_0 + (-8))) / 8).toNat = ((24 - x3_2_0) / 8).toNat + 1 by (first | (clear k22; omega) | omega)]
        show CM (tadd (tput T a1 ((24 - x3_2_0) / 8).toNat) (iand (ishr a1 (24 - 8 * (((((24 - x3_2_0) / 8).toNat) : Nat) : Int))) 255)) _
        rw [← hw]
        exact CM.add i3_2_0 up_same ((up_o (by decide)).trans up_same) (fun j hj => ((up_o (by decide)).trans ((up_k hj).trans rfl)))
      refine g_iinc (l1 := [(2, vI (x3_2_0 + (-8))), (0, vR 0), (1, vI a1)]) dX12_put_33 rfl (by decide) rfl ?_
      refine g_goto (tgt := 3) dX12_put_36 (by decide) ?_
      refine g_forget (l1 := [(0, vR 0), (1, vI a1), (2, vI (x3_2_0 + (-8)))]) (by intro q hq; simp only [List.mem_cons, List.not_mem_nil, or_false] at hq ⊢; rcases hq with rfl | rfl | rfl <;> simp) ?_
      exact ih3_0 (x3_2_0 + (-8)) ⟨by (first | (clear k22; omega) | omega), by (first | (clear k22; omega) | omega)⟩ _ hB26 (FrM.s (FrM.a (FrM.c FrM.rf hE3_0 rfl) rfl rfl) rfl) (by have q0 := (up_same : (up (up H3_0 1 (H3_0 0 1) b24) 0 1 ((H3_0 0 1) + 1)) 0 1 = ((H3_0 0 1) + 1)); have q1 := b0_1 hB3_0; (first | (clear k22; omega) | omega)) (by (first | (clear k22; omega) | omega)) (by first | exact hcm9 | exact hNONE) (by (first | (clear k22; omega) | omega))
  refine g_forget (l1 := [(0, vR 0), (1, vI a1), (2, vI 24)]) (by intro q hq; simp only [List.mem_cons, List.not_mem_nil, or_false] at hq ⊢; rcases hq with rfl | rfl | rfl <;> simp) ?_
  exact L3_0 _ 24 (by decide) _ hB FrM.rf (by have q0 := b0_1 hB; omega) (by omega) (by first | exact hcm9 | exact z0) (Nat.lt_succ_self _)
/-! What the reference answers: X12_feed. -/
set_option maxRecDepth 100000 in
set_option maxHeartbeats 4000000 in
theorem f_X12_feed (G : GT) (P : PH) (T : TT) (a1 : Int) (a2 : Int) (a3 : Int) (a4 : Int) (a5 : Int) (h_a1 : (-2147483648) ≤ a1 ∧ a1 ≤ 2147483647) (h_a2 : (-2147483648) ≤ a2 ∧ a2 ≤ 2147483647) (h_a3 : (-2147483648) ≤ a3 ∧ a3 ≤ 2147483647) (h_a4 : (-2147483648) ≤ a4 ∧ a4 ≤ 2147483647) (h_a5 : (-2147483648) ≤ a5 ∧ a5 ≤ 2147483647) (hB : BdM P) (z0 : CM T P) (Q : Option PV → PH → Prop) (hQ : ∀ (r : Int) (_ : (-2147483648) ≤ r ∧ r ≤ 2147483647) (P1 : PH) (_ : BdM P1) (_ : FrM ([1], [1, 28]) P P1) (_ : (P 0 1 ≤ 1580 ∧ r = P 0 1 + 20 ∧ P1 0 1 = P 0 1 + 20) ∨ (1580 < P 0 1 ∧ r = -1 ∧ P1 0 1 = P 0 1)) (_ : CM (ff T a1 a2 a3 a4 a5) P1), Q (some (vI r)) P1) : Ct WSM G 2 iX12_feed [vR 0, vI a1, vI a2, vI a3, vI a4, vI a5] P Q := by
  refine Ct.of (by decide) (l0 := [(0, vR 0), (1, vI a1), (2, vI a2), (3, vI a3), (4, vI a4), (5, vI a5)]) rfl (Nat.le_of_ble_eq_true rfl) ?_
  have ht := z0.1
  refine g_aload_n dX12_feed_0 rfl ?_
  refine m_g1 (z := (P 0 1)) rfl dX12_feed_1 rfl ?_
  refine g_bipush dX12_feed_4 (by decide) ?_
  refine g_iadd dX12_feed_6 ?_
  refine g_sipush dX12_feed_7 (by decide) ?_
  have f1 := b0_1 hB
  refine g_icmp_le (tgt := 19) dX12_feed_10 (by decide) ⟨by have q0 := b0_1 hB; omega, by have q0 := b0_1 hB; omega⟩ (by decide) (fun k2 => ?_) (fun k2 => ?_)
  · refine g_aload_n dX12_feed_19 rfl ?_
    refine g_iload_n dX12_feed_20 rfl ?_
    refine g_vV (av := [vI a1]) (o := 0) (st := []) (f_X12_put G P (T) a1 ⟨by (first | (clear k2; omega) | omega), by (first | (clear k2; omega) | omega)⟩ hB (by have q0 := b0_1 hB; (first | (clear k2; omega) | omega)) (z0) _ (fun Pc3 hBc3 hFc3 gc3_t ec3_0 => ⟨rfl, ?_⟩)) cf_X12_put t_1671 rfl (by decide) rfl rfl rfl (Nat.le_of_ble_eq_true rfl) (by decide) rfl dX12_feed_21
    refine g_aload_n dX12_feed_24 rfl ?_
    refine g_iload_n dX12_feed_25 rfl ?_
    refine g_vV (av := [vI a2]) (o := 0) (st := []) (f_X12_put G Pc3 ((tput T a1 4)) a2 ⟨by (first | (clear k2; omega) | omega), by (first | (clear k2; omega) | omega)⟩ hBc3 (by have q0 := b0_1 hBc3; (first | (clear k2; omega) | omega)) (ec3_0) _ (fun Pc4 hBc4 hFc4 gc4_t ec4_0 => ⟨rfl, ?_⟩)) cf_X12_put t_1671 rfl (by decide) rfl rfl rfl (Nat.le_of_ble_eq_true rfl) (by decide) rfl dX12_feed_26
    refine g_aload_n dX12_feed_29 rfl ?_
    refine g_iload_n dX12_feed_30 rfl ?_
    refine g_vV (av := [vI a3]) (o := 0) (st := []) (f_X12_put G Pc4 ((tput (tput T a1 4) a2 4)) a3 ⟨by (first | (clear k2; omega) | omega), by (first | (clear k2; omega) | omega)⟩ hBc4 (by have q0 := b0_1 hBc4; (first | (clear k2; omega) | omega)) (ec4_0) _ (fun Pc5 hBc5 hFc5 gc5_t ec5_0 => ⟨rfl, ?_⟩)) cf_X12_put t_1671 rfl (by decide) rfl rfl rfl (Nat.le_of_ble_eq_true rfl) (by decide) rfl dX12_feed_31
    refine g_aload_n dX12_feed_34 rfl ?_
    refine g_iload dX12_feed_35 rfl ?_
    refine g_vV (av := [vI a4]) (o := 0) (st := []) (f_X12_put G Pc5 ((tput (tput (tput T a1 4) a2 4) a3 4)) a4 ⟨by (first | (clear k2; omega) | omega), by (first | (clear k2; omega) | omega)⟩ hBc5 (by have q0 := b0_1 hBc5; (first | (clear k2; omega) | omega)) (ec5_0) _ (fun Pc6 hBc6 hFc6 gc6_t ec6_0 => ⟨rfl, ?_⟩)) cf_X12_put t_1671 rfl (by decide) rfl rfl rfl (Nat.le_of_ble_eq_true rfl) (by decide) rfl dX12_feed_37
    refine g_aload_n dX12_feed_40 rfl ?_
    refine g_iload dX12_feed_41 rfl ?_
    refine g_vV (av := [vI a5]) (o := 0) (st := []) (f_X12_put G Pc6 ((tput (tput (tput (tput T a1 4) a2 4) a3 4) a4 4)) a5 ⟨by (first | (clear k2; omega) | omega), by (first | (clear k2; omega) | omega)⟩ hBc6 (by have q0 := b0_1 hBc6; (first | (clear k2; omega) | omega)) (ec6_0) _ (fun Pc7 hBc7 hFc7 gc7_t ec7_0 => ⟨rfl, ?_⟩)) cf_X12_put t_1671 rfl (by decide) rfl rfl rfl (Nat.le_of_ble_eq_true rfl) (by decide) rfl dX12_feed_43
    refine g_aload_n dX12_feed_46 rfl ?_
    refine m_g1 (z := (Pc7 0 1)) rfl dX12_feed_47 rfl ?_
    exact g_retI dX12_feed_50 rfl (hQ (Pc7 0 1) ⟨by have q0 := b0_1 hBc7; (first | (clear k2; omega) | omega), by have q0 := b0_1 hBc7; (first | (clear k2; omega) | omega)⟩ _ hBc7 (FrM.c (FrM.c (FrM.c (FrM.c (FrM.c FrM.rf hFc3 rfl) hFc4 rfl) hFc5 rfl) hFc6 rfl) hFc7 rfl) (by have q0 := b0_1 hBc7; (first | (clear k2; omega) | omega)) (by unfold ff; first | (rw [if_pos (by (first | (clear k2; omega) | omega))]; exact (by first | (rw [show T = (tput (tput (tput (tput (tput T a1 4) a2 4) a3 4) a4 4) a5 4) by (first | (clear k2; omega) | omega)]; exact ec7_0))) | (rw [if_neg (by (first | (clear k2; omega) | omega))]; exact ec7_0)))
  · refine g_aload_n dX12_feed_13 rfl ?_
    refine g_iconst dX12_feed_14 ?_
    refine g_vI (av := [vI 0]) (o := 0) (st := []) (m_X12_refuses G P 0 (by decide) hB  _ (fun rc8 hc8 Pc8 hBc8 hFc8 => ⟨rc8, rfl, ?_⟩)) cf_X12_refuses t_1667 rfl (by decide) rfl rfl rfl (Nat.le_of_ble_eq_true rfl) (by decide) rfl dX12_feed_15
    exact g_retI dX12_feed_18 rfl (hQ rc8 ⟨by (first | (clear k2; omega) | omega), by (first | (clear k2; omega) | omega)⟩ _ hBc8 (FrM.c FrM.rf hFc8 rfl) (by have q0 := (((hFc8.1 1 rfl).trans rfl) : Pc8 0 1 = (P 0 1)); have q1 := b0_1 hB; (first | (clear k2; omega) | omega)) (by unfold ff; first | (rw [if_pos (by (first | (clear k2; omega) | omega))]; exact (CM.fr (F := ([], [28])) z0 (FrM.c FrM.rf hFc8 rfl) rfl)) | (rw [if_neg (by (first | (clear k2; omega) | omega))]; exact (by first | (rw [show (tput (tput (tput (tput (tput T a1 4) a2 4) a3 4) a4 4) a5 4) = T by (first | (clear k2; omega) | omega)]; exact (CM.fr (F := ([], [28])) z0 (FrM.c FrM.rf hFc8 rfl) rfl))))))
/-! What the reference answers: X12_end. -/
set_option maxRecDepth 100000 in
set_option maxHeartbeats 4000000 in
theorem f_X12_end (G : GT) (P : PH) (T : TT) (a1 : Int) (h_a1 : (-2147483648) ≤ a1 ∧ a1 ≤ 2147483647) (hB : BdM P) (z0 : CM T P) (Q : Option PV → PH → Prop) (hQ : ∀ (r : Int) (_ : 0 ≤ r ∧ r ≤ 1) (P1 : PH) (_ : BdM P1) (_ : FrM ([1], [28]) P P1) (_ : (0 ≤ a1 ∧ a1 ≤ P 0 1 ∧ r = 1 ∧ P1 0 1 = a1) ∨ ((a1 < 0 ∨ P 0 1 < a1) ∧ r = 0 ∧ P1 0 1 = P 0 1)) (_ : CM (fe T a1) P1), Q (some (vI r)) P1) : Ct WSM G 2 iX12_end [vR 0, vI a1] P Q := by
  refine Ct.of (by decide) (l0 := [(0, vR 0), (1, vI a1)]) rfl (Nat.le_of_ble_eq_true rfl) ?_
  have ht := z0.1
  refine g_iload_n dX12_end_0 rfl ?_
  refine g_if_lt (tgt := 12) dX12_end_1 (by decide) ⟨by omega, by omega⟩ (fun k1 => ?_) (fun k1 => ?_)
  · refine g_aload_n dX12_end_12 rfl ?_
    refine g_iconst dX12_end_13 ?_
    refine g_vI (av := [vI 0]) (o := 0) (st := []) (m_X12_refuses G P 0 (by decide) hB  _ (fun rc2 hc2 Pc2 hBc2 hFc2 => ⟨rc2, rfl, ?_⟩)) cf_X12_refuses t_1667 rfl (by decide) rfl rfl rfl (Nat.le_of_ble_eq_true rfl) (by decide) rfl dX12_end_14
    refine g_if_lt (tgt := 24) dX12_end_17 (by decide) ⟨by omega, by omega⟩ (fun k3 => ?_) (fun k3 => by exfalso; omega)
    refine g_iconst dX12_end_24 ?_
    exact g_retZ dX12_end_25 rfl (by decide) (hQ 0 (by decide) _ hBc2 (FrM.c FrM.rf hFc2 rfl) (by have q0 := (((hFc2.1 1 rfl).trans rfl) : Pc2 0 1 = (P 0 1)); have q1 := b0_1 hB; (first | (clear k3; omega) | omega)) (by unfold fe; first | (rw [if_neg (by (first | (clear k3; omega) | omega))]; exact (CM.fr (F := ([], [28])) z0 (FrM.c FrM.rf hFc2 rfl) rfl)) | (rw [if_pos (by (first | (clear k3; omega) | omega))]; exact z0.cut (by (first | (clear k3; omega) | omega)) ((hFc2.1 1 rfl).trans rfl) (fun j => ((congrFun (hFc2.2 1 rfl rfl) _).trans rfl)))))
  · refine g_iload_n dX12_end_4 rfl ?_
    refine g_aload_n dX12_end_5 rfl ?_
    refine m_g1 (z := (P 0 1)) rfl dX12_end_6 rfl ?_
    have f4 := b0_1 hB
    refine g_icmp_le (tgt := 26) dX12_end_9 (by decide) ⟨by omega, by omega⟩ ⟨by have q0 := b0_1 hB; omega, by have q0 := b0_1 hB; omega⟩ (fun k5 => ?_) (fun k5 => ?_)
    · refine g_aload_n dX12_end_26 rfl ?_
      refine g_iload_n dX12_end_27 rfl ?_
      refine m_p1 rfl dX12_end_28 ?_
      have hB6 := bs_1 (z := a1) hB ⟨by (first | (clear k5; omega) | omega), by (first | (clear k5; omega) | omega)⟩
      refine g_iconst dX12_end_31 ?_
      exact g_retZ dX12_end_32 rfl (by decide) (hQ 1 (by decide) _ hB6 (FrM.s FrM.rf rfl) (by have q0 := (up_same : (up P 0 1 a1) 0 1 = a1); (first | (clear k5; omega) | omega)) (by unfold fe; first | (rw [if_neg (by (first | (clear k5; omega) | omega))]; exact hNONE) | (rw [if_pos (by (first | (clear k5; omega) | omega))]; exact z0.cut (by (first | (clear k5; omega) | omega)) up_same (fun j => ((up_o (by decide)).trans rfl)))))
    · refine g_aload_n dX12_end_12 rfl ?_
      refine g_iconst dX12_end_13 ?_
      refine g_vI (av := [vI 0]) (o := 0) (st := []) (m_X12_refuses G P 0 (by decide) hB  _ (fun rc7 hc7 Pc7 hBc7 hFc7 => ⟨rc7, rfl, ?_⟩)) cf_X12_refuses t_1667 rfl (by decide) rfl rfl rfl (Nat.le_of_ble_eq_true rfl) (by decide) rfl dX12_end_14
      refine g_if_lt (tgt := 24) dX12_end_17 (by decide) ⟨by (first | (clear k5; omega) | omega), by (first | (clear k5; omega) | omega)⟩ (fun k8 => ?_) (fun k8 => by exfalso; (first | (clear k5; omega) | omega))
      refine g_iconst dX12_end_24 ?_
      exact g_retZ dX12_end_25 rfl (by decide) (hQ 0 (by decide) _ hBc7 (FrM.c FrM.rf hFc7 rfl) (by have q0 := (((hFc7.1 1 rfl).trans rfl) : Pc7 0 1 = (P 0 1)); have q1 := b0_1 hB; (first | (clear k5 k8; omega) | (clear k5; omega) | (clear k8; omega) | omega)) (by unfold fe; first | (rw [if_neg (by (first | (clear k5 k8; omega) | (clear k5; omega) | (clear k8; omega) | omega))]; exact (CM.fr (F := ([], [28])) z0 (FrM.c FrM.rf hFc7 rfl) rfl)) | (rw [if_pos (by (first | (clear k5 k8; omega) | (clear k5; omega) | (clear k8; omega) | omega))]; exact z0.cut (by (first | (clear k5 k8; omega) | (clear k5; omega) | (clear k8; omega) | omega)) ((hFc7.1 1 rfl).trans rfl) (fun j => ((congrFun (hFc7.2 1 rfl rfl) _).trans rfl)))))
