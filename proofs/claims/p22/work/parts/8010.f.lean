/-! What the reference answers: X12_put. -/
set_option maxRecDepth 100000 in
set_option maxHeartbeats 4000000 in
theorem f_X12_put (G : GT) (P : PH) (T : TT) (a1 : Int) (h_a1 : (-2147483648) ≤ a1 ∧ a1 ≤ 2147483647) (hB : BdM P) (p_t : P 0 1 ≤ 1596) (z0 : CM T P) (Q : Option PV → PH → Prop) (hQ : ∀ (P1 : PH) (_ : BdM P1) (_ : FrM ([1], [1]) P P1) (_ : P1 0 1 = P 0 1 + 4) (_ : CM (tput T a1 4) P1), Q none P1) : Ct WSM G 1 iX12_put [vR 0, vI a1] P Q := by
  refine Ct.of (by decide) (l0 := [(0, vR 0), (1, vI a1)]) rfl (Nat.le_of_ble_eq_true rfl) ?_
  refine g_bipush dX12_put_0 (by decide) ?_
  refine g_istore_n (l1 := [(2, vI 24), (0, vR 0), (1, vI a1)]) dX12_put_2 (by decide) rfl ?_
  have L3_0 : ∀ (n3_0 : Nat) (x3_2_0 : Int) (h_x3_2_0 : (-8) ≤ x3_2_0 ∧ x3_2_0 ≤ 24) (H3_0 : PH) (hB3_0 : BdM H3_0) (hE3_0 : FrM ([1], [1]) P H3_0) (i3_0_0 : H3_0 0 1 = P 0 1 + (24 - x3_2_0) / 8) (i3_1_0 : x3_2_0 % 8 = 0) (i3_2_0 : CM (tput T a1 ((24 - x3_2_0) / 8).toNat) H3_0) (hm3_0 : (x3_2_0 + 9 : Int).toNat < n3_0), Go WSM G 1 iX12_put 3 [(0, vR 0), (1, vI a1), (2, vI x3_2_0)] [] H3_0 Q := by
    intro n3_0
    induction n3_0 with
    | zero => intro x3_2_0 h_x3_2_0 H3_0 hB3_0 hE3_0 i3_0_0 i3_1_0 i3_2_0 hm3_0; exact absurd hm3_0 (Nat.not_lt_zero _)
    | succ n3_0 ih3_0 =>
    intro x3_2_0 h_x3_2_0 H3_0 hB3_0 hE3_0 i3_0_0 i3_1_0 i3_2_0 hm3_0
    refine g_iload_n dX12_put_3 rfl ?_
    refine g_if_lt (tgt := 39) dX12_put_4 (by decide) ⟨by omega, by omega⟩ (fun k22 => ?_) (fun k22 => ?_)
    · exact g_retV dX12_put_39 rfl (hQ _ hB3_0 (FrM.c FrM.rf hE3_0 rfl) (by have q0 := b0_1 hB3_0; (omega)) (by have q := i3_2_0; rw [show ((24 - x3_2_0) / 8).toNat = 4 by (omega)] at q; exact q))
    · refine g_aload_n dX12_put_7 rfl ?_
      refine m_g0 rfl dX12_put_8 ?_
      refine g_aload_n dX12_put_11 rfl ?_
      refine m_g1 (z := (H3_0 0 1)) rfl dX12_put_12 rfl ?_
      refine g_iload_n dX12_put_15 rfl ?_
      refine g_iload_n dX12_put_16 rfl ?_
      refine g_ishr dX12_put_17 ?_
      refine g_nm (fun b23 e_b23 => ?_)
      have h_b23 := ishr_ir a1 x3_2_0
      rw [← e_b23] at h_b23
      refine g_sipush dX12_put_18 (by decide) ?_
      refine g_iand dX12_put_21 ?_
      refine g_nm (fun b24 e_b24 => ?_)
      have h_b24 := iand_r (x := b23) (y := 255) ⟨by (clear k22; omega), by (clear k22; omega)⟩
      rw [← e_b24] at h_b24
      have hw : b24 = iand (ishr a1 (24 - 8 * (((((24 - x3_2_0) / 8).toNat) : Nat) : Int))) 255 := by rw [e_b24, e_b23, show (24 - 8 * (((((24 - x3_2_0) / 8).toNat) : Nat) : Int)) = x3_2_0 by (clear k22; omega)]
      refine m_s1 dX12_put_22 ⟨by have q0 := b0_1 hB3_0; (clear k22; omega), by have q0 := b0_1 hB3_0; (clear k22; omega)⟩ ?_
      have hB25 := ba_1 (z := b24) (k := (H3_0 0 1)) hB3_0 ⟨by (clear k22; omega), by (clear k22; omega)⟩
      refine g_aload_n dX12_put_23 rfl ?_
      refine g_dup dX12_put_24 rfl ?_
      refine m_g1 (z := (H3_0 0 1)) rfl dX12_put_25 ((up_o (by decide)).trans rfl) ?_
      refine g_iconst dX12_put_28 ?_
      refine g_iadd dX12_put_29 ?_
      refine m_p1 rfl dX12_put_30 ?_
      have hB26 := bs_1 (z := ((H3_0 0 1) + 1)) hB25 ⟨by have q0 := b0_1 hB3_0; (clear k22; omega), by have q0 := b0_1 hB3_0; (omega)⟩
      have hcm9 : CM (tput T a1 ((24 - (x3_2_0 + (-8))) / 8).toNat) (up (up H3_0 1 (H3_0 0 1) b24) 0 1 ((H3_0 0 1) + 1)) := by
        rw [show ((24 - (x3_2_0 + (-8))) / 8).toNat = ((24 - x3_2_0) / 8).toNat + 1 by (clear k22; omega)]
        show CM (tadd (tput T a1 ((24 - x3_2_0) / 8).toNat) (iand (ishr a1 (24 - 8 * (((((24 - x3_2_0) / 8).toNat) : Nat) : Int))) 255)) _
        rw [← hw]
        exact CM.add i3_2_0 up_same ((up_o (by decide)).trans up_same) (fun j hj => ((up_o (by decide)).trans ((up_k hj).trans rfl)))
      refine g_iinc (l1 := [(2, vI (x3_2_0 + (-8))), (0, vR 0), (1, vI a1)]) dX12_put_33 rfl (by decide) rfl ?_
      refine g_goto (tgt := 3) dX12_put_36 (by decide) ?_
      refine g_forget (l1 := [(0, vR 0), (1, vI a1), (2, vI (x3_2_0 + (-8)))]) (by intro q hq; simp only [List.mem_cons, List.not_mem_nil, or_false] at hq ⊢; rcases hq with rfl | rfl | rfl <;> simp) ?_
      exact ih3_0 (x3_2_0 + (-8)) ⟨by (omega), by (clear k22; omega)⟩ _ hB26 (FrM.s (FrM.a (FrM.c FrM.rf hE3_0 rfl) rfl rfl) rfl) (by have q0 := (up_same : (up (up H3_0 1 (H3_0 0 1) b24) 0 1 ((H3_0 0 1) + 1)) 0 1 = ((H3_0 0 1) + 1)); have q1 := b0_1 hB3_0; (clear k22; omega)) (by (clear k22; omega)) (by first | exact hcm9 | exact hNONE) (by (clear k22; omega))
  refine g_forget (l1 := [(0, vR 0), (1, vI a1), (2, vI 24)]) (by intro q hq; simp only [List.mem_cons, List.not_mem_nil, or_false] at hq ⊢; rcases hq with rfl | rfl | rfl <;> simp) ?_
  exact L3_0 _ 24 (by decide) _ hB FrM.rf (by have q0 := b0_1 hB; omega) (by omega) (by first | exact hcm9 | exact z0) (Nat.lt_succ_self _)
/-! What the reference answers: X12_feed. -/
set_option maxRecDepth 100000 in
set_option maxHeartbeats 4000000 in
theorem f_X12_feed (G : GT) (P : PH) (T : TT) (a1 : Int) (a2 : Int) (a3 : Int) (a4 : Int) (a5 : Int) (h_a1 : (-2147483648) ≤ a1 ∧ a1 ≤ 2147483647) (h_a2 : (-2147483648) ≤ a2 ∧ a2 ≤ 2147483647) (h_a3 : (-2147483648) ≤ a3 ∧ a3 ≤ 2147483647) (h_a4 : (-2147483648) ≤ a4 ∧ a4 ≤ 2147483647) (h_a5 : (-2147483648) ≤ a5 ∧ a5 ≤ 2147483647) (hB : BdM P) (z0 : CM T P) (Q : Option PV → PH → Prop) (hQ : ∀ (r : Int) (_ : (-2147483648) ≤ r ∧ r ≤ 2147483647) (P1 : PH) (_ : BdM P1) (_ : FrM ([1], [1, 28]) P P1) (_ : (P 0 1 ≤ 1580 ∧ r = P 0 1 + 20 ∧ P1 0 1 = P 0 1 + 20) ∨ (1580 < P 0 1 ∧ r = -1 ∧ P1 0 1 = P 0 1)) (_ : CM (ff T a1 a2 a3 a4 a5) P1), Q (some (vI r)) P1) : Ct WSM G 2 iX12_feed [vR 0, vI a1, vI a2, vI a3, vI a4, vI a5] P Q := by
  refine Ct.of (by decide) (l0 := [(0, vR 0), (1, vI a1), (2, vI a2), (3, vI a3), (4, vI a4), (5, vI a5)]) rfl (Nat.le_of_ble_eq_true rfl) ?_
  have ht := z0.1
  refine g_aload_n dX12_feed_0 rfl ?_
  refine m_g1 (z := (P 0 1)) rfl dX12_feed_1 rfl ?_
  refine g_bipush dX12_feed_4 (by decide) ?_
  refine g_iadd dX12_feed_6 ?_
  refine g_sipush dX12_feed_7 (by decide) ?_
  have f1 := b0_1 hB
  refine g_icmp_le (tgt := 19) dX12_feed_10 (by decide) ⟨by have q0 := b0_1 hB; omega, by have q0 := b0_1 hB; omega⟩ (by decide) (fun k2 => ?_) (fun k2 => ?_)
  · refine g_aload_n dX12_feed_19 rfl ?_
    refine g_iload_n dX12_feed_20 rfl ?_
    refine g_vV (av := [vI a1]) (o := 0) (st := []) (f_X12_put G P (T) a1 ⟨by (clear k2; omega), by (clear k2; omega)⟩ hB (by have q0 := b0_1 hB; (omega)) (z0) _ (fun Pc3 hBc3 hFc3 gc3_t ec3_0 => ⟨rfl, ?_⟩)) cf_X12_put t_1671 rfl (by decide) rfl rfl rfl (Nat.le_of_ble_eq_true rfl) (by decide) rfl dX12_feed_21
    refine g_aload_n dX12_feed_24 rfl ?_
    refine g_iload_n dX12_feed_25 rfl ?_
    refine g_vV (av := [vI a2]) (o := 0) (st := []) (f_X12_put G Pc3 ((tput T a1 4)) a2 ⟨by (clear k2; omega), by (clear k2; omega)⟩ hBc3 (by have q0 := b0_1 hBc3; (omega)) (ec3_0) _ (fun Pc4 hBc4 hFc4 gc4_t ec4_0 => ⟨rfl, ?_⟩)) cf_X12_put t_1671 rfl (by decide) rfl rfl rfl (Nat.le_of_ble_eq_true rfl) (by decide) rfl dX12_feed_26
    refine g_aload_n dX12_feed_29 rfl ?_
    refine g_iload_n dX12_feed_30 rfl ?_
    refine g_vV (av := [vI a3]) (o := 0) (st := []) (f_X12_put G Pc4 ((tput (tput T a1 4) a2 4)) a3 ⟨by (clear k2; omega), by (clear k2; omega)⟩ hBc4 (by have q0 := b0_1 hBc4; (omega)) (ec4_0) _ (fun Pc5 hBc5 hFc5 gc5_t ec5_0 => ⟨rfl, ?_⟩)) cf_X12_put t_1671 rfl (by decide) rfl rfl rfl (Nat.le_of_ble_eq_true rfl) (by decide) rfl dX12_feed_31
    refine g_aload_n dX12_feed_34 rfl ?_
    refine g_iload dX12_feed_35 rfl ?_
    refine g_vV (av := [vI a4]) (o := 0) (st := []) (f_X12_put G Pc5 ((tput (tput (tput T a1 4) a2 4) a3 4)) a4 ⟨by (clear k2; omega), by (clear k2; omega)⟩ hBc5 (by have q0 := b0_1 hBc5; (omega)) (ec5_0) _ (fun Pc6 hBc6 hFc6 gc6_t ec6_0 => ⟨rfl, ?_⟩)) cf_X12_put t_1671 rfl (by decide) rfl rfl rfl (Nat.le_of_ble_eq_true rfl) (by decide) rfl dX12_feed_37
    refine g_aload_n dX12_feed_40 rfl ?_
    refine g_iload dX12_feed_41 rfl ?_
    refine g_vV (av := [vI a5]) (o := 0) (st := []) (f_X12_put G Pc6 ((tput (tput (tput (tput T a1 4) a2 4) a3 4) a4 4)) a5 ⟨by (clear k2; omega), by (clear k2; omega)⟩ hBc6 (by have q0 := b0_1 hBc6; (omega)) (ec6_0) _ (fun Pc7 hBc7 hFc7 gc7_t ec7_0 => ⟨rfl, ?_⟩)) cf_X12_put t_1671 rfl (by decide) rfl rfl rfl (Nat.le_of_ble_eq_true rfl) (by decide) rfl dX12_feed_43
    refine g_aload_n dX12_feed_46 rfl ?_
    refine m_g1 (z := (Pc7 0 1)) rfl dX12_feed_47 rfl ?_
    exact g_retI dX12_feed_50 rfl (hQ (Pc7 0 1) ⟨by have q0 := b0_1 hBc7; (clear k2; omega), by have q0 := b0_1 hBc7; (clear k2; omega)⟩ _ hBc7 (FrM.c (FrM.c (FrM.c (FrM.c (FrM.c FrM.rf hFc3 rfl) hFc4 rfl) hFc5 rfl) hFc6 rfl) hFc7 rfl) (by have q0 := b0_1 hBc7; (clear k2; omega)) (by unfold ff; first | (rw [if_pos (by (first | (clear k2; omega) | omega))]; exact (by first | (rw [show T = (tput (tput (tput (tput (tput T a1 4) a2 4) a3 4) a4 4) a5 4) by (first | (clear k2; omega) | omega)]; exact ec7_0))) | (rw [if_neg (by (omega))]; exact ec7_0)))
  · refine g_aload_n dX12_feed_13 rfl ?_
    refine g_iconst dX12_feed_14 ?_
    refine g_vI (av := [vI 0]) (o := 0) (st := []) (m_X12_refuses G P 0 (by decide) hB  _ (fun rc8 hc8 Pc8 hBc8 hFc8 => ⟨rc8, rfl, ?_⟩)) cf_X12_refuses t_1667 rfl (by decide) rfl rfl rfl (Nat.le_of_ble_eq_true rfl) (by decide) rfl dX12_feed_15
    exact g_retI dX12_feed_18 rfl (hQ rc8 ⟨by (clear k2; omega), by (clear k2; omega)⟩ _ hBc8 (FrM.c FrM.rf hFc8 rfl) (by have q0 := (((hFc8.1 1 rfl).trans rfl) : Pc8 0 1 = (P 0 1)); have q1 := b0_1 hB; (omega)) (by unfold ff; first | (rw [if_pos (by (omega))]; exact (CM.fr (F := ([], [28])) z0 (FrM.c FrM.rf hFc8 rfl) rfl)) | (rw [if_neg (by (first | (clear k2; omega) | omega))]; exact (by first | (rw [show (tput (tput (tput (tput (tput T a1 4) a2 4) a3 4) a4 4) a5 4) = T by (first | (clear k2; omega) | omega)]; exact (CM.fr (F := ([], [28])) z0 (FrM.c FrM.rf hFc8 rfl) rfl))))))
/-! What the reference answers: X12_end. -/
set_option maxRecDepth 100000 in
set_option maxHeartbeats 4000000 in
theorem f_X12_end (G : GT) (P : PH) (T : TT) (a1 : Int) (h_a1 : (-2147483648) ≤ a1 ∧ a1 ≤ 2147483647) (hB : BdM P) (z0 : CM T P) (Q : Option PV → PH → Prop) (hQ : ∀ (r : Int) (_ : 0 ≤ r ∧ r ≤ 1) (P1 : PH) (_ : BdM P1) (_ : FrM ([1], [28]) P P1) (_ : (0 ≤ a1 ∧ a1 ≤ P 0 1 ∧ r = 1 ∧ P1 0 1 = a1) ∨ ((a1 < 0 ∨ P 0 1 < a1) ∧ r = 0 ∧ P1 0 1 = P 0 1)) (_ : CM (fe T a1) P1), Q (some (vI r)) P1) : Ct WSM G 2 iX12_end [vR 0, vI a1] P Q := by
  refine Ct.of (by decide) (l0 := [(0, vR 0), (1, vI a1)]) rfl (Nat.le_of_ble_eq_true rfl) ?_
  have ht := z0.1
  refine g_iload_n dX12_end_0 rfl ?_
  refine g_if_lt (tgt := 12) dX12_end_1 (by decide) ⟨by omega, by omega⟩ (fun k1 => ?_) (fun k1 => ?_)
  · refine g_aload_n dX12_end_12 rfl ?_
    refine g_iconst dX12_end_13 ?_
    refine g_vI (av := [vI 0]) (o := 0) (st := []) (m_X12_refuses G P 0 (by decide) hB  _ (fun rc2 hc2 Pc2 hBc2 hFc2 => ⟨rc2, rfl, ?_⟩)) cf_X12_refuses t_1667 rfl (by decide) rfl rfl rfl (Nat.le_of_ble_eq_true rfl) (by decide) rfl dX12_end_14
    refine g_if_lt (tgt := 24) dX12_end_17 (by decide) ⟨by omega, by omega⟩ (fun k3 => ?_) (fun k3 => by exfalso; omega)
    refine g_iconst dX12_end_24 ?_
    exact g_retZ dX12_end_25 rfl (by decide) (hQ 0 (by decide) _ hBc2 (FrM.c FrM.rf hFc2 rfl) (by have q0 := (((hFc2.1 1 rfl).trans rfl) : Pc2 0 1 = (P 0 1)); have q1 := b0_1 hB; (clear k3; omega)) (by unfold fe; first | (rw [if_neg (by (clear k3; omega))]; exact (CM.fr (F := ([], [28])) z0 (FrM.c FrM.rf hFc2 rfl) rfl)) | (rw [if_pos (by (first | (clear k3; omega) | omega))]; exact z0.cut (by (first | (clear k3; omega) | omega)) ((hFc2.1 1 rfl).trans rfl) (fun j => ((congrFun (hFc2.2 1 rfl rfl) _).trans rfl)))))
  · refine g_iload_n dX12_end_4 rfl ?_
    refine g_aload_n dX12_end_5 rfl ?_
    refine m_g1 (z := (P 0 1)) rfl dX12_end_6 rfl ?_
    have f4 := b0_1 hB
    refine g_icmp_le (tgt := 26) dX12_end_9 (by decide) ⟨by omega, by omega⟩ ⟨by have q0 := b0_1 hB; omega, by have q0 := b0_1 hB; omega⟩ (fun k5 => ?_) (fun k5 => ?_)
    · refine g_aload_n dX12_end_26 rfl ?_
      refine g_iload_n dX12_end_27 rfl ?_
      refine m_p1 rfl dX12_end_28 ?_
      have hB6 := bs_1 (z := a1) hB ⟨by (clear k5; omega), by (omega)⟩
      refine g_iconst dX12_end_31 ?_
      exact g_retZ dX12_end_32 rfl (by decide) (hQ 1 (by decide) _ hB6 (FrM.s FrM.rf rfl) (by have q0 := (up_same : (up P 0 1 a1) 0 1 = a1); (omega)) (by unfold fe; first | (rw [if_neg (by (first | (clear k5; omega) | omega))]; exact hNONE) | (rw [if_pos (by (omega))]; exact z0.cut (by (omega)) up_same (fun j => ((up_o (by decide)).trans rfl)))))
    · refine g_aload_n dX12_end_12 rfl ?_
      refine g_iconst dX12_end_13 ?_
      refine g_vI (av := [vI 0]) (o := 0) (st := []) (m_X12_refuses G P 0 (by decide) hB  _ (fun rc7 hc7 Pc7 hBc7 hFc7 => ⟨rc7, rfl, ?_⟩)) cf_X12_refuses t_1667 rfl (by decide) rfl rfl rfl (Nat.le_of_ble_eq_true rfl) (by decide) rfl dX12_end_14
      refine g_if_lt (tgt := 24) dX12_end_17 (by decide) ⟨by (clear k5; omega), by (clear k5; omega)⟩ (fun k8 => ?_) (fun k8 => by exfalso; (clear k5; omega))
      refine g_iconst dX12_end_24 ?_
      exact g_retZ dX12_end_25 rfl (by decide) (hQ 0 (by decide) _ hBc7 (FrM.c FrM.rf hFc7 rfl) (by have q0 := (((hFc7.1 1 rfl).trans rfl) : Pc7 0 1 = (P 0 1)); have q1 := b0_1 hB; (clear k8; omega)) (by unfold fe; first | (rw [if_neg (by (clear k8; omega))]; exact (CM.fr (F := ([], [28])) z0 (FrM.c FrM.rf hFc7 rfl) rfl)) | (rw [if_pos (by (first | (clear k5 k8; omega) | (clear k5; omega) | (clear k8; omega) | omega))]; exact z0.cut (by (first | (clear k5 k8; omega) | (clear k5; omega) | (clear k8; omega) | omega)) ((hFc7.1 1 rfl).trans rfl) (fun j => ((congrFun (hFc7.2 1 rfl rfl) _).trans rfl)))))
/-! What the class answers: J9_floorMod_7cf53. -/
set_option maxRecDepth 100000 in
set_option maxHeartbeats 4000000 in
theorem f_J9_floorMod_7cf53 (G : GT) (P : PH) (a1 : Int) (a2 : Int) (h_a1 : (-2147483648) ≤ a1 ∧ a1 ≤ 2147483647) (h_a2 : (-2147483648) ≤ a2 ∧ a2 ≤ 2147483647) (hB : BdX P) (p_p : 0 < a2) (Q : Option PV → PH → Prop) (hQ : ∀ (r : Int) (_ : (-2147483648) ≤ r ∧ r ≤ 2147483647) (_ : 0 ≤ r ∧ r < a2) (_ : r = a1 % a2), Q (some (vI r)) P) : Ct WSX G 1 iJ9_floorMod_7cf53 [vI a1, vI a2] P Q := by
  refine Ct.ofF (by decide +kernel) (l0 := [(0, vI a1), (1, vI a2)]) rfl (Nat.le_of_ble_eq_true rfl) ?_
  have hs := irem_sgn (x := a1) (y := a2) h_a1 ⟨p_p, by omega⟩
  have hr := irem_any (x := a1) (y := a2) h_a1 ⟨p_p, by (clear hs; omega)⟩
  have hxs := ixor_sgn (x := a1) (y := a2) h_a1 ⟨by (clear hs; omega), by (clear hs; omega)⟩
  refine g_iload_n dJ9_floorMod_7cf53_0 rfl ?_
  refine g_iload_n dJ9_floorMod_7cf53_1 rfl ?_
  refine g_irem dJ9_floorMod_7cf53_2 ⟨⟨by (clear hs hxs; omega), by (clear hs hxs; omega)⟩, by (clear hs hxs; omega)⟩ ?_
  refine g_nm (fun b1 e_b1 => ?_)
  have h_b1 := irem_ir a1 a2
  rw [← e_b1] at h_b1
  refine g_istore_n (l1 := [(2, vI b1), (0, vI a1), (1, vI a2)]) dJ9_floorMod_7cf53_3 (by decide) rfl ?_
  refine g_iload_n dJ9_floorMod_7cf53_4 rfl ?_
  refine g_iload_n dJ9_floorMod_7cf53_5 rfl ?_
  refine g_ixor dJ9_floorMod_7cf53_6 ?_
  refine g_nm (fun b2 e_b2 => ?_)
  have h_b2 := ixor_ir a1 a2
  rw [← e_b2] at h_b2
  refine g_if_ge (tgt := 18) dJ9_floorMod_7cf53_7 (by decide) ⟨by (clear hs hxs; omega), by (clear hs hxs; omega)⟩ (fun k3 => ?_) (fun k3 => ?_)
  · refine g_iload_n dJ9_floorMod_7cf53_18 rfl ?_
    exact g_retI dJ9_floorMod_7cf53_19 rfl (hQ b1 ⟨by (clear hs hxs k3; omega), by (clear hs hxs k3; omega)⟩ (by (omega)) (by obtain ⟨q, hq⟩ := irem_q (x := a1) (y := a2) h_a1 ⟨p_p, by (clear hs hxs k3; omega)⟩; rw [← e_b1] at hq; exact emod_u hq (by (omega)) (by (clear hs hxs k3; omega))))
  · refine g_iload_n dJ9_floorMod_7cf53_10 rfl ?_
    refine g_if_eq (tgt := 18) dJ9_floorMod_7cf53_11 (by decide) ⟨by (clear hs hxs k3; omega), by (clear hs hxs k3; omega)⟩ (fun k4 => ?_) (fun k4 => ?_)
    · refine g_iload_n dJ9_floorMod_7cf53_18 rfl ?_
      exact g_retI dJ9_floorMod_7cf53_19 rfl (hQ b1 ⟨by (clear hs hxs k3 k4; omega), by (clear hs hxs k3 k4; omega)⟩ (by (clear hs hxs k3; omega)) (by obtain ⟨q, hq⟩ := irem_q (x := a1) (y := a2) h_a1 ⟨p_p, by (clear hs hxs k3 k4; omega)⟩; rw [← e_b1] at hq; exact emod_u hq (by (clear hs hxs k3; omega)) (by (clear hs hxs k3 k4; omega))))
    · refine g_iload_n dJ9_floorMod_7cf53_14 rfl ?_
      refine g_iload_n dJ9_floorMod_7cf53_15 rfl ?_
      refine g_iadd dJ9_floorMod_7cf53_16 ?_
      exact g_retI dJ9_floorMod_7cf53_17 rfl (hQ (b1 + a2) ⟨by (clear hs hxs k3 k4; omega), by (omega)⟩ (by (omega)) (by obtain ⟨q, hq⟩ := irem_q (x := a1) (y := a2) h_a1 ⟨p_p, by (clear hs hxs k3 k4; omega)⟩; rw [← e_b1] at hq; exact emod_u (q := q - 1) (by rw [Int.mul_sub, Int.mul_one]; (clear hs hxs k3 k4; omega)) (by (clear hs hxs k3 k4; omega)) (by (omega))))
/-! What the reference answers: X12_begin. -/
set_option maxRecDepth 100000 in
set_option maxHeartbeats 4000000 in
theorem f_X12_begin (G : GT) (P : PH) (A : PH) (hB : BdM P) (p_im : P 0 44 = 1) (z0 : AM A P) (Q : Option PV → PH → Prop) (hQ : ∀ (P1 : PH) (_ : BdM P1) (_ : FrM ([60, 92], [35, 36, 37, 38, 39]) P P1) (_ : P1 35 0 = P 13 (P 0 13)) (_ : (P 0 44 = 0 ∧ P1 37 0 = 0) ∨ P 0 44 = 1) (_ : P1 38 0 = P 15 (P 0 13)) (_ : P1 39 0 = 0 ∧ P1 0 60 = 0 ∧ P1 0 92 = 0) (_ : AM (aBeg A (P 13 (P 0 13)) (P 15 (P 0 13))) P1), Q none P1) : Ct WSM G 1 iX12_begin [vR 0] P Q := by
  refine Ct.of (by decide) (l0 := [(0, vR 0)]) rfl (Nat.le_of_ble_eq_true rfl) ?_
  have q13 := b0_13 hB
  have q13a := bl_13 (k := P 0 13) hB
  refine g_aload_n dX12_begin_0 rfl ?_
  refine m_g53 rfl dX12_begin_1 ?_
  refine g_iconst dX12_begin_4 ?_
  refine g_aload_n dX12_begin_5 rfl ?_
  refine m_g25 rfl dX12_begin_6 ?_
  refine g_aload_n dX12_begin_9 rfl ?_
  refine m_g13 (z := (P 0 13)) rfl dX12_begin_10 rfl ?_
  refine m_l13 (z := (P 13 (P 0 13))) dX12_begin_13 ⟨by have q0 := b0_13 hB; omega, by have q0 := b0_13 hB; omega⟩ rfl ?_
  refine m_s35 dX12_begin_14 (by decide) ?_
  have hB1 := ba_35 (z := (P 13 (P 0 13))) (k := 0) hB ⟨by have q0 := bl_13 (k := (P 0 13)) hB; omega, by have q0 := bl_13 (k := (P 0 13)) hB; omega⟩
  refine g_iconst dX12_begin_15 ?_
  refine g_istore_n (l1 := [(1, vI 0), (0, vR 0)]) dX12_begin_16 (by decide) rfl ?_
  have L17_1 : ∀ (n17_1 : Nat) (x17_1_1 : Int) (h_x17_1_1 : 0 ≤ x17_1_1 ∧ x17_1_1 ≤ 12) (H17_1 : PH) (hB17_1 : BdM H17_1) (hE17_1 : FrM ([], [36]) (up P 35 0 (P 13 (P 0 13))) H17_1) (i17_0_1 : ∀ q : Int, 0 ≤ q → q < x17_1_1 → H17_1 36 q = q) (hm17_1 : ((13 - x17_1_1) : Int).toNat < n17_1), Go WSM G 1 iX12_begin 17 [(0, vR 0), (1, vI x17_1_1)] [] H17_1 Q := by
    intro n17_1
    induction n17_1 with
    | zero => intro x17_1_1 h_x17_1_1 H17_1 hB17_1 hE17_1 i17_0_1 hm17_1; exact absurd hm17_1 (Nat.not_lt_zero _)
    | succ n17_1 ih17_1 =>
    intro x17_1_1 h_x17_1_1 H17_1 hB17_1 hE17_1 i17_0_1 hm17_1
    refine g_iload_n dX12_begin_17 rfl ?_
    refine g_bipush dX12_begin_18 (by decide) ?_
    refine g_icmp_ge (tgt := 36) dX12_begin_20 (by decide) ⟨by omega, by omega⟩ (by decide) (fun k57 => ?_) (fun k57 => ?_)
    · refine g_aload_n dX12_begin_36 rfl ?_
      refine m_g55 rfl dX12_begin_37 ?_
      refine g_iconst dX12_begin_40 ?_
      refine g_aload_n dX12_begin_41 rfl ?_
      refine m_g44 (z := (P 0 44)) rfl dX12_begin_42 ((hE17_1.1 44 rfl).trans ((up_o (by decide)).trans rfl)) ?_
      have f58 := b0_44 hB
      refine g_if_eq (tgt := 54) dX12_begin_45 (by decide) ⟨by have q0 := b0_44 hB; omega, by have q0 := b0_44 hB; omega⟩ (fun k59 => ?_) (fun k59 => ?_)
      · refine g_iconst dX12_begin_54 ?_
        refine m_s37 dX12_begin_55 (by decide) ?_
        have hB60 := ba_37 (z := 0) (k := 0) hB17_1 (by decide)
        refine g_aload_n dX12_begin_56 rfl ?_
        refine m_g56 rfl dX12_begin_57 ?_
        refine g_iconst dX12_begin_60 ?_
        refine g_aload_n dX12_begin_61 rfl ?_
        refine m_g27 rfl dX12_begin_62 ?_
        refine g_aload_n dX12_begin_65 rfl ?_
        refine m_g13 (z := (P 0 13)) rfl dX12_begin_66 ((up_o (by decide)).trans ((hE17_1.1 13 rfl).trans ((up_o (by decide)).trans rfl))) ?_
        refine m_l15 (z := (P 15 (P 0 13))) dX12_begin_69 ⟨by have q0 := b0_13 hB; omega, by have q0 := b0_13 hB; omega⟩ ((up_o (by decide)).trans ((congrFun (hE17_1.2 15 rfl rfl) _).trans ((up_o (by decide)).trans rfl))) ?_
        refine m_s38 dX12_begin_70 (by decide) ?_
        have hB61 := ba_38 (z := (P 15 (P 0 13))) (k := 0) hB60 ⟨by have q0 := bl_15 (k := (P 0 13)) hB; omega, by have q0 := bl_15 (k := (P 0 13)) hB; omega⟩
        refine g_aload_n dX12_begin_71 rfl ?_
        refine m_g57 rfl dX12_begin_72 ?_
        refine g_iconst dX12_begin_75 ?_
        refine g_iconst dX12_begin_76 ?_
        refine m_s39 dX12_begin_77 (by decide) ?_
        have hB62 := ba_39 (z := 0) (k := 0) hB61 (by decide)
        refine g_aload_n dX12_begin_78 rfl ?_
        refine g_iconst dX12_begin_79 ?_
        refine m_p60 rfl dX12_begin_80 ?_
        have hB63 := bs_60 (z := 0) hB62 (by decide)
        refine g_aload_n dX12_begin_83 rfl ?_
        refine g_iconst dX12_begin_84 ?_
        refine m_p92 rfl dX12_begin_85 ?_
        have hB64 := bs_92 (z := 0) hB63 (by decide)
        exact g_retV dX12_begin_88 rfl (hQ _ hB64 (FrM.s (FrM.s (FrM.a (FrM.a (FrM.a (FrM.c (FrM.a FrM.rf rfl rfl) hE17_1 rfl) rfl rfl) rfl rfl) rfl rfl) rfl) rfl) (((up_o (by decide)).trans ((up_o (by decide)).trans ((up_o (by decide)).trans ((up_o (by decide)).trans ((up_o (by decide)).trans ((congrFun (hE17_1.2 35 rfl rfl) _).trans up_same))))))) (by have q44 := b0_44 hB; have q37 := (((up_o (by decide)).trans ((up_o (by decide)).trans ((up_o (by decide)).trans ((up_o (by decide)).trans up_same)))) : (up (up (up (up (up H17_1 37 0 0) 38 0 (P 15 (P 0 13))) 39 0 0) 0 60 0) 0 92 0) 37 0 = 0); omega) (((up_o (by decide)).trans ((up_o (by decide)).trans ((up_o (by decide)).trans up_same)))) (⟨((up_o (by decide)).trans ((up_o (by decide)).trans up_same)), ((up_k (by decide)).trans up_same), up_same⟩) (by first | (exfalso; omega) | exact AM.beg z0 ((up_o (by decide)).trans ((up_o (by decide)).trans ((up_o (by decide)).trans ((up_o (by decide)).trans ((up_o (by decide)).trans ((congrFun (hE17_1.2 35 rfl rfl) _).trans up_same)))))) ((up_o (by decide)).trans ((up_o (by decide)).trans ((up_o (by decide)).trans ((up_o (by decide)).trans up_same)))) ((up_o (by decide)).trans ((up_o (by decide)).trans ((up_o (by decide)).trans up_same))) (fun q q0 q1 => Eq.trans ((up_o (by decide)).trans ((up_o (by decide)).trans ((up_o (by decide)).trans ((up_o (by decide)).trans ((up_o (by decide)).trans rfl))))) (i17_0_1 q q0 (by omega))) ((up_o (by decide)).trans ((up_o (by decide)).trans up_same)) ((up_k (by decide)).trans up_same) up_same ((up_k (by decide)).trans ((up_k (by decide)).trans ((up_o (by decide)).trans ((up_o (by decide)).trans ((up_o (by decide)).trans ((hE17_1.1 61 rfl).trans ((up_o (by decide)).trans rfl)))))))))
      · have k59n : 1 ≤ (P 0 44) := by have q0 := b0_44 hB; omega
        clear k59
        refine g_sipush dX12_begin_48 (by decide) ?_
        refine g_goto (tgt := 55) dX12_begin_51 (by decide) ?_
        refine m_s37 dX12_begin_55 (by decide) ?_
        have hB65 := ba_37 (z := 255) (k := 0) hB17_1 (by decide)
        refine g_aload_n dX12_begin_56 rfl ?_
        refine m_g56 rfl dX12_begin_57 ?_
        refine g_iconst dX12_begin_60 ?_
        refine g_aload_n dX12_begin_61 rfl ?_
        refine m_g27 rfl dX12_begin_62 ?_
        refine g_aload_n dX12_begin_65 rfl ?_
        refine m_g13 (z := (P 0 13)) rfl dX12_begin_66 ((up_o (by decide)).trans ((hE17_1.1 13 rfl).trans ((up_o (by decide)).trans rfl))) ?_
        refine m_l15 (z := (P 15 (P 0 13))) dX12_begin_69 ⟨by have q0 := b0_13 hB; omega, by have q0 := b0_13 hB; omega⟩ ((up_o (by decide)).trans ((congrFun (hE17_1.2 15 rfl rfl) _).trans ((up_o (by decide)).trans rfl))) ?_
        refine m_s38 dX12_begin_70 (by decide) ?_
        have hB66 := ba_38 (z := (P 15 (P 0 13))) (k := 0) hB65 ⟨by have q0 := bl_15 (k := (P 0 13)) hB; omega, by have q0 := bl_15 (k := (P 0 13)) hB; omega⟩
        refine g_aload_n dX12_begin_71 rfl ?_
        refine m_g57 rfl dX12_begin_72 ?_
        refine g_iconst dX12_begin_75 ?_
        refine g_iconst dX12_begin_76 ?_
        refine m_s39 dX12_begin_77 (by decide) ?_
        have hB67 := ba_39 (z := 0) (k := 0) hB66 (by decide)
        refine g_aload_n dX12_begin_78 rfl ?_
        refine g_iconst dX12_begin_79 ?_
        refine m_p60 rfl dX12_begin_80 ?_
        have hB68 := bs_60 (z := 0) hB67 (by decide)
        refine g_aload_n dX12_begin_83 rfl ?_
        refine g_iconst dX12_begin_84 ?_
        refine m_p92 rfl dX12_begin_85 ?_
        have hB69 := bs_92 (z := 0) hB68 (by decide)
        exact g_retV dX12_begin_88 rfl (hQ _ hB69 (FrM.s (FrM.s (FrM.a (FrM.a (FrM.a (FrM.c (FrM.a FrM.rf rfl rfl) hE17_1 rfl) rfl rfl) rfl rfl) rfl rfl) rfl) rfl) (((up_o (by decide)).trans ((up_o (by decide)).trans ((up_o (by decide)).trans ((up_o (by decide)).trans ((up_o (by decide)).trans ((congrFun (hE17_1.2 35 rfl rfl) _).trans up_same))))))) (by have q44 := b0_44 hB; have q37 := (((up_o (by decide)).trans ((up_o (by decide)).trans ((up_o (by decide)).trans ((up_o (by decide)).trans up_same)))) : (up (up (up (up (up H17_1 37 0 255) 38 0 (P 15 (P 0 13))) 39 0 0) 0 60 0) 0 92 0) 37 0 = 255); omega) (((up_o (by decide)).trans ((up_o (by decide)).trans ((up_o (by decide)).trans up_same)))) (⟨((up_o (by decide)).trans ((up_o (by decide)).trans up_same)), ((up_k (by decide)).trans up_same), up_same⟩) (by first | (exfalso; omega) | exact AM.beg z0 ((up_o (by decide)).trans ((up_o (by decide)).trans ((up_o (by decide)).trans ((up_o (by decide)).trans ((up_o (by decide)).trans ((congrFun (hE17_1.2 35 rfl rfl) _).trans up_same)))))) ((up_o (by decide)).trans ((up_o (by decide)).trans ((up_o (by decide)).trans ((up_o (by decide)).trans up_same)))) ((up_o (by decide)).trans ((up_o (by decide)).trans ((up_o (by decide)).trans up_same))) (fun q q0 q1 => Eq.trans ((up_o (by decide)).trans ((up_o (by decide)).trans ((up_o (by decide)).trans ((up_o (by decide)).trans ((up_o (by decide)).trans rfl))))) (i17_0_1 q q0 (by omega))) ((up_o (by decide)).trans ((up_o (by decide)).trans up_same)) ((up_k (by decide)).trans up_same) up_same ((up_k (by decide)).trans ((up_k (by decide)).trans ((up_o (by decide)).trans ((up_o (by decide)).trans ((up_o (by decide)).trans ((hE17_1.1 61 rfl).trans ((up_o (by decide)).trans rfl)))))))))
    · refine g_aload_n dX12_begin_23 rfl ?_
      refine m_g54 rfl dX12_begin_24 ?_
      refine g_iload_n dX12_begin_27 rfl ?_
      refine g_iload_n dX12_begin_28 rfl ?_
      refine m_s36 dX12_begin_29 ⟨by omega, by omega⟩ ?_
      have hB70 := ba_36 (z := x17_1_1) (k := x17_1_1) hB17_1 ⟨by omega, by omega⟩
      have hA9 : ∀ q : Int, 0 ≤ q → q < x17_1_1 + 1 → (up H17_1 36 x17_1_1 x17_1_1) 36 q = q := by
        intro q q0 q1
        by_cases e : q = x17_1_1
        · rw [e]; exact up_same
        · have hj : q ≠ x17_1_1 := by omega
          exact Eq.trans ((up_k hj).trans rfl) (i17_0_1 q q0 (by (clear hj; omega)))
      refine g_iinc (l1 := [(1, vI (x17_1_1 + 1)), (0, vR 0)]) dX12_begin_30 rfl (by decide) rfl ?_
      refine g_goto (tgt := 17) dX12_begin_33 (by decide) ?_
      refine g_forget (l1 := [(0, vR 0), (1, vI (x17_1_1 + 1))]) (by intro q hq; simp only [List.mem_cons, List.not_mem_nil, or_false] at hq ⊢; rcases hq with rfl | rfl <;> simp) ?_
      exact ih17_1 (x17_1_1 + 1) ⟨by omega, by omega⟩ _ hB70 (FrM.a (FrM.c FrM.rf hE17_1 rfl) rfl rfl) (by first | exact hA9 | (intro q q0 q1; exfalso; omega)) (by omega)
  refine g_forget (l1 := [(0, vR 0), (1, vI 0)]) (by intro q hq; simp only [List.mem_cons, List.not_mem_nil, or_false] at hq ⊢; rcases hq with rfl | rfl <;> simp) ?_
  exact L17_1 _ 0 (by decide) _ hB1 FrM.rf (by first | exact hA9 | (intro q q0 q1; exfalso; omega)) (Nat.lt_succ_self _)
/-! What the reference answers: X12_copies. -/
set_option maxRecDepth 100000 in
set_option maxHeartbeats 4000000 in
theorem f_X12_copies (G : GT) (P : PH) (a1 : Int) (a2 : Int) (h_a1 : 0 ≤ a1 ∧ a1 ≤ 21) (h_a2 : 0 ≤ a2 ∧ a2 ≤ 21) (hB : BdM P) (p_ne : a1 ≠ a2) (Q : Option PV → PH → Prop) (hQ : ∀ (P1 : PH) (_ : BdM P1) (_ : FrM ([], [35, 36, 37, 38, 39, 40]) P P1) (_ : a1 = 0 ∨ P1 35 0 = P 35 0) (_ : CY a1 a2 P P1), Q none P1) : Ct WSM G 1 iX12_copies [vR 0, vI a1, vI a2] P Q := by
  refine Ct.of (by decide) (l0 := [(0, vR 0), (1, vI a1), (2, vI a2)]) rfl (Nat.le_of_ble_eq_true rfl) ?_
  refine g_aload_n dX12_copies_0 rfl ?_
  refine m_g53 rfl dX12_copies_1 ?_
  refine g_iload_n dX12_copies_4 rfl ?_
  refine g_aload_n dX12_copies_5 rfl ?_
  refine m_g53 rfl dX12_copies_6 ?_
  refine g_iload_n dX12_copies_9 rfl ?_
  refine m_l35 (z := (P 35 a2)) dX12_copies_10 ⟨by (clear p_ne; omega), by (clear p_ne; omega)⟩ rfl ?_
  refine m_s35 dX12_copies_11 ⟨by (clear p_ne; omega), by (clear p_ne; omega)⟩ ?_
  have hB1 := ba_35 (z := (P 35 a2)) (k := a1) hB ⟨by have q0 := bl_35 (k := a2) hB; (clear p_ne; omega), by have q0 := bl_35 (k := a2) hB; (clear p_ne; omega)⟩
  refine g_iconst dX12_copies_12 ?_
  refine g_istore_n (l1 := [(3, vI 0), (0, vR 0), (1, vI a1), (2, vI a2)]) dX12_copies_13 (by decide) rfl ?_
  have L14_1 : ∀ (n14_1 : Nat) (x14_3_1 : Int) (h_x14_3_1 : 0 ≤ x14_3_1 ∧ x14_3_1 ≤ 12) (H14_1 : PH) (hB14_1 : BdM H14_1) (hE14_1 : FrM ([], [36]) (up P 35 a1 (P 35 a2)) H14_1) (i14_0_1 : ∀ q : Int, 0 ≤ q → q < x14_3_1 → H14_1 36 ((12 * a1) + q) = P 36 ((12 * a2) + q)) (i14_1_1 : ∀ j : Int, j < 12 * a1 ∨ 12 * a1 + 12 ≤ j → H14_1 36 j = P 36 j) (hm14_1 : ((13 - x14_3_1) : Int).toNat < n14_1), Go WSM G 1 iX12_copies 14 [(0, vR 0), (1, vI a1), (2, vI a2), (3, vI x14_3_1)] [] H14_1 Q := by
    intro n14_1
    induction n14_1 with
    | zero => intro x14_3_1 h_x14_3_1 H14_1 hB14_1 hE14_1 i14_0_1 i14_1_1 hm14_1; exact absurd hm14_1 (Nat.not_lt_zero _)
    | succ n14_1 ih14_1 =>
    intro x14_3_1 h_x14_3_1 H14_1 hB14_1 hE14_1 i14_0_1 i14_1_1 hm14_1
    refine g_iload_n dX12_copies_14 rfl ?_
    refine g_bipush dX12_copies_15 (by decide) ?_
    refine g_icmp_ge (tgt := 48) dX12_copies_17 (by decide) ⟨by (clear p_ne; omega), by (clear p_ne; omega)⟩ (by decide) (fun k321 => ?_) (fun k321 => ?_)
    · refine g_aload_n dX12_copies_48 rfl ?_
      refine m_g55 rfl dX12_copies_49 ?_
      refine g_iload_n dX12_copies_52 rfl ?_
      refine g_aload_n dX12_copies_53 rfl ?_
      refine m_g55 rfl dX12_copies_54 ?_
      refine g_iload_n dX12_copies_57 rfl ?_
      refine m_l37 (z := (P 37 a2)) dX12_copies_58 ⟨by (clear p_ne; omega), by (clear p_ne; omega)⟩ ((congrFun (hE14_1.2 37 rfl rfl) _).trans ((up_o (by decide)).trans rfl)) ?_
      refine m_s37 dX12_copies_59 ⟨by (clear p_ne; omega), by (clear p_ne; omega)⟩ ?_
      have hB322 := ba_37 (z := (P 37 a2)) (k := a1) hB14_1 ⟨by have q0 := bl_37 (k := a2) hB; (clear p_ne; omega), by have q0 := bl_37 (k := a2) hB; (clear p_ne; omega)⟩
      refine g_aload_n dX12_copies_60 rfl ?_
      refine m_g56 rfl dX12_copies_61 ?_
      refine g_iload_n dX12_copies_64 rfl ?_
      refine g_aload_n dX12_copies_65 rfl ?_
      refine m_g56 rfl dX12_copies_66 ?_
      refine g_iload_n dX12_copies_69 rfl ?_
      refine m_l38 (z := (P 38 a2)) dX12_copies_70 ⟨by (clear p_ne; omega), by (clear p_ne; omega)⟩ ((up_o (by decide)).trans ((congrFun (hE14_1.2 38 rfl rfl) _).trans ((up_o (by decide)).trans rfl))) ?_
      refine m_s38 dX12_copies_71 ⟨by (clear p_ne; omega), by (clear p_ne; omega)⟩ ?_
      have hB323 := ba_38 (z := (P 38 a2)) (k := a1) hB322 ⟨by have q0 := bl_38 (k := a2) hB; (clear p_ne; omega), by have q0 := bl_38 (k := a2) hB; (clear p_ne; omega)⟩
      refine g_aload_n dX12_copies_72 rfl ?_
      refine m_g57 rfl dX12_copies_73 ?_
      refine g_iload_n dX12_copies_76 rfl ?_
      refine g_aload_n dX12_copies_77 rfl ?_
      refine m_g57 rfl dX12_copies_78 ?_
      refine g_iload_n dX12_copies_81 rfl ?_
      refine m_l39 (z := (P 39 a2)) dX12_copies_82 ⟨by (clear p_ne; omega), by (clear p_ne; omega)⟩ ((up_o (by decide)).trans ((up_o (by decide)).trans ((congrFun (hE14_1.2 39 rfl rfl) _).trans ((up_o (by decide)).trans rfl)))) ?_
      refine m_s39 dX12_copies_83 ⟨by (clear p_ne; omega), by (clear p_ne; omega)⟩ ?_
      have hB324 := ba_39 (z := (P 39 a2)) (k := a1) hB323 ⟨by have q0 := bl_39 (k := a2) hB; (clear p_ne; omega), by have q0 := bl_39 (k := a2) hB; (clear p_ne; omega)⟩
      refine g_iconst dX12_copies_84 ?_
      refine g_istore_n (l1 := [(3, vI 0), (0, vR 0), (1, vI a1), (2, vI a2)]) dX12_copies_85 (by decide) rfl ?_
      have L86_324 : ∀ (n86_324 : Nat) (x86_3_324 : Int) (h_x86_3_324 : 0 ≤ x86_3_324 ∧ x86_3_324 ≤ 120) (H86_324 : PH) (hB86_324 : BdM H86_324) (hE86_324 : FrM ([], [40]) (up (up (up H14_1 37 a1 (P 37 a2)) 38 a1 (P 38 a2)) 39 a1 (P 39 a2)) H86_324) (hm86_324 : ((121 - x86_3_324) : Int).toNat < n86_324), Go WSM G 1 iX12_copies 86 [(0, vR 0), (1, vI a1), (2, vI a2), (3, vI x86_3_324)] [] H86_324 Q := by
        intro n86_324
        induction n86_324 with
        | zero => intro x86_3_324 h_x86_3_324 H86_324 hB86_324 hE86_324 hm86_324; exact absurd hm86_324 (Nat.not_lt_zero _)
        | succ n86_324 ih86_324 =>
        intro x86_3_324 h_x86_3_324 H86_324 hB86_324 hE86_324 hm86_324
        refine g_iload_n dX12_copies_86 rfl ?_
        refine g_iconst dX12_copies_87 ?_
        refine g_aload_n dX12_copies_88 rfl ?_
        refine m_g57 rfl dX12_copies_89 ?_
        refine g_iload_n dX12_copies_92 rfl ?_
        refine m_l39 (z := ((up (up (up H14_1 37 a1 (P 37 a2)) 38 a1 (P 38 a2)) 39 a1 (P 39 a2)) 39 a2)) dX12_copies_93 ⟨by (clear p_ne; omega), by (clear p_ne; omega)⟩ ((congrFun (hE86_324.2 39 rfl rfl) _).trans rfl) ?_
        refine g_imul dX12_copies_94 ?_
        have f416 := bl_39 (k := a2) hB324
        have f417 := up_cs (P := (up (up H14_1 37 a1 (P 37 a2)) 38 a1 (P 38 a2))) (o := 39) (k := a1) (k1 := a2) (z := (P 39 a2))
        have f418 := bl_39 (k := a2) hB
        have f419 := (((up_o (by decide)).trans ((up_o (by decide)).trans ((congrFun (hE14_1.2 39 rfl rfl) _).trans ((up_o (by decide)).trans rfl)))) : (up (up H14_1 37 a1 (P 37 a2)) 38 a1 (P 38 a2)) 39 a2 = (P 39 a2))
        refine g_icmp_ge (tgt := 126) dX12_copies_95 (by decide) ⟨by (clear p_ne f417; omega), by (clear p_ne f417; omega)⟩ ⟨by have q0 := bl_39 (k := a2) hB324; have q1 := up_cs (P := (up (up H14_1 37 a1 (P 37 a2)) 38 a1 (P 38 a2))) (o := 39) (k := a1) (k1 := a2) (z := (P 39 a2)); have q2 := bl_39 (k := a2) hB; have q3 := (((up_o (by decide)).trans ((up_o (by decide)).trans ((congrFun (hE14_1.2 39 rfl rfl) _).trans ((up_o (by decide)).trans rfl)))) : (up (up H14_1 37 a1 (P 37 a2)) 38 a1 (P 38 a2)) 39 a2 = (P 39 a2)); (clear p_ne f417; omega), by have q0 := bl_39 (k := a2) hB324; have q1 := up_cs (P := (up (up H14_1 37 a1 (P 37 a2)) 38 a1 (P 38 a2))) (o := 39) (k := a1) (k1 := a2) (z := (P 39 a2)); have q2 := bl_39 (k := a2) hB; have q3 := (((up_o (by decide)).trans ((up_o (by decide)).trans ((congrFun (hE14_1.2 39 rfl rfl) _).trans ((up_o (by decide)).trans rfl)))) : (up (up H14_1 37 a1 (P 37 a2)) 38 a1 (P 38 a2)) 39 a2 = (P 39 a2)); (clear p_ne f417; omega)⟩ (fun k420 => ?_) (fun k420 => ?_)
        · exact g_retV dX12_copies_126 rfl (hQ _ hB86_324 (FrM.c (FrM.a (FrM.a (FrM.a (FrM.c (FrM.a FrM.rf rfl rfl) hE14_1 rfl) rfl rfl) rfl rfl) rfl rfl) hE86_324 rfl) (by have q0 := (((congrFun (hE86_324.2 35 rfl rfl) _).trans ((up_o (by decide)).trans ((up_o (by decide)).trans ((up_o (by decide)).trans ((congrFun (hE14_1.2 35 rfl rfl) _).trans rfl))))) : H86_324 35 0 = ((up P 35 a1 (P 35 a2)) 35 0)); have q1 := bl_35 (k := 0) hB1; have q2 := up_cs (P := P) (o := 35) (k := a1) (k1 := 0) (z := (P 35 a2)); have q3 := bl_35 (k := a2) hB; have q4 := bl_35 (k := 0) hB; (clear p_ne f417; omega)) (⟨⟨((congrFun (hE86_324.2 35 rfl rfl) _).trans ((up_o (by decide)).trans ((up_o (by decide)).trans ((up_o (by decide)).trans ((congrFun (hE14_1.2 35 rfl rfl) _).trans up_same))))), ((congrFun (hE86_324.2 37 rfl rfl) _).trans ((up_o (by decide)).trans ((up_o (by decide)).trans up_same))), ((congrFun (hE86_324.2 38 rfl rfl) _).trans ((up_o (by decide)).trans up_same)), ((congrFun (hE86_324.2 39 rfl rfl) _).trans up_same)⟩, fun p p0 p1 => Eq.trans ((congrFun (hE86_324.2 36 rfl rfl) _).trans ((up_o (by decide)).trans ((up_o (by decide)).trans ((up_o (by decide)).trans rfl)))) (i14_0_1 p p0 (by (clear p_ne f417; omega))), fun j hj => ⟨((congrFun (hE86_324.2 35 rfl rfl) _).trans ((up_o (by decide)).trans ((up_o (by decide)).trans ((up_o (by decide)).trans ((congrFun (hE14_1.2 35 rfl rfl) _).trans ((up_k hj).trans rfl)))))), ((congrFun (hE86_324.2 37 rfl rfl) _).trans ((up_o (by decide)).trans ((up_o (by decide)).trans ((up_k hj).trans ((congrFun (hE14_1.2 37 rfl rfl) _).trans ((up_o (by decide)).trans rfl)))))), ((congrFun (hE86_324.2 38 rfl rfl) _).trans ((up_o (by decide)).trans ((up_k hj).trans ((up_o (by decide)).trans ((congrFun (hE14_1.2 38 rfl rfl) _).trans ((up_o (by decide)).trans rfl)))))), ((congrFun (hE86_324.2 39 rfl rfl) _).trans ((up_k hj).trans ((up_o (by decide)).trans ((up_o (by decide)).trans ((congrFun (hE14_1.2 39 rfl rfl) _).trans ((up_o (by decide)).trans rfl))))))⟩, fun j hj => Eq.trans ((congrFun (hE86_324.2 36 rfl rfl) _).trans ((up_o (by decide)).trans ((up_o (by decide)).trans ((up_o (by decide)).trans rfl)))) (i14_1_1 j hj)⟩))
        · skip
          refine g_aload_n dX12_copies_98 rfl ?_
          refine m_g58 rfl dX12_copies_99 ?_
          refine g_bipush dX12_copies_102 (by decide) ?_
          refine g_iload_n dX12_copies_104 rfl ?_
          refine g_imul dX12_copies_105 ?_
          refine g_iload_n dX12_copies_106 rfl ?_
          refine g_iadd dX12_copies_107 ?_
          refine g_aload_n dX12_copies_108 rfl ?_
          refine m_g58 rfl dX12_copies_109 ?_
          refine g_bipush dX12_copies_112 (by decide) ?_
          refine g_iload_n dX12_copies_114 rfl ?_
          refine g_imul dX12_copies_115 ?_
          refine g_iload_n dX12_copies_116 rfl ?_
          refine g_iadd dX12_copies_117 ?_
          refine m_l40 (z := (H86_324 40 ((120 * a2) + x86_3_324))) dX12_copies_118 ⟨by (clear p_ne f417; omega), by (clear p_ne f417; omega)⟩ rfl ?_
          refine m_s40 dX12_copies_119 ⟨by (clear p_ne f417; omega), by (clear p_ne f417; omega)⟩ ?_
          have hB421 := ba_40 (z := (H86_324 40 ((120 * a2) + x86_3_324))) (k := ((120 * a1) + x86_3_324)) hB86_324 ⟨by have q0 := bl_40 (k := ((120 * a2) + x86_3_324)) hB86_324; (clear p_ne f417; omega), by have q0 := bl_40 (k := ((120 * a2) + x86_3_324)) hB86_324; (clear p_ne f417; omega)⟩
          refine g_iinc (l1 := [(3, vI (x86_3_324 + 1)), (0, vR 0), (1, vI a1), (2, vI a2)]) dX12_copies_120 rfl (by decide) rfl ?_
          refine g_goto (tgt := 86) dX12_copies_123 (by decide) ?_
          refine g_forget (l1 := [(0, vR 0), (1, vI a1), (2, vI a2), (3, vI (x86_3_324 + 1))]) (by intro q hq; simp only [List.mem_cons, List.not_mem_nil, or_false] at hq ⊢; rcases hq with rfl | rfl | rfl | rfl <;> simp) ?_
          exact ih86_324 (x86_3_324 + 1) ⟨by (clear p_ne f417; omega), by (clear p_ne f417; omega)⟩ _ hB421 (FrM.a (FrM.c FrM.rf hE86_324 rfl) rfl rfl) (by (clear p_ne f417; omega))
      refine g_forget (l1 := [(0, vR 0), (1, vI a1), (2, vI a2), (3, vI 0)]) (by intro q hq; simp only [List.mem_cons, List.not_mem_nil, or_false] at hq ⊢; rcases hq with rfl | rfl | rfl | rfl <;> simp) ?_
      exact L86_324 _ 0 (by decide) _ hB324 FrM.rf (Nat.lt_succ_self _)
    · refine g_aload_n dX12_copies_20 rfl ?_
      refine m_g54 rfl dX12_copies_21 ?_
      refine g_bipush dX12_copies_24 (by decide) ?_
      refine g_iload_n dX12_copies_26 rfl ?_
      refine g_imul dX12_copies_27 ?_
      refine g_iload_n dX12_copies_28 rfl ?_
      refine g_iadd dX12_copies_29 ?_
      refine g_aload_n dX12_copies_30 rfl ?_
      refine m_g54 rfl dX12_copies_31 ?_
      refine g_bipush dX12_copies_34 (by decide) ?_
      refine g_iload_n dX12_copies_36 rfl ?_
      refine g_imul dX12_copies_37 ?_
      refine g_iload_n dX12_copies_38 rfl ?_
      refine g_iadd dX12_copies_39 ?_
      refine m_l36 (z := (H14_1 36 ((12 * a2) + x14_3_1))) dX12_copies_40 ⟨by (clear p_ne; omega), by (clear p_ne; omega)⟩ rfl ?_
      refine m_s36 dX12_copies_41 ⟨by (clear p_ne; omega), by (clear p_ne; omega)⟩ ?_
      have hB422 := ba_36 (z := (H14_1 36 ((12 * a2) + x14_3_1))) (k := ((12 * a1) + x14_3_1)) hB14_1 ⟨by have q0 := bl_36 (k := ((12 * a2) + x14_3_1)) hB14_1; (clear p_ne; omega), by have q0 := bl_36 (k := ((12 * a2) + x14_3_1)) hB14_1; (clear p_ne; omega)⟩
      have hA9 : ∀ q : Int, 0 ≤ q → q < x14_3_1 + 1 → (up H14_1 36 ((12 * a1) + x14_3_1) (H14_1 36 ((12 * a2) + x14_3_1))) 36 ((12 * a1) + q) = P 36 ((12 * a2) + q) := by
        intro q q0 q1
        by_cases e : q = x14_3_1
        · rw [e]; exact Eq.trans up_same (i14_1_1 _ (by (omega)))
        · have hj : ((12 * a1) + q) ≠ ((12 * a1) + x14_3_1) := by (clear p_ne; omega)
          exact Eq.trans ((up_k hj).trans rfl) (i14_0_1 q q0 (by (clear p_ne hj; omega)))
      have hB9 : ∀ j : Int, j < 12 * a1 ∨ 12 * a1 + 12 ≤ j → (up H14_1 36 ((12 * a1) + x14_3_1) (H14_1 36 ((12 * a2) + x14_3_1))) 36 j = P 36 j := by
        intro j h0
        have hj : j ≠ ((12 * a1) + x14_3_1) := by (clear p_ne; omega)
        exact Eq.trans ((up_k hj).trans rfl) (i14_1_1 j h0)
      refine g_iinc (l1 := [(3, vI (x14_3_1 + 1)), (0, vR 0), (1, vI a1), (2, vI a2)]) dX12_copies_42 rfl (by decide) rfl ?_
      refine g_goto (tgt := 14) dX12_copies_45 (by decide) ?_
      refine g_forget (l1 := [(0, vR 0), (1, vI a1), (2, vI a2), (3, vI (x14_3_1 + 1))]) (by intro q hq; simp only [List.mem_cons, List.not_mem_nil, or_false] at hq ⊢; rcases hq with rfl | rfl | rfl | rfl <;> simp) ?_
      exact ih14_1 (x14_3_1 + 1) ⟨by (clear p_ne; omega), by (clear p_ne; omega)⟩ _ hB422 (FrM.a (FrM.c FrM.rf hE14_1 rfl) rfl rfl) (by first | exact hA9 | (intro q q0 q1; exfalso; (first | (clear p_ne; omega) | omega))) (by first | exact hB9 | exact fun j _ => hNONE) (by (clear p_ne; omega))
  refine g_forget (l1 := [(0, vR 0), (1, vI a1), (2, vI a2), (3, vI 0)]) (by intro q hq; simp only [List.mem_cons, List.not_mem_nil, or_false] at hq ⊢; rcases hq with rfl | rfl | rfl | rfl <;> simp) ?_
  exact L14_1 _ 0 (by decide) _ hB1 FrM.rf (by first | exact hA9 | (intro q q0 q1; exfalso; (clear p_ne; omega))) (by first | exact hB9 | exact fun j _ => ((up_o (by decide)).trans rfl)) (Nat.lt_succ_self _)
/-! What the reference answers: X12_comesOn. -/
set_option maxRecDepth 100000 in
set_option maxHeartbeats 4000000 in
theorem f_X12_comesOn (G : GT) (P : PH) (T : TT) (A : PH) (M : PH) (a1 : Int) (h_a1 : 0 ≤ a1 ∧ a1 ≤ 1600) (hB : BdM P) (p_n : a1 = T.2) (p_tx : ∀ i : Int, 0 ≤ i → i < T.2 → P 1 i = T.1 i) (z0 : AM A P) (z1 : MH M P) (z2 : MMB M P) (Q : Option PV → PH → Prop) (hQ : ∀ (r : Int) (_ : 0 ≤ r ∧ r ≤ 1) (P1 : PH) (_ : BdM P1) (_ : FrM ([], [35, 36, 37, 38, 39, 40]) P P1) (_ : (r = 1 ∧ onOk T M ∧ P1 35 1 = T.1 0 ∧ P1 37 1 = T.1 (T.2 - 3) ∧ P1 38 1 = T.1 (T.2 - 2) ∧ P1 39 1 = 0 ∧ ∀ q : Int, 0 ≤ q → q < T.1 0 → P1 36 (12 + q) = T.1 (1 + q)) ∨ (r = 0 ∧ ¬ onOk T M)) (_ : AM A P1), Q (some (vI r)) P1) : Ct WSM G 2 iX12_comesOn [vR 0, vI a1] P Q := by
  refine Ct.of (by decide) (l0 := [(0, vR 0), (1, vI a1)]) rfl (Nat.le_of_ble_eq_true rfl) ?_
  have hb := z0.b
  have hmh := z1
  unfold MH at hmh
  have hm2 := z2.b.2.1
  have q44 := b0_44 hB
  have ht0 : 0 < T.2 → P 1 0 = T.1 0 := fun h => p_tx 0 (by decide) h
  have qb0 := bl_1 (k := 0) hB
  have q13m := bl_13 (k := P 0 13) hB
  refine g_aload_n dX12_comesOn_0 rfl ?_
  refine m_g44 (z := (P 0 44)) rfl dX12_comesOn_1 rfl ?_
  have f1 := b0_44 hB
  refine g_if_eq (tgt := 42) dX12_comesOn_4 (by decide) ⟨by have q0 := b0_44 hB; (clear hb hmh ht0; omega), by have q0 := b0_44 hB; (clear hb hmh ht0; omega)⟩ (fun k2 => ?_) (fun k2 => ?_)
  · refine g_iconst dX12_comesOn_42 ?_
    exact g_retZ dX12_comesOn_43 rfl (by decide) (hQ 0 (by decide) _ hB FrM.rf (Or.inr ⟨rfl, fun q => by have q1 := q.1; unfold oHd at q1; (omega)⟩) (z0))
  · have k2n : 1 ≤ (P 0 44) := by have q0 := b0_44 hB; (clear hb hmh ht0; omega)
    clear k2
    refine g_iload_n dX12_comesOn_7 rfl ?_
    refine g_iconst dX12_comesOn_8 ?_
    refine g_icmp_lt (tgt := 42) dX12_comesOn_9 (by decide) ⟨by (clear hb hmh ht0; omega), by (clear hb hmh ht0; omega)⟩ (by decide) (fun k3 => ?_) (fun k3 => ?_)
    · refine g_iconst dX12_comesOn_42 ?_
      exact g_retZ dX12_comesOn_43 rfl (by decide) (hQ 0 (by decide) _ hB FrM.rf (Or.inr ⟨rfl, fun q => by have q1 := q.1; unfold oHd at q1; (clear hb hmh ht0; omega)⟩) (z0))
    · refine g_aload_n dX12_comesOn_12 rfl ?_
      refine m_g0 rfl dX12_comesOn_13 ?_
      refine g_iconst dX12_comesOn_16 ?_
      refine m_l1 (z := (P 1 0)) dX12_comesOn_17 (by decide) rfl ?_
      refine g_aload_n dX12_comesOn_18 rfl ?_
      refine m_g25 rfl dX12_comesOn_19 ?_
      refine g_aload_n dX12_comesOn_22 rfl ?_
      refine m_g13 (z := (P 0 13)) rfl dX12_comesOn_23 rfl ?_
      refine m_l13 (z := (P 13 (P 0 13))) dX12_comesOn_26 ⟨by have q0 := b0_13 hB; (clear hb hmh ht0 k3; omega), by have q0 := b0_13 hB; (clear hb hmh ht0 k3; omega)⟩ rfl ?_
      have f4 := bl_1 (k := 0) hB
      have f5 := bl_13 (k := (P 0 13)) hB
      refine g_icmp_gt (tgt := 42) dX12_comesOn_27 (by decide) ⟨by have q0 := bl_1 (k := 0) hB; (clear hb hmh ht0 k3; omega), by have q0 := bl_1 (k := 0) hB; (clear hb hmh ht0 k3; omega)⟩ ⟨by have q0 := bl_13 (k := (P 0 13)) hB; (clear hb hmh ht0 k3; omega), by have q0 := bl_13 (k := (P 0 13)) hB; (clear hb hmh ht0 k3; omega)⟩ (fun k6 => ?_) (fun k6 => ?_)
      · refine g_iconst dX12_comesOn_42 ?_
        exact g_retZ dX12_comesOn_43 rfl (by decide) (hQ 0 (by decide) _ hB FrM.rf (Or.inr ⟨rfl, fun q => by have q1 := q.1; unfold oHd at q1; (clear hb; omega)⟩) (z0))
      · refine g_iload_n dX12_comesOn_30 rfl ?_
        refine g_aload_n dX12_comesOn_31 rfl ?_
        refine m_g0 rfl dX12_comesOn_32 ?_
        refine g_iconst dX12_comesOn_35 ?_
        refine m_l1 (z := (P 1 0)) dX12_comesOn_36 (by decide) rfl ?_
        refine g_iconst dX12_comesOn_37 ?_
        refine g_iadd dX12_comesOn_38 ?_
        refine g_icmp_eq (tgt := 44) dX12_comesOn_39 (by decide) ⟨by (clear hb hmh ht0 k3 k6; omega), by (clear hb hmh ht0 k3 k6; omega)⟩ ⟨by have q0 := bl_1 (k := 0) hB; (clear hb hmh ht0 k3 k6; omega), by have q0 := bl_1 (k := 0) hB; (clear hb hmh ht0 k3 k6; omega)⟩ (fun k7 => ?_) (fun k7 => ?_)
        · have hoh : oHd T M := ⟨by (clear hb ht0 k3 k6 k7; omega), by (clear hb hmh ht0 k3 k6; omega), by (clear hmh hb; omega), by (clear hmh hb; omega)⟩
          have ht9 := ht0 (by (clear hb hmh ht0 k3 k6; omega))
          refine g_sipush dX12_comesOn_44 (by decide) ?_
          refine g_istore_n (l1 := [(2, vI 199), (0, vR 0), (1, vI a1)]) dX12_comesOn_47 (by decide) rfl ?_
          refine g_iconst dX12_comesOn_48 ?_
          refine g_istore_n (l1 := [(3, vI 0), (2, vI 199), (0, vR 0), (1, vI a1)]) dX12_comesOn_49 (by decide) rfl ?_
          have L50_7 : ∀ (n50_7 : Nat) (x50_3_7 : Int) (h_x50_3_7 : 0 ≤ x50_3_7 ∧ x50_3_7 ≤ 15) (x50_2_7 : Int) (h_x50_2_7 : 0 ≤ x50_2_7 ∧ x50_2_7 ≤ 250) (i50_0_7 : x50_2_7 = ckF T (x50_3_7).toNat) (i50_1_7 : x50_3_7 ≤ a1 - 1) (hm50_7 : ((16 - x50_3_7) : Int).toNat < n50_7), Go WSM G 2 iX12_comesOn 50 [(0, vR 0), (1, vI a1), (2, vI x50_2_7), (3, vI x50_3_7)] [] P Q := by
            intro n50_7
            induction n50_7 with
            | zero => intro x50_3_7 h_x50_3_7 x50_2_7 h_x50_2_7 i50_0_7 i50_1_7 hm50_7; exact absurd hm50_7 (Nat.not_lt_zero _)
            | succ n50_7 ih50_7 =>
            intro x50_3_7 h_x50_3_7 x50_2_7 h_x50_2_7 i50_0_7 i50_1_7 hm50_7
            refine g_iload_n dX12_comesOn_50 rfl ?_
            refine g_iload_n dX12_comesOn_51 rfl ?_
            refine g_iconst dX12_comesOn_52 ?_
            refine g_isub dX12_comesOn_53 ?_
            refine g_icmp_ge (tgt := 78) dX12_comesOn_54 (by decide) ⟨by (clear hb hmh ht0 k3 k6 k7; omega), by (clear hb hmh ht0 k3 k6 k7; omega)⟩ ⟨by (clear hb hmh ht0 k3 k6 k7; omega), by (clear hb hmh ht0 k3 k6 k7; omega)⟩ (fun k1698 => ?_) (fun k1698 => ?_)
            · refine g_aload_n dX12_comesOn_78 rfl ?_
              have hck : x50_2_7 = ckF T (T.2 - 1).toNat := by rw [show T.2 - 1 = x50_3_7 by (clear hb hmh ht0 k3 k6 k7; omega)]; exact i50_0_7
              have eT1 : P 1 (a1 - 1) = T.1 (T.2 - 1) := by rw [p_tx (a1 - 1) (by (clear hb hmh ht0 k3 k6 k7; omega)) (by (clear hb hmh ht0 k3 k6 k7; omega)), p_n]
              have eT2 : P 1 (a1 - 2) = T.1 (T.2 - 2) := by rw [p_tx (a1 - 2) (by (clear hb hmh ht0 k3 k6; omega)) (by (clear hb hmh ht0 k3 k6 k7; omega)), p_n]
              have eT3 : P 1 (a1 - 3) = T.1 (T.2 - 3) := by rw [p_tx (a1 - 3) (by (clear hb hmh ht0 k3 k6; omega)) (by (clear hb hmh ht0 k3 k6 k7; omega)), p_n]
              refine m_g0 rfl dX12_comesOn_79 ?_
              refine g_iload_n dX12_comesOn_82 rfl ?_
              refine g_iconst dX12_comesOn_83 ?_
              refine g_isub dX12_comesOn_84 ?_
              refine m_l1 (z := (P 1 (a1 - 1))) dX12_comesOn_85 ⟨by (clear hb hmh ht0 k3 k6 k7; omega), by (clear hb hmh ht0 k3 k6 k7; omega)⟩ rfl ?_
              refine g_iload_n dX12_comesOn_86 rfl ?_
              have f1699 := bl_1 (k := (a1 - 1)) hB
              refine g_icmp_ne (tgt := 102) dX12_comesOn_87 (by decide) ⟨by have q0 := bl_1 (k := (a1 - 1)) hB; (clear hb hmh ht0 k3 k6 k7; omega), by have q0 := bl_1 (k := (a1 - 1)) hB; (clear hb hmh ht0 k3 k6 k7; omega)⟩ ⟨by (clear hb hmh ht0 k3 k6 k7; omega), by (clear hb hmh ht0 k3 k6 k7; omega)⟩ (fun k1700 => ?_) (fun k1700 => ?_)
              · refine g_iconst dX12_comesOn_102 ?_
                exact g_retZ dX12_comesOn_103 rfl (by decide) (hQ 0 (by decide) _ hB FrM.rf (Or.inr ⟨rfl, fun q => by have q1 := q.2.1; have q2 := q.2.2.1; (clear hb hmh ht0 k3 k6 k7; omega)⟩) (z0))
              · refine g_aload_n dX12_comesOn_90 rfl ?_
                refine m_g0 rfl dX12_comesOn_91 ?_
                refine g_iload_n dX12_comesOn_94 rfl ?_
                refine g_iconst dX12_comesOn_95 ?_
                refine g_isub dX12_comesOn_96 ?_
                refine m_l1 (z := (P 1 (a1 - 2))) dX12_comesOn_97 ⟨by (omega), by (clear hb hmh ht0 k3 k6 k7 k1700; omega)⟩ rfl ?_
                refine g_iconst dX12_comesOn_98 ?_
                have f1701 := bl_1 (k := (a1 - 2)) hB
                refine g_icmp_lt (tgt := 104) dX12_comesOn_99 (by decide) ⟨by have q0 := bl_1 (k := (a1 - 2)) hB; (clear hb hmh ht0 k3 k6 k7 k1700; omega), by have q0 := bl_1 (k := (a1 - 2)) hB; (clear hb hmh ht0 k3 k6 k7 k1700; omega)⟩ (by decide) (fun k1702 => ?_) (fun k1702 => ?_)
                · refine g_aload_n dX12_comesOn_104 rfl ?_
                  refine g_iconst dX12_comesOn_105 ?_
                  refine g_iconst dX12_comesOn_106 ?_
                  have hpm := z0
                  have hbk := hB
                  refine g_vV (av := [vI 1, vI 0]) (o := 0) (st := []) (f_X12_copies G P 1 0 (by decide) (by decide) hB (by decide) _ (fun Pc1703 hBc1703 hFc1703 gc1703_o gc1703_cy => ⟨rfl, ?_⟩)) cf_X12_copies t_1859 rfl (by decide) rfl rfl rfl (Nat.le_of_ble_eq_true rfl) (by decide) rfl dX12_comesOn_107
                  obtain ⟨Z, hZ⟩ : ∃ Z : PH, Pc1703 = Z := ⟨_, rfl⟩
                  have hmz : AM A Z := by rw [← hZ]; exact hpm.un1 hbk gc1703_cy hFc1703
                  have hbz : BdM Z := by rw [← hZ]; exact hBc1703
                  refine g_aload_n dX12_comesOn_110 rfl ?_
                  refine m_g53 rfl dX12_comesOn_111 ?_
                  refine g_iconst dX12_comesOn_114 ?_
                  refine g_aload_n dX12_comesOn_115 rfl ?_
                  refine m_g0 rfl dX12_comesOn_116 ?_
                  refine g_iconst dX12_comesOn_119 ?_
                  refine m_l1 (z := (P 1 0)) dX12_comesOn_120 (by decide) ((congrFun (hFc1703.2 1 rfl rfl) _).trans rfl) ?_
                  refine m_s35 dX12_comesOn_121 (by decide) ?_
                  have hB1704 := ba_35 (z := (P 1 0)) (k := 1) hBc1703 ⟨by have q0 := bl_1 (k := 0) hB; (clear hb hmh ht0 k3 k6 k7 k1700 gc1703_o; omega), by have q0 := bl_1 (k := 0) hB; (omega)⟩
                  refine g_iconst dX12_comesOn_122 ?_
                  refine g_istore_n (l1 := [(3, vI 0), (0, vR 0), (1, vI a1), (2, vI x50_2_7)]) dX12_comesOn_123 (by decide) rfl ?_
                  refine g_iconst dX12_comesOn_124 ?_
                  refine g_istore (l1 := [(4, vI 0), (3, vI 0), (0, vR 0), (1, vI a1), (2, vI x50_2_7)]) dX12_comesOn_125 (by decide) rfl ?_
                  have L127_1704 : ∀ (n127_1704 : Nat) (x127_4_1704 : Int) (h_x127_4_1704 : 0 ≤ x127_4_1704 ∧ x127_4_1704 ≤ 12) (x127_3_1704 : Int) (h_x127_3_1704 : 0 ≤ x127_3_1704 ∧ x127_3_1704 ≤ 4095) (H127_1704 : PH) (hB127_1704 : BdM H127_1704) (hE127_1704 : FrM ([], [36]) (up Pc1703 35 1 (P 1 0)) H127_1704) (i127_0_1704 : x127_3_1704 = hdF T (x127_4_1704).toNat) (i127_1_1704 : OLI T M x127_4_1704) (i127_2_1704 : ∀ q : Int, 0 ≤ q → q < x127_4_1704 → H127_1704 36 (12 + q) = T.1 (1 + q)) (i127_3_1704 : ∀ j : Int, j < 12 ∨ 24 ≤ j → H127_1704 36 j = Z 36 j) (hm127_1704 : ((13 - x127_4_1704) : Int).toNat < n127_1704), Go WSM G 2 iX12_comesOn 127 [(0, vR 0), (1, vI a1), (3, vI x127_3_1704), (4, vI x127_4_1704)] [] H127_1704 Q := by
                    intro n127_1704
                    induction n127_1704 with
                    | zero => intro x127_4_1704 h_x127_4_1704 x127_3_1704 h_x127_3_1704 H127_1704 hB127_1704 hE127_1704 i127_0_1704 i127_1_1704 i127_2_1704 i127_3_1704 hm127_1704; exact absurd hm127_1704 (Nat.not_lt_zero _)
                    | succ n127_1704 ih127_1704 =>
                    intro x127_4_1704 h_x127_4_1704 x127_3_1704 h_x127_3_1704 H127_1704 hB127_1704 hE127_1704 i127_0_1704 i127_1_1704 i127_2_1704 i127_3_1704 hm127_1704
                    refine g_iload dX12_comesOn_127 rfl ?_
                    refine g_aload_n dX12_comesOn_129 rfl ?_
                    refine m_g0 rfl dX12_comesOn_130 ?_
                    refine g_iconst dX12_comesOn_133 ?_
                    refine m_l1 (z := (P 1 0)) dX12_comesOn_134 (by decide) ((congrFun (hE127_1704.2 1 rfl rfl) _).trans ((up_o (by decide)).trans ((congrFun (hFc1703.2 1 rfl rfl) _).trans rfl))) ?_
                    refine g_icmp_ge (tgt := 200) dX12_comesOn_135 (by decide) ⟨by (clear hb hmh ht0 k3 k6 k7 k1700 gc1703_o; omega), by (clear hb hmh ht0 k3 k6 k7 k1700 gc1703_o; omega)⟩ ⟨by have q0 := bl_1 (k := 0) hB; (clear hb hmh ht0 k3 k6 k7 k1700 gc1703_o; omega), by have q0 := bl_1 (k := 0) hB; (clear hb hmh ht0 k3 k6 k7 k1700 gc1703_o; omega)⟩ (fun k1838 => ?_) (fun k1838 => ?_)
                    · have r_gc1703_o := (gc1703_o.resolve_left (by (clear hb hmh ht0 k3 k6 k7 k1700 gc1703_o; omega)))
                      refine g_aload_n dX12_comesOn_200 rfl ?_
                      refine m_g55 rfl dX12_comesOn_201 ?_
                      refine g_iconst dX12_comesOn_204 ?_
                      refine g_aload_n dX12_comesOn_205 rfl ?_
                      refine m_g0 rfl dX12_comesOn_206 ?_
                      refine g_iload_n dX12_comesOn_209 rfl ?_
                      refine g_iconst dX12_comesOn_210 ?_
                      refine g_isub dX12_comesOn_211 ?_
                      refine m_l1 (z := (P 1 (a1 - 3))) dX12_comesOn_212 ⟨by (omega), by (clear hb hmh ht0 k3 k6 k7 k1700 gc1703_o; omega)⟩ ((congrFun (hE127_1704.2 1 rfl rfl) _).trans ((up_o (by decide)).trans ((congrFun (hFc1703.2 1 rfl rfl) _).trans rfl))) ?_
                      refine m_s37 dX12_comesOn_213 (by decide) ?_
                      have hB1839 := ba_37 (z := (P 1 (a1 - 3))) (k := 1) hB127_1704 ⟨by have q0 := bl_1 (k := (a1 - 3)) hB; (clear hb hmh ht0 k3 k6 k7 k1700 gc1703_o; omega), by have q0 := bl_1 (k := (a1 - 3)) hB; (clear hb hmh ht0 k3 k6 k7 k1700 gc1703_o; omega)⟩
                      refine g_aload_n dX12_comesOn_214 rfl ?_
                      refine m_g56 rfl dX12_comesOn_215 ?_
                      refine g_iconst dX12_comesOn_218 ?_
                      refine g_aload_n dX12_comesOn_219 rfl ?_
                      refine m_g0 rfl dX12_comesOn_220 ?_
                      refine g_iload_n dX12_comesOn_223 rfl ?_
                      refine g_iconst dX12_comesOn_224 ?_
                      refine g_isub dX12_comesOn_225 ?_
                      refine m_l1 (z := (P 1 (a1 - 2))) dX12_comesOn_226 ⟨by (omega), by (clear hb hmh ht0 k3 k6 k7 k1700 gc1703_o; omega)⟩ ((up_o (by decide)).trans ((congrFun (hE127_1704.2 1 rfl rfl) _).trans ((up_o (by decide)).trans ((congrFun (hFc1703.2 1 rfl rfl) _).trans rfl)))) ?_
                      refine m_s38 dX12_comesOn_227 (by decide) ?_
                      have hB1840 := ba_38 (z := (P 1 (a1 - 2))) (k := 1) hB1839 ⟨by have q0 := bl_1 (k := (a1 - 2)) hB; (clear hb hmh ht0 k3 k6 k7 k1700 gc1703_o; omega), by have q0 := bl_1 (k := (a1 - 2)) hB; (clear hb hmh ht0 k3 k6 k7 k1700 gc1703_o; omega)⟩
                      refine g_aload_n dX12_comesOn_228 rfl ?_
                      refine m_g57 rfl dX12_comesOn_229 ?_
                      refine g_iconst dX12_comesOn_232 ?_
                      refine g_iconst dX12_comesOn_233 ?_
                      refine m_s39 dX12_comesOn_234 (by decide) ?_
                      have hB1841 := ba_39 (z := 0) (k := 1) hB1840 (by decide)
                      refine g_iconst dX12_comesOn_235 ?_
                      exact g_retZ dX12_comesOn_236 rfl (by decide) (hQ 1 (by decide) _ hB1841 (FrM.a (FrM.a (FrM.a (FrM.c (FrM.a (FrM.c FrM.rf hFc1703 rfl) rfl rfl) hE127_1704 rfl) rfl rfl) rfl rfl) rfl rfl) (Or.inl ⟨rfl, ⟨hoh, by (clear hb hmh ht0 k3 k6 k7 gc1703_o; omega), by (clear hb hmh ht0 k3 k6 k7 k1700 gc1703_o; omega), fun p p0 p1 => i127_1_1704 p p0 (by (clear hb hmh ht0 k3 k6 k7 k1700 gc1703_o; omega))⟩, by have q := (((up_o (by decide)).trans ((up_o (by decide)).trans ((up_o (by decide)).trans ((congrFun (hE127_1704.2 35 rfl rfl) _).trans up_same)))) : (up (up (up H127_1704 37 1 (P 1 (a1 - 3))) 38 1 (P 1 (a1 - 2))) 39 1 0) 35 1 = (P 1 0)); (clear hb hmh ht0 k3 k6 k7 k1700 gc1703_o; omega), by have q := (((up_o (by decide)).trans ((up_o (by decide)).trans up_same)) : (up (up (up H127_1704 37 1 (P 1 (a1 - 3))) 38 1 (P 1 (a1 - 2))) 39 1 0) 37 1 = (P 1 (a1 - 3))); (clear hb hmh ht0 k3 k6 k7 k1700 gc1703_o; omega), by have q := (((up_o (by decide)).trans up_same) : (up (up (up H127_1704 37 1 (P 1 (a1 - 3))) 38 1 (P 1 (a1 - 2))) 39 1 0) 38 1 = (P 1 (a1 - 2))); (clear hb hmh ht0 k3 k6 k7 k1700 gc1703_o; omega), up_same, fun q q0 q1 => Eq.trans ((up_o (by decide)).trans ((up_o (by decide)).trans ((up_o (by decide)).trans rfl))) (i127_2_1704 q q0 (by (clear hb hmh ht0 k3 k6 k7 k1700 gc1703_o; omega)))⟩) (by subst hZ; exact hmz.un (fun j hj => ((up_o (by decide)).trans ((up_o (by decide)).trans ((up_o (by decide)).trans ((congrFun (hE127_1704.2 35 rfl rfl) _).trans ((up_k hj).trans rfl)))))) (fun j hj => ((up_o (by decide)).trans ((up_o (by decide)).trans ((up_k hj).trans ((congrFun (hE127_1704.2 37 rfl rfl) _).trans ((up_o (by decide)).trans rfl)))))) (fun j hj => ((up_o (by decide)).trans ((up_k hj).trans ((up_o (by decide)).trans ((congrFun (hE127_1704.2 38 rfl rfl) _).trans ((up_o (by decide)).trans rfl)))))) (fun j hj => ((up_k hj).trans ((up_o (by decide)).trans ((up_o (by decide)).trans ((congrFun (hE127_1704.2 39 rfl rfl) _).trans ((up_o (by decide)).trans rfl)))))) (fun j hj => Eq.trans ((up_o (by decide)).trans ((up_o (by decide)).trans ((up_o (by decide)).trans rfl))) (i127_3_1704 j hj)) ((show FrM ([], [35, 36, 37, 38, 39]) _ _ from (FrM.a (FrM.a (FrM.a (FrM.c (FrM.a FrM.rf rfl rfl) hE127_1704 rfl) rfl rfl) rfl rfl) rfl rfl)).1 59 rfl) ((show FrM ([], [35, 36, 37, 38, 39]) _ _ from (FrM.a (FrM.a (FrM.a (FrM.c (FrM.a FrM.rf rfl rfl) hE127_1704 rfl) rfl rfl) rfl rfl) rfl rfl)).1 60 rfl) ((show FrM ([], [35, 36, 37, 38, 39]) _ _ from (FrM.a (FrM.a (FrM.a (FrM.c (FrM.a FrM.rf rfl rfl) hE127_1704 rfl) rfl rfl) rfl rfl) rfl rfl)).1 61 rfl) ((show FrM ([], [35, 36, 37, 38, 39]) _ _ from (FrM.a (FrM.a (FrM.a (FrM.c (FrM.a FrM.rf rfl rfl) hE127_1704 rfl) rfl rfl) rfl rfl) rfl rfl)).1 92 rfl) (by have q := bl_35 (k := 0) hB; (clear hmh ht0 k3 k6 k7 k1700 gc1703_o; omega)) (b0_59 hbz).1))
                    · have r_gc1703_o := (gc1703_o.resolve_left (by (clear hb hmh ht0 k3 k6 k7 k1700 gc1703_o; omega)))
                      refine g_aload_n dX12_comesOn_138 rfl ?_
                      refine m_g0 rfl dX12_comesOn_139 ?_
                      refine g_iconst dX12_comesOn_142 ?_
                      refine g_iload dX12_comesOn_143 rfl ?_
                      refine g_iadd dX12_comesOn_145 ?_
                      refine m_l1 (z := (P 1 (1 + x127_4_1704))) dX12_comesOn_146 ⟨by (clear hb hmh ht0 k3 k6 k7 k1700 gc1703_o; omega), by (clear hb hmh ht0 k3 k6 k7 k1700 gc1703_o; omega)⟩ ((congrFun (hE127_1704.2 1 rfl rfl) _).trans ((up_o (by decide)).trans ((congrFun (hFc1703.2 1 rfl rfl) _).trans rfl))) ?_
                      have e5 : P 1 (1 + x127_4_1704) = T.1 (1 + x127_4_1704) := p_tx _ (by (clear hb hmh ht0 k3 k6 k7 k1700 gc1703_o; omega)) (by (clear hb hmh ht0 k3 k6 k1700 gc1703_o; omega))
                      refine g_istore (l1 := [(5, vI (P 1 (1 + x127_4_1704))), (0, vR 0), (1, vI a1), (3, vI x127_3_1704), (4, vI x127_4_1704)]) dX12_comesOn_147 (by decide) rfl ?_
                      refine g_iload dX12_comesOn_149 rfl ?_
                      refine g_aload_n dX12_comesOn_151 rfl ?_
                      refine m_g25 rfl dX12_comesOn_152 ?_
                      refine g_aload_n dX12_comesOn_155 rfl ?_
                      refine m_g13 (z := (P 0 13)) rfl dX12_comesOn_156 ((hE127_1704.1 13 rfl).trans ((up_o (by decide)).trans ((hFc1703.1 13 rfl).trans rfl))) ?_
                      refine m_l13 (z := (P 13 (P 0 13))) dX12_comesOn_159 ⟨by have q0 := b0_13 hB; (clear hb hmh ht0 k3 k6 k7 k1700 gc1703_o; omega), by have q0 := b0_13 hB; (clear hb hmh ht0 k3 k6 k7 k1700 gc1703_o; omega)⟩ ((congrFun (hE127_1704.2 13 rfl rfl) _).trans ((up_o (by decide)).trans ((congrFun (hFc1703.2 13 rfl rfl) _).trans rfl))) ?_
                      have f1842 := bl_1 (k := (1 + x127_4_1704)) hB
                      refine g_icmp_ge (tgt := 173) dX12_comesOn_160 (by decide) ⟨by have q0 := bl_1 (k := (1 + x127_4_1704)) hB; (clear hb hmh ht0 k3 k6 k7 k1700 gc1703_o; omega), by have q0 := bl_1 (k := (1 + x127_4_1704)) hB; (clear hb hmh ht0 k3 k6 k7 k1700 gc1703_o; omega)⟩ ⟨by have q0 := bl_13 (k := (P 0 13)) hB; (clear hb hmh ht0 k3 k6 k7 k1700 gc1703_o; omega), by have q0 := bl_13 (k := (P 0 13)) hB; (clear hb hmh ht0 k3 k6 k7 k1700 gc1703_o; omega)⟩ (fun k1843 => ?_) (fun k1843 => ?_)
                      · skip
                        refine g_iconst dX12_comesOn_173 ?_
                        exact g_retZ dX12_comesOn_174 rfl (by decide) (hQ 0 (by decide) _ hB127_1704 (FrM.c (FrM.a (FrM.c FrM.rf hFc1703 rfl) rfl rfl) hE127_1704 rfl) (Or.inr ⟨rfl, fun q => by have q2 := q.2.2.2 x127_4_1704 (by (clear hb hmh ht0 k3 k6 k7 k1700 gc1703_o; omega)) (by (clear hb hmh ht0 k3 k6 k7 k1700 gc1703_o; omega)); unfold oOk at q2; (clear hb hmh ht0 k3 k6 k7 k1700 gc1703_o; omega)⟩) (by subst hZ; exact hmz.un (fun j hj => ((congrFun (hE127_1704.2 35 rfl rfl) _).trans ((up_k hj).trans rfl))) (fun j hj => ((congrFun (hE127_1704.2 37 rfl rfl) _).trans ((up_o (by decide)).trans rfl))) (fun j hj => ((congrFun (hE127_1704.2 38 rfl rfl) _).trans ((up_o (by decide)).trans rfl))) (fun j hj => ((congrFun (hE127_1704.2 39 rfl rfl) _).trans ((up_o (by decide)).trans rfl))) (fun j hj => Eq.trans rfl (i127_3_1704 j hj)) ((show FrM ([], [35, 36]) _ _ from (FrM.c (FrM.a FrM.rf rfl rfl) hE127_1704 rfl)).1 59 rfl) ((show FrM ([], [35, 36]) _ _ from (FrM.c (FrM.a FrM.rf rfl rfl) hE127_1704 rfl)).1 60 rfl) ((show FrM ([], [35, 36]) _ _ from (FrM.c (FrM.a FrM.rf rfl rfl) hE127_1704 rfl)).1 61 rfl) ((show FrM ([], [35, 36]) _ _ from (FrM.c (FrM.a FrM.rf rfl rfl) hE127_1704 rfl)).1 92 rfl) (by have q := bl_35 (k := 0) hB; (clear hmh ht0 k3 k6 k7 k1700 gc1703_o; omega)) (b0_59 hbz).1))
                      · skip
                        refine g_iload_n dX12_comesOn_163 rfl ?_
                        refine g_iload dX12_comesOn_164 rfl ?_
                        refine g_ishr dX12_comesOn_166 ?_
                        refine g_nm (fun b1844 e_b1844 => ?_)
                        have h_b1844 := ishr_ir x127_3_1704 (P 1 (1 + x127_4_1704))
                        rw [← e_b1844] at h_b1844
                        have f_b1844_0 := bl_1 (k := (1 + x127_4_1704)) hB
                        refine g_iconst dX12_comesOn_167 ?_
                        refine g_iand dX12_comesOn_168 ?_
                        refine g_nm (fun b1845 e_b1845 => ?_)
                        have h_b1845 := iand_r (x := b1844) (y := 1) ⟨by (clear hb hmh ht0 k3 k6 k7 k1700 gc1703_o; omega), by (clear hb hmh ht0 k3 k6 k7 k1700 gc1703_o; omega)⟩
                        rw [← e_b1845] at h_b1845
                        have hi9 : b1845 = iand (ishr (hdF T (x127_4_1704).toNat) (T.1 (1 + x127_4_1704))) 1 := by rw [e_b1845, e_b1844, ← i127_0_1704, ← e5]
                        refine g_iconst dX12_comesOn_169 ?_
                        refine g_icmp_ne (tgt := 175) dX12_comesOn_170 (by decide) ⟨by (clear hb hmh ht0 k3 k6 k7 k1700 gc1703_o; omega), by (clear hb hmh ht0 k3 k6 k7 k1700 gc1703_o; omega)⟩ (by decide) (fun k1846 => ?_) (fun k1846 => ?_)
                        · have k1846n : b1845 ≤ 0 := by (clear hb hmh ht0 k3 k6 k7 k1700 gc1703_o; omega)
                          clear k1846
                          skip
                          refine g_iload_n dX12_comesOn_175 rfl ?_
                          refine g_iconst dX12_comesOn_176 ?_
                          refine g_iload dX12_comesOn_177 rfl ?_
                          refine g_ishl dX12_comesOn_179 ?_
                          refine g_nm (fun b1847 e_b1847 => ?_)
                          have h_b1847 : 1 ≤ (ishl 1 (P 1 (1 + x127_4_1704))) ∧ (ishl 1 (P 1 (1 + x127_4_1704))) ≤ 2048 := (ishl1 11 (by decide) (y := (P 1 (1 + x127_4_1704))) ⟨by have q0 := bl_1 (k := (1 + x127_4_1704)) hB; (clear hb hmh ht0 k3 k6 k7 k1700 gc1703_o; omega), by have q0 := bl_1 (k := (1 + x127_4_1704)) hB; (clear hb hmh ht0 k3 k6 k7 k1700 gc1703_o; omega)⟩).2
                          rw [← e_b1847] at h_b1847
                          refine g_ior dX12_comesOn_180 ?_
                          refine g_nm (fun b1848 e_b1848 => ?_)
                          have h_b1848 : 0 ≤ (ior x127_3_1704 b1847) ∧ (ior x127_3_1704 b1847) < 4096 := ior_b 12 (by decide) (x := x127_3_1704) (y := b1847) (show 0 ≤ x127_3_1704 ∧ x127_3_1704 < 4096 from ⟨by (clear hb hmh ht0 k3 k6 k7 k1700 gc1703_o; omega), by (clear hb hmh ht0 k3 k6 k7 k1700 gc1703_o; omega)⟩) (show 0 ≤ b1847 ∧ b1847 < 4096 from ⟨by (clear hb hmh ht0 k3 k6 k7 k1700 gc1703_o; omega), by (clear hb hmh ht0 k3 k6 k7 k1700 gc1703_o; omega)⟩)
                          rw [← e_b1848] at h_b1848
                          have hhd9 : b1848 = hdF T (x127_4_1704 + 1).toNat := by
                            rw [show (x127_4_1704 + 1).toNat = (x127_4_1704).toNat + 1 by (clear hb hmh ht0 k3 k6 k7 k1700 gc1703_o; omega)]
                            show _ = ior (hdF T (x127_4_1704).toNat) (ishl 1 (T.1 (1 + (((x127_4_1704).toNat : Nat) : Int))))
                            rw [show (((x127_4_1704).toNat : Nat) : Int) = x127_4_1704 by (clear hb hmh ht0 k3 k6 k7 k1700 gc1703_o; omega), ← i127_0_1704, ← e5, e_b1848, e_b1847]
                          have hol9 : OLI T M (x127_4_1704 + 1) := (i127_1_1704).go (show oOk T M x127_4_1704 from And.intro (by (clear hb hmh ht0 k3 k6 k7 k1700 gc1703_o; omega)) (by (clear hb hmh ht0 k3 k6 k7 k1700 gc1703_o; omega)))
                          refine g_istore_n (l1 := [(3, vI b1848), (5, vI (P 1 (1 + x127_4_1704))), (0, vR 0), (1, vI a1), (4, vI x127_4_1704)]) dX12_comesOn_181 (by decide) rfl ?_
                          refine g_aload_n dX12_comesOn_182 rfl ?_
                          refine m_g54 rfl dX12_comesOn_183 ?_
                          refine g_bipush dX12_comesOn_186 (by decide) ?_
                          refine g_iload dX12_comesOn_188 rfl ?_
                          refine g_iadd dX12_comesOn_190 ?_
                          refine g_iload dX12_comesOn_191 rfl ?_
                          refine m_s36 dX12_comesOn_193 ⟨by (clear hb hmh ht0 k3 k6 k7 k1700 gc1703_o; omega), by (clear hb hmh ht0 k3 k6 k7 k1700 gc1703_o; omega)⟩ ?_
                          have hB1849 := ba_36 (z := (P 1 (1 + x127_4_1704))) (k := (12 + x127_4_1704)) hB127_1704 ⟨by have q0 := bl_1 (k := (1 + x127_4_1704)) hB; (clear hb hmh ht0 k3 k6 k7 k1700 gc1703_o; omega), by have q0 := bl_1 (k := (1 + x127_4_1704)) hB; (clear hb hmh ht0 k3 k6 k7 k1700 gc1703_o; omega)⟩
                          have hA9 : ∀ q : Int, 0 ≤ q → q < x127_4_1704 + 1 → (up H127_1704 36 (12 + x127_4_1704) (P 1 (1 + x127_4_1704))) 36 (12 + q) = T.1 (1 + q) := by
                            intro q q0 q1
                            by_cases e : q = x127_4_1704
                            · rw [e]; exact Eq.trans up_same e5
                            · have hj : (12 + q) ≠ (12 + x127_4_1704) := by (clear hb hmh ht0 k3 k6 k7 k1700 gc1703_o; omega)
                              exact Eq.trans ((up_k hj).trans rfl) (i127_2_1704 q q0 (by (clear hb hmh ht0 k3 k6 k7 k1700 gc1703_o hj; omega)))
                          have hD9 : ∀ j : Int, j < 12 ∨ 24 ≤ j → (up H127_1704 36 (12 + x127_4_1704) (P 1 (1 + x127_4_1704))) 36 j = Z 36 j := by
                            intro j h0
                            have hj : j ≠ (12 + x127_4_1704) := by (clear hb hmh ht0 k3 k6 k1700 gc1703_o; omega)
                            exact Eq.trans ((up_k hj).trans rfl) (i127_3_1704 j h0)
                          refine g_iinc (l1 := [(4, vI (x127_4_1704 + 1)), (3, vI b1848), (5, vI (P 1 (1 + x127_4_1704))), (0, vR 0), (1, vI a1)]) dX12_comesOn_194 rfl (by decide) rfl ?_
                          refine g_goto (tgt := 127) dX12_comesOn_197 (by decide) ?_
                          refine g_forget (l1 := [(0, vR 0), (1, vI a1), (3, vI b1848), (4, vI (x127_4_1704 + 1))]) (by intro q hq; simp only [List.mem_cons, List.not_mem_nil, or_false] at hq ⊢; rcases hq with rfl | rfl | rfl | rfl <;> simp) ?_
                          exact ih127_1704 (x127_4_1704 + 1) ⟨by (clear hb hmh ht0 k3 k6 k7 k1700 gc1703_o; omega), by (omega)⟩ b1848 ⟨by (clear hb hmh ht0 k3 k6 k7 k1700 gc1703_o; omega), by (clear hb hmh ht0 k3 k6 k7 k1700 gc1703_o; omega)⟩ _ hB1849 (FrM.a (FrM.c FrM.rf hE127_1704 rfl) rfl rfl) (by first | exact hhd9 | rfl) (by first | exact hol9 | exact OLI.z) (by first | exact hA9 | (intro q q0 q1; exfalso; (first | (clear hb hmh ht0 k3 k6 k7 k1700 gc1703_o; omega) | (clear hb hmh ht0 k3 k6 k7 k1700; omega) | (clear hb hmh ht0 k3 k6 k7 gc1703_o; omega) | (clear hb hmh ht0 k3 k6 k1700 gc1703_o; omega) | (clear hb hmh ht0 k3 k7 k1700 gc1703_o; omega) | (clear hb hmh ht0 k6 k7 k1700 gc1703_o; omega) | (clear hb hmh k3 k6 k7 k1700 gc1703_o; omega) | (clear hb ht0 k3 k6 k7 k1700 gc1703_o; omega) | (clear hmh ht0 k3 k6 k7 k1700 gc1703_o; omega) | (clear hb hmh ht0 k3 k6 k7; omega) | (clear k3 ht0 hmh hb; omega) | omega))) (by first | exact hD9 | (intro j h0; rw [hZ]; exact up_o (by decide))) (by (clear hb hmh ht0 k3 k6 k7 k1700 gc1703_o; omega))
                        · skip
                          refine g_iconst dX12_comesOn_173 ?_
                          exact g_retZ dX12_comesOn_174 rfl (by decide) (hQ 0 (by decide) _ hB127_1704 (FrM.c (FrM.a (FrM.c FrM.rf hFc1703 rfl) rfl rfl) hE127_1704 rfl) (Or.inr ⟨rfl, fun q => by have q2 := q.2.2.2 x127_4_1704 (by (clear hb hmh ht0 k3 k6 k7 k1700 gc1703_o; omega)) (by (clear hb hmh ht0 k3 k6 k7 k1700 gc1703_o; omega)); unfold oOk at q2; (clear hb hmh ht0 k3 k6 k7 k1700 gc1703_o; omega)⟩) (by subst hZ; exact hmz.un (fun j hj => ((congrFun (hE127_1704.2 35 rfl rfl) _).trans ((up_k hj).trans rfl))) (fun j hj => ((congrFun (hE127_1704.2 37 rfl rfl) _).trans ((up_o (by decide)).trans rfl))) (fun j hj => ((congrFun (hE127_1704.2 38 rfl rfl) _).trans ((up_o (by decide)).trans rfl))) (fun j hj => ((congrFun (hE127_1704.2 39 rfl rfl) _).trans ((up_o (by decide)).trans rfl))) (fun j hj => Eq.trans rfl (i127_3_1704 j hj)) ((show FrM ([], [35, 36]) _ _ from (FrM.c (FrM.a FrM.rf rfl rfl) hE127_1704 rfl)).1 59 rfl) ((show FrM ([], [35, 36]) _ _ from (FrM.c (FrM.a FrM.rf rfl rfl) hE127_1704 rfl)).1 60 rfl) ((show FrM ([], [35, 36]) _ _ from (FrM.c (FrM.a FrM.rf rfl rfl) hE127_1704 rfl)).1 61 rfl) ((show FrM ([], [35, 36]) _ _ from (FrM.c (FrM.a FrM.rf rfl rfl) hE127_1704 rfl)).1 92 rfl) (by have q := bl_35 (k := 0) hB; (clear hmh ht0 k3 k6 k7 k1700 gc1703_o; omega)) (b0_59 hbz).1))
                  refine g_forget (l1 := [(0, vR 0), (1, vI a1), (3, vI 0), (4, vI 0)]) (by intro q hq; simp only [List.mem_cons, List.not_mem_nil, or_false] at hq ⊢; rcases hq with rfl | rfl | rfl | rfl <;> simp) ?_
                  exact L127_1704 _ 0 (by decide) 0 (by decide) _ hB1704 FrM.rf (by first | exact hhd9 | rfl) (by first | exact hol9 | exact OLI.z) (by first | exact hA9 | (intro q q0 q1; exfalso; (clear hb hmh ht0 k3 k6 k7 k1700 gc1703_o; omega))) (by first | exact hD9 | (intro j h0; rw [hZ]; exact up_o (by decide))) (Nat.lt_succ_self _)
                · refine g_iconst dX12_comesOn_102 ?_
                  exact g_retZ dX12_comesOn_103 rfl (by decide) (hQ 0 (by decide) _ hB FrM.rf (Or.inr ⟨rfl, fun q => by have q1 := q.2.1; have q2 := q.2.2.1; (clear hb hmh ht0 k3 k6 k7 k1700; omega)⟩) (z0))
            · refine g_iconst dX12_comesOn_57 ?_
              refine g_iload_n dX12_comesOn_58 rfl ?_
              refine g_imul dX12_comesOn_59 ?_
              refine g_aload_n dX12_comesOn_60 rfl ?_
              refine m_g0 rfl dX12_comesOn_61 ?_
              refine g_iload_n dX12_comesOn_64 rfl ?_
              refine m_l1 (z := (P 1 x50_3_7)) dX12_comesOn_65 ⟨by (clear hb hmh ht0 k3 k6 k7; omega), by (clear hb hmh ht0 k3 k6 k7; omega)⟩ rfl ?_
              refine g_iadd dX12_comesOn_66 ?_
              refine g_sipush dX12_comesOn_67 (by decide) ?_
              refine g_irem dX12_comesOn_70 ⟨(by decide), by decide⟩ ?_
              refine g_nm (fun b1850 e_b1850 => ?_)
              have h_b1850 := irem_b (x := ((5 * x50_2_7) + (P 1 x50_3_7))) (y := 251) ⟨by have q0 := bl_1 (k := x50_3_7) hB; (clear hb hmh ht0 k3 k6 k7; omega), by have q0 := bl_1 (k := x50_3_7) hB; (clear hb hmh ht0 k3 k6 k7; omega)⟩ ⟨by (clear hb hmh ht0 k3 k6 k7; omega), by (clear hb hmh ht0 k3 k6 k7; omega)⟩
              rw [← e_b1850] at h_b1850
              have f_b1850_0 := bl_1 (k := x50_3_7) hB
              have hz : b1850 = (5 * x50_2_7 + P 1 x50_3_7) % 251 := by rw [e_b1850, irem_p ⟨by have q := bl_1 (k := x50_3_7) hB; (clear hb hmh ht0 k3 k6 k7; omega), by have q := bl_1 (k := x50_3_7) hB; (clear hb hmh ht0 k3 k6 k7; omega)⟩ ⟨by decide, by decide⟩]
              have hck9 : b1850 = ckF T (x50_3_7 + 1).toNat := by
                rw [show (x50_3_7 + 1).toNat = (x50_3_7).toNat + 1 by (clear hb hmh ht0 k3 k6 k7; omega), hz, p_tx x50_3_7 (by (clear hb hmh ht0 k3 k6 k7; omega)) (by (clear hb hmh ht0 k3 k6 k7; omega))]
                show _ = (5 * ckF T (x50_3_7).toNat + T.1 (((x50_3_7).toNat : Nat) : Int)) % 251
                rw [← i50_0_7, show (((x50_3_7).toNat : Nat) : Int) = x50_3_7 by (clear hb hmh ht0 k3 k6 k7; omega)]
              refine g_istore_n (l1 := [(2, vI b1850), (0, vR 0), (1, vI a1), (3, vI x50_3_7)]) dX12_comesOn_71 (by decide) rfl ?_
              refine g_iinc (l1 := [(3, vI (x50_3_7 + 1)), (2, vI b1850), (0, vR 0), (1, vI a1)]) dX12_comesOn_72 rfl (by decide) rfl ?_
              refine g_goto (tgt := 50) dX12_comesOn_75 (by decide) ?_
              refine g_forget (l1 := [(0, vR 0), (1, vI a1), (2, vI b1850), (3, vI (x50_3_7 + 1))]) (by intro q hq; simp only [List.mem_cons, List.not_mem_nil, or_false] at hq ⊢; rcases hq with rfl | rfl | rfl | rfl <;> simp) ?_
              exact ih50_7 (x50_3_7 + 1) ⟨by (clear hb hmh ht0 k3 k6 k7; omega), by (omega)⟩ b1850 ⟨by (clear hb hmh ht0 k3 k6 k7; omega), by (clear hb hmh ht0 k3 k6 k7; omega)⟩ (by first | exact hck9 | rfl) (by (clear hb hmh ht0 k3 k6 k7; omega)) (by (clear hb hmh ht0 k3 k6 k7; omega))
          refine g_forget (l1 := [(0, vR 0), (1, vI a1), (2, vI 199), (3, vI 0)]) (by intro q hq; simp only [List.mem_cons, List.not_mem_nil, or_false] at hq ⊢; rcases hq with rfl | rfl | rfl | rfl <;> simp) ?_
          exact L50_7 _ 0 (by decide) 199 (by decide) (by first | exact hck9 | rfl) (by (clear hb hmh ht0 k3 k6; omega)) (Nat.lt_succ_self _)
        · refine g_iconst dX12_comesOn_42 ?_
          exact g_retZ dX12_comesOn_43 rfl (by decide) (hQ 0 (by decide) _ hB FrM.rf (Or.inr ⟨rfl, fun q => by have q1 := q.1; unfold oHd at q1; (clear hmh hb; omega)⟩) (z0))
/-! What the reference answers: X12_draw. -/
set_option maxRecDepth 100000 in
set_option maxHeartbeats 4000000 in
theorem f_X12_draw (G : GT) (P : PH) (A : PH) (a1 : Int) (h_a1 : 1 ≤ a1 ∧ a1 ≤ 2147483647) (hB : BdM P) (z0 : AM A P) (Q : Option PV → PH → Prop) (hQ : ∀ (r : Int) (_ : 0 ≤ r ∧ r ≤ 2147483646) (P1 : PH) (_ : BdM P1) (_ : FrM ([61], []) P P1) (_ : r < a1) (_ : r = drw (A 0 5) / 64 % a1) (_ : AM (up A 0 5 (drw (A 0 5))) P1), Q (some (vI r)) P1) : Ct WSM G 1 iX12_draw [vR 0, vI a1] P Q := by
  refine Ct.of (by decide) (l0 := [(0, vR 0), (1, vI a1)]) rfl (Nat.le_of_ble_eq_true rfl) ?_
  have hb := z0.b
  have q61 := b0_61 hB
  refine g_aload_n dX12_draw_0 rfl ?_
  refine g_ldc2 (z := 1103515245) dX12_draw_1 t_2148 (by decide) ?_
  refine g_aload_n dX12_draw_4 rfl ?_
  refine m_g61 (z := (P 0 61)) rfl dX12_draw_5 rfl ?_
  refine g_lmul dX12_draw_8 ?_
  refine g_ldc2 (z := 12345) dX12_draw_9 t_2149 (by decide) ?_
  refine g_ladd dX12_draw_12 ?_
  refine g_ldc2 (z := 2147483648) dX12_draw_13 t_2150 (by decide) ?_
  refine g_lrem dX12_draw_16 ⟨(by decide), by decide⟩ ?_
  refine g_nm (fun b1 e_b1 => ?_)
  have h_b1 := llrem_b (x := ((1103515245 * (P 0 61)) + 12345)) (y := 2147483648) ⟨by have q0 := b0_61 hB; (clear hb; omega), by have q0 := b0_61 hB; (clear hb; omega)⟩ ⟨by (clear hb; omega), by (clear hb; omega)⟩
  rw [← e_b1] at h_b1
  have hd9 : b1 = drw (A 0 5) := by rw [e_b1, llrem_p ⟨by (clear hb; omega), by (clear hb; omega)⟩ ⟨by decide, by decide⟩]; unfold drw; rw [← hb.2.2.2.2.2.1]
  refine m_p61 rfl dX12_draw_17 ?_
  have hB2 := bs_61 (z := b1) hB ⟨by (clear hb; omega), by (clear hb; omega)⟩
  refine g_aload_n dX12_draw_20 rfl ?_
  refine m_g61 (z := b1) rfl dX12_draw_21 up_same ?_
  refine g_ldc2 (z := 64) dX12_draw_24 t_2151 (by decide) ?_
  refine g_ldiv dX12_draw_27 ⟨(by decide), by decide⟩ ?_
  refine g_nm (fun b3 e_b3 => ?_)
  have h_b3 := lldiv_p (x := b1) (y := 64) ⟨by (clear hb; omega), by (clear hb; omega)⟩ ⟨by (clear hb; omega), by (clear hb; omega)⟩
  rw [← e_b3] at h_b3
  have hq9 : b3 = drw (A 0 5) / 64 := by rw [e_b3, lldiv_p ⟨by (clear hb; omega), by (clear hb; omega)⟩ ⟨by decide, by decide⟩, hd9]
  refine g_iload_n dX12_draw_28 rfl ?_
  refine g_i2l dX12_draw_29 ⟨by (clear hb; omega), by (clear hb; omega)⟩ ?_
  refine g_lrem dX12_draw_30 ⟨⟨by (clear hb; omega), by (clear hb; omega)⟩, by (clear hb; omega)⟩ ?_
  refine g_nm (fun b4 e_b4 => ?_)
  have h_b4 := llrem_b (x := b3) (y := a1) ⟨by (clear hb; omega), by (clear hb; omega)⟩ ⟨by (clear hb; omega), by (clear hb; omega)⟩
  rw [← e_b4] at h_b4
  have hr9 : b4 = drw (A 0 5) / 64 % a1 := by rw [e_b4, llrem_p ⟨by (clear hb; omega), by (clear hb; omega)⟩ ⟨by (clear hb; omega), by (clear hb; omega)⟩, hq9]
  refine g_l2i dX12_draw_31 ?_
  exact g_retI dX12_draw_32 rfl (hQ b4 ⟨by (clear hb; omega), by (clear hb; omega)⟩ _ hB2 (FrM.s FrM.rf rfl) (by (clear hb; omega)) (by (clear hb; omega)) (by rw [← hd9]; exact z0.sd up_same (FrM.s FrM.rf rfl)))
/-! What the reference answers: X12_exchanges. -/
set_option maxRecDepth 100000 in
set_option maxHeartbeats 4000000 in
theorem f_X12_exchanges (G : GT) (P : PH) (a1 : Int) (a2 : Int) (a3 : Int) (h_a1 : 0 ≤ a1 ∧ a1 ≤ 21) (h_a2 : 0 ≤ a2 ∧ a2 ≤ 11) (h_a3 : 0 ≤ a3 ∧ a3 ≤ 11) (hB : BdM P) (Q : Option PV → PH → Prop) (hQ : ∀ (P1 : PH) (_ : BdM P1) (_ : FrM ([], [36]) P P1) (_ : P1 36 ((12 * a1) + a2) = P 36 ((12 * a1) + a3)) (_ : P1 36 ((12 * a1) + a3) = P 36 ((12 * a1) + a2)) (_ : ∀ j : Int, j ≠ (12 * a1) + a2 → j ≠ (12 * a1) + a3 → P1 36 j = P 36 j), Q none P1) : Ct WSM G 1 iX12_exchanges [vR 0, vI a1, vI a2, vI a3] P Q := by
  refine Ct.of (by decide) (l0 := [(0, vR 0), (1, vI a1), (2, vI a2), (3, vI a3)]) rfl (Nat.le_of_ble_eq_true rfl) ?_
  refine g_aload_n dX12_exchanges_0 rfl ?_
  refine m_g54 rfl dX12_exchanges_1 ?_
  refine g_bipush dX12_exchanges_4 (by decide) ?_
  refine g_iload_n dX12_exchanges_6 rfl ?_
  refine g_imul dX12_exchanges_7 ?_
  refine g_iload_n dX12_exchanges_8 rfl ?_
  refine g_iadd dX12_exchanges_9 ?_
  refine m_l36 (z := (P 36 ((12 * a1) + a2))) dX12_exchanges_10 ⟨by omega, by omega⟩ rfl ?_
  refine g_istore (l1 := [(4, vI (P 36 ((12 * a1) + a2))), (0, vR 0), (1, vI a1), (2, vI a2), (3, vI a3)]) dX12_exchanges_11 (by decide) rfl ?_
  refine g_aload_n dX12_exchanges_13 rfl ?_
  refine m_g54 rfl dX12_exchanges_14 ?_
  refine g_bipush dX12_exchanges_17 (by decide) ?_
  refine g_iload_n dX12_exchanges_19 rfl ?_
  refine g_imul dX12_exchanges_20 ?_
  refine g_iload_n dX12_exchanges_21 rfl ?_
  refine g_iadd dX12_exchanges_22 ?_
  refine g_aload_n dX12_exchanges_23 rfl ?_
  refine m_g54 rfl dX12_exchanges_24 ?_
  refine g_bipush dX12_exchanges_27 (by decide) ?_
  refine g_iload_n dX12_exchanges_29 rfl ?_
  refine g_imul dX12_exchanges_30 ?_
  refine g_iload_n dX12_exchanges_31 rfl ?_
  refine g_iadd dX12_exchanges_32 ?_
  refine m_l36 (z := (P 36 ((12 * a1) + a3))) dX12_exchanges_33 ⟨by omega, by omega⟩ rfl ?_
  refine m_s36 dX12_exchanges_34 ⟨by omega, by omega⟩ ?_
  have hB1 := ba_36 (z := (P 36 ((12 * a1) + a3))) (k := ((12 * a1) + a2)) hB ⟨by have q0 := bl_36 (k := ((12 * a1) + a3)) hB; omega, by have q0 := bl_36 (k := ((12 * a1) + a3)) hB; omega⟩
  refine g_aload_n dX12_exchanges_35 rfl ?_
  refine m_g54 rfl dX12_exchanges_36 ?_
  refine g_bipush dX12_exchanges_39 (by decide) ?_
  refine g_iload_n dX12_exchanges_41 rfl ?_
  refine g_imul dX12_exchanges_42 ?_
  refine g_iload_n dX12_exchanges_43 rfl ?_
  refine g_iadd dX12_exchanges_44 ?_
  refine g_iload dX12_exchanges_45 rfl ?_
  refine m_s36 dX12_exchanges_47 ⟨by omega, by omega⟩ ?_
  have hB2 := ba_36 (z := (P 36 ((12 * a1) + a2))) (k := ((12 * a1) + a3)) hB1 ⟨by have q0 := bl_36 (k := ((12 * a1) + a2)) hB; omega, by have q0 := bl_36 (k := ((12 * a1) + a2)) hB; omega⟩
  exact g_retV dX12_exchanges_48 rfl (hQ _ hB2 (FrM.a (FrM.a FrM.rf rfl rfl) rfl rfl) ((Decidable.em (a2 = a3)).elim (fun e => by subst e; exact up_same) (fun e => (up_k (by omega)).trans up_same)) (up_same) (fun j hj1 hj2 => (up_k hj2).trans (up_k hj1)))
/-! What the reference answers: X12_best. -/
set_option maxRecDepth 100000 in
set_option maxHeartbeats 4000000 in
theorem f_X12_best (G : GT) (P : PH) (A : PH) (a1 : Int) (h_a1 : (-2147483648) ≤ a1 ∧ a1 ≤ 2147483647) (hB : BdM P) (p_st : P 0 74 ≤ 199999900) (v_okC : okC P) (v_MVw : MVw P) (v_RE : RE P) (z0 : AM A P) (Q : Option PV → PH → Prop) (hQ : ∀ (r : Int) (_ : (-2147483648) ≤ r ∧ r ≤ 2147483647) (P1 : PH) (_ : BdM P1) (_ : FrM ([62, 66, 74, 76, 78], [35, 36, 37, 38, 39, 40, 41, 42, 43, 44, 45, 49, 50, 58]) P P1) (_ : P1 0 74 ≤ P 0 74 + 14) (_ : MVw P1) (_ : RE P1) (_ : AM A P1), Q (some (vI r)) P1) : Ct WSM G 6 iX12_best [vR 0, vI a1] P Q := by
  refine Ct.of (by decide) (l0 := [(0, vR 0), (1, vI a1)]) rfl (Nat.le_of_ble_eq_true rfl) ?_
  refine g_aload_n dX12_best_0 rfl ?_
  refine m_g44 (z := (P 0 44)) rfl dX12_best_1 rfl ?_
  have f1 := b0_44 hB
  refine g_if_eq (tgt := 16) dX12_best_4 (by decide) ⟨by have q0 := b0_44 hB; omega, by have q0 := b0_44 hB; omega⟩ (fun k2 => ?_) (fun k2 => ?_)
  · refine g_iconst dX12_best_16 ?_
    exact g_retI dX12_best_17 rfl (hQ (-1) (by decide) _ hB FrM.rf (by have q0 := b0_74 hB; (clear k2; omega)) v_MVw v_RE (z0))
  · have k2n : 1 ≤ (P 0 44) := by have q0 := b0_44 hB; (omega)
    clear k2
    refine g_iload_n dX12_best_7 rfl ?_
    refine g_iconst dX12_best_8 ?_
    refine g_iconst dX12_best_9 ?_
    refine g_sI (av := [vI a1, vI 0, vI 1]) (st := []) (m_X12_is G P a1 0 1 ⟨by omega, by omega⟩ (by decide) (by decide) hB  _ (fun rc3 hc3 gc3_is => ⟨rc3, rfl, ?_⟩)) cf_X12_is t_1800 rfl (Nat.le_of_ble_eq_true rfl) (by decide) rfl dX12_best_10
    refine g_if_ne (tgt := 18) dX12_best_13 (by decide) ⟨by (clear gc3_is; omega), by (clear gc3_is; omega)⟩ (fun k4 => ?_) (fun k4 => ?_)
    · have k4n : 1 ≤ rc3 := by (clear gc3_is; omega)
      clear k4
      have r_gc3_is := (gc3_is.resolve_right (by (clear gc3_is; omega)))
      refine g_aload_n dX12_best_18 rfl ?_
      refine g_iconst dX12_best_19 ?_
      refine g_vV (av := [vI 0]) (o := 0) (st := []) (m_X12_arranges G P 0 (by decide) hB (by have q0 := b0_74 hB; (clear gc3_is; omega)) v_MVw v_RE _ (fun Pc5 hBc5 hFc5 gc5_st vc5_MV vc5_RE vc5_RLt => ⟨rfl, ?_⟩)) cf_X12_arranges t_1887 rfl (by decide) rfl rfl rfl (Nat.le_of_ble_eq_true rfl) (by decide) rfl dX12_best_20
      refine g_aload_n dX12_best_23 rfl ?_
      refine g_vV (av := []) (o := 0) (st := []) (m_X12_countsRows G Pc5  hBc5 (okC.fr (F := ([62, 66, 74], [41, 42, 43])) v_okC (FrM.c FrM.rf hFc5 rfl) rfl) _ (fun Pc6 hBc6 hFc6 => ⟨rfl, ?_⟩)) cf_X12_countsRows t_1895 rfl (by decide) rfl rfl rfl (Nat.le_of_ble_eq_true rfl) (by decide) rfl dX12_best_24
      refine g_iconst dX12_best_27 ?_
      refine g_istore_n (l1 := [(2, vI 0), (0, vR 0), (1, vI a1)]) dX12_best_28 (by decide) rfl ?_
      have L29_6 : ∀ (n29_6 : Nat) (x29_2_6 : Int) (h_x29_2_6 : 0 ≤ x29_2_6 ∧ x29_2_6 ≤ 11) (H29_6 : PH) (hB29_6 : BdM H29_6) (hE29_6 : FrM ([], [58]) Pc6 H29_6) (hm29_6 : ((12 - x29_2_6) : Int).toNat < n29_6), Go WSM G 6 iX12_best 29 [(0, vR 0), (1, vI a1), (2, vI x29_2_6)] [] H29_6 Q := by
        intro n29_6
        induction n29_6 with
        | zero => intro x29_2_6 h_x29_2_6 H29_6 hB29_6 hE29_6 hm29_6; exact absurd hm29_6 (Nat.not_lt_zero _)
        | succ n29_6 ih29_6 =>
        intro x29_2_6 h_x29_2_6 H29_6 hB29_6 hE29_6 hm29_6
        refine g_iload_n dX12_best_29 rfl ?_
        refine g_iconst dX12_best_30 ?_
        refine g_iadd dX12_best_31 ?_
        refine g_aload_n dX12_best_32 rfl ?_
        refine m_g53 rfl dX12_best_33 ?_
        refine g_iconst dX12_best_36 ?_
        refine m_l35 (z := (P 35 0)) dX12_best_37 (by decide) ((congrFun (hE29_6.2 35 rfl rfl) _).trans ((congrFun (hFc6.2 35 rfl rfl) _).trans ((congrFun (hFc5.2 35 rfl rfl) _).trans rfl))) ?_
        have f1207 := bl_35 (k := 0) hB
        refine g_icmp_ge (tgt := 69) dX12_best_38 (by decide) ⟨by (clear gc3_is; omega), by (clear gc3_is; omega)⟩ ⟨by have q0 := bl_35 (k := 0) hB; (clear gc3_is; omega), by have q0 := bl_35 (k := 0) hB; (clear gc3_is; omega)⟩ (fun k1208 => ?_) (fun k1208 => ?_)
        · skip
          refine g_aload_n dX12_best_69 rfl ?_
          refine g_iconst dX12_best_70 ?_
          refine g_aload_n dX12_best_71 rfl ?_
          refine m_g56 rfl dX12_best_72 ?_
          refine g_iconst dX12_best_75 ?_
          refine m_l38 (z := (P 38 0)) dX12_best_76 (by decide) ((congrFun (hE29_6.2 38 rfl rfl) _).trans ((congrFun (hFc6.2 38 rfl rfl) _).trans ((congrFun (hFc5.2 38 rfl rfl) _).trans rfl))) ?_
          have f1209 := bl_38 (k := 0) hB
          refine g_vV (av := [vI 0, vI (P 38 0)]) (o := 0) (st := []) (m_X12_plants G H29_6 0 (P 38 0) (by decide) ⟨by have q0 := bl_38 (k := 0) hB; (clear gc3_is; omega), by have q0 := bl_38 (k := 0) hB; (clear gc3_is; omega)⟩ hB29_6 (by have q0 := bl_38 (k := 0) hB; have q1 := (((hE29_6.1 74 rfl).trans ((hFc6.1 74 rfl).trans rfl)) : H29_6 0 74 = (Pc5 0 74)); have q2 := b0_74 hBc5; (clear gc3_is; omega)) ((MV.fr (F := ([], [44, 45, 58])) vc5_MV (FrM.c (FrM.c FrM.rf hFc6 rfl) hE29_6 rfl) rfl).w) (RE.fr (F := ([], [44, 45, 58])) vc5_RE (FrM.c (FrM.c FrM.rf hFc6 rfl) hE29_6 rfl) rfl) _ (fun Pc1210 hBc1210 hFc1210 gc1210_st vc1210_MV vc1210_RE vc1210_RLt => ⟨rfl, ?_⟩)) cf_X12_plants t_1998 rfl (by decide) rfl rfl rfl (Nat.le_of_ble_eq_true rfl) (by decide) rfl dX12_best_77
          have z1211 : H29_6 0 74 = (Pc5 0 74) := ((hE29_6.1 74 rfl).trans ((hFc6.1 74 rfl).trans rfl))
          refine g_aload_n dX12_best_80 rfl ?_
          refine g_iconst dX12_best_81 ?_
          refine g_vI (av := [vI 0]) (o := 0) (st := []) (m_X12_allTests G Pc1210 0 (by decide) hBc1210 (okC.fr (F := ([62, 66, 74, 76], [41, 42, 43, 44, 45, 58])) v_okC (FrM.c (FrM.c (FrM.c (FrM.c FrM.rf hFc5 rfl) hFc6 rfl) hE29_6 rfl) hFc1210 rfl) rfl) vc1210_MV _ (fun rc1212 hc1212 Pc1212 hBc1212 hFc1212 vc1212_MV => ⟨rc1212, rfl, ?_⟩)) cf_X12_allTests t_2002 rfl (by decide) rfl rfl rfl (Nat.le_of_ble_eq_true rfl) (by decide) rfl dX12_best_82
          refine g_istore_n (l1 := [(2, vI rc1212), (0, vR 0), (1, vI a1)]) dX12_best_85 (by decide) rfl ?_
          refine g_iconst dX12_best_86 ?_
          refine g_istore_n (l1 := [(3, vI (-1)), (2, vI rc1212), (0, vR 0), (1, vI a1)]) dX12_best_87 (by decide) rfl ?_
          refine g_iconst dX12_best_88 ?_
          refine g_istore (l1 := [(4, vI 0), (3, vI (-1)), (2, vI rc1212), (0, vR 0), (1, vI a1)]) dX12_best_89 (by decide) rfl ?_
          have L91_1212 : ∀ (n91_1212 : Nat) (x91_4_1212 : Int) (h_x91_4_1212 : 0 ≤ x91_4_1212 ∧ x91_4_1212 ≤ 11) (x91_3_1212 : Int) (h_x91_3_1212 : (-1) ≤ x91_3_1212 ∧ x91_3_1212 ≤ 11) (x91_2_1212 : Int) (h_x91_2_1212 : (-2147483648) ≤ x91_2_1212 ∧ x91_2_1212 ≤ 2147483647) (H91_1212 : PH) (hB91_1212 : BdM H91_1212) (hE91_1212 : FrM ([62, 66, 74, 76, 78], [35, 36, 37, 38, 39, 40, 41, 42, 43, 44, 49, 50]) Pc1212 H91_1212) (i91_0_1212 : H91_1212 0 74 ≤ P 0 74 + 2 + x91_4_1212) (i91_1_1212 : AM A H91_1212) (w91_MV_1212 : MV H91_1212) (w91_RE_1212 : RE H91_1212) (w91_MVw_1212 : MVw H91_1212) (w91_RLt_1212 : RLt H91_1212) (w91_q3_1212 : AM A H91_1212) (hm91_1212 : ((12 - x91_4_1212) : Int).toNat < n91_1212), Go WSM G 6 iX12_best 91 [(0, vR 0), (1, vI a1), (2, vI x91_2_1212), (3, vI x91_3_1212), (4, vI x91_4_1212)] [] H91_1212 Q := by
            intro n91_1212
            induction n91_1212 with
            | zero => intro x91_4_1212 h_x91_4_1212 x91_3_1212 h_x91_3_1212 x91_2_1212 h_x91_2_1212 H91_1212 hB91_1212 hE91_1212 i91_0_1212 i91_1_1212 w91_MV_1212 w91_RE_1212 w91_MVw_1212 w91_RLt_1212 w91_q3_1212 hm91_1212; exact absurd hm91_1212 (Nat.not_lt_zero _)
            | succ n91_1212 ih91_1212 =>
            intro x91_4_1212 h_x91_4_1212 x91_3_1212 h_x91_3_1212 x91_2_1212 h_x91_2_1212 H91_1212 hB91_1212 hE91_1212 i91_0_1212 i91_1_1212 w91_MV_1212 w91_RE_1212 w91_MVw_1212 w91_RLt_1212 w91_q3_1212 hm91_1212
            have iv1345 : AM A H91_1212 := i91_1_1212
            refine g_iload dX12_best_91 rfl ?_
            refine g_iconst dX12_best_93 ?_
            refine g_iadd dX12_best_94 ?_
            refine g_aload_n dX12_best_95 rfl ?_
            refine m_g53 rfl dX12_best_96 ?_
            refine g_iconst dX12_best_99 ?_
            refine m_l35 (z := (H91_1212 35 0)) dX12_best_100 (by decide) rfl ?_
            have f1346 := bl_35 (k := 0) hB91_1212
            refine g_icmp_ge (tgt := 173) dX12_best_101 (by decide) ⟨by (clear gc3_is; omega), by (clear gc3_is; omega)⟩ ⟨by have q0 := bl_35 (k := 0) hB91_1212; (clear gc3_is; omega), by have q0 := bl_35 (k := 0) hB91_1212; (clear gc3_is; omega)⟩ (fun k1347 => ?_) (fun k1347 => ?_)
            · skip
              refine g_iload_n dX12_best_173 rfl ?_
              refine g_if_ne (tgt := 181) dX12_best_174 (by decide) ⟨by (clear gc3_is; omega), by (clear gc3_is; omega)⟩ (fun k1348 => ?_) (fun k1348 => ?_)
              · have k1348n : 1 ≤ a1 := by (clear gc3_is; omega)
                clear k1348
                skip
                refine g_iload_n dX12_best_181 rfl ?_
                exact g_retI dX12_best_182 rfl (hQ x91_2_1212 ⟨by (clear gc3_is; omega), by (clear gc3_is; omega)⟩ _ hB91_1212 (FrM.c (FrM.c (FrM.c (FrM.c (FrM.c (FrM.c FrM.rf hFc5 rfl) hFc6 rfl) hE29_6 rfl) hFc1210 rfl) hFc1212 rfl) hE91_1212 rfl) (by have q0 := b0_74 hB91_1212; (clear gc3_is; omega)) w91_MVw_1212 w91_RE_1212 (iv1345))
              · skip
                refine g_iload_n dX12_best_177 rfl ?_
                refine g_goto (tgt := 182) dX12_best_178 (by decide) ?_
                exact g_retI dX12_best_182 rfl (hQ x91_3_1212 ⟨by (clear gc3_is; omega), by (clear gc3_is; omega)⟩ _ hB91_1212 (FrM.c (FrM.c (FrM.c (FrM.c (FrM.c (FrM.c FrM.rf hFc5 rfl) hFc6 rfl) hE29_6 rfl) hFc1210 rfl) hFc1212 rfl) hE91_1212 rfl) (by have q0 := b0_74 hB91_1212; (clear gc3_is; omega)) w91_MVw_1212 w91_RE_1212 (iv1345))
            · skip
              refine g_aload_n dX12_best_104 rfl ?_
              refine m_g91 rfl dX12_best_105 ?_
              refine g_iload dX12_best_108 rfl ?_
              refine m_l58 (z := (H29_6 58 x91_4_1212)) dX12_best_110 ⟨by (clear gc3_is; omega), by (clear gc3_is; omega)⟩ ((congrFun (hE91_1212.2 58 rfl rfl) _).trans ((congrFun (hFc1212.2 58 rfl rfl) _).trans ((congrFun (hFc1210.2 58 rfl rfl) _).trans rfl))) ?_
              have f1349 := bl_58 (k := x91_4_1212) hB29_6
              have J167_1359 : ∀ (x167_3_1359 : Int) (h_x167_3_1359 : (-1) ≤ x167_3_1359 ∧ x167_3_1359 ≤ 11) (x167_2_1359 : Int) (h_x167_2_1359 : (-2147483648) ≤ x167_2_1359 ∧ x167_2_1359 ≤ 2147483647) (H167_1359 : PH) (hB167_1359 : BdM H167_1359) (hE167_1359 : FrM ([62, 66, 74, 76, 78], [35, 36, 37, 38, 39, 40, 41, 42, 43, 44, 49, 50]) H91_1212 H167_1359) (i167_0_1359 : H167_1359 0 74 ≤ P 0 74 + 3 + x91_4_1212) (w167_MV_1359 : MV H167_1359) (w167_RE_1359 : RE H167_1359) (w167_MVw_1359 : MVw H167_1359) (w167_RLt_1359 : RLt H167_1359) (w167_q3_1359 : AM A H167_1359), Go WSM G 6 iX12_best 167 [(0, vR 0), (1, vI a1), (2, vI x167_2_1359), (3, vI x167_3_1359), (4, vI x91_4_1212)] [] H167_1359 Q := by
                intro x167_3_1359 h_x167_3_1359 x167_2_1359 h_x167_2_1359 H167_1359 hB167_1359 hE167_1359 i167_0_1359 w167_MV_1359 w167_RE_1359 w167_MVw_1359 w167_RLt_1359 w167_q3_1359
                refine g_iinc (l1 := [(4, vI (x91_4_1212 + 1)), (0, vR 0), (1, vI a1), (2, vI x167_2_1359), (3, vI x167_3_1359)]) dX12_best_167 rfl (by decide) rfl ?_
                refine g_goto (tgt := 91) dX12_best_170 (by decide) ?_
                refine g_forget (l1 := [(0, vR 0), (1, vI a1), (2, vI x167_2_1359), (3, vI x167_3_1359), (4, vI (x91_4_1212 + 1))]) (by intro q hq; simp only [List.mem_cons, List.not_mem_nil, or_false] at hq ⊢; rcases hq with rfl | rfl | rfl | rfl | rfl <;> simp) ?_
                exact ih91_1212 (x91_4_1212 + 1) ⟨by (clear gc3_is; omega), by (clear gc3_is; omega)⟩ x167_3_1359 ⟨by (clear gc3_is; omega), by (clear gc3_is; omega)⟩ x167_2_1359 ⟨by (clear gc3_is; omega), by (clear gc3_is; omega)⟩ _ hB167_1359 (FrM.c (FrM.c FrM.rf hE91_1212 rfl) hE167_1359 rfl) (by have q0 := b0_74 hB167_1359; (clear gc3_is; omega)) (w167_q3_1359) w167_MV_1359 w167_RE_1359 w167_MVw_1359 w167_RLt_1359 w167_q3_1359 (by (clear gc3_is; omega))
              refine g_if_ne (tgt := 117) dX12_best_111 (by decide) ⟨by have q0 := bl_58 (k := x91_4_1212) hB29_6; (clear gc3_is; omega), by have q0 := bl_58 (k := x91_4_1212) hB29_6; (clear gc3_is; omega)⟩ (fun k1361 => ?_) (fun k1361 => ?_)
              · have k1361n : 1 ≤ (H29_6 58 x91_4_1212) := by have q0 := bl_58 (k := x91_4_1212) hB29_6; (clear gc3_is; omega)
                clear k1361
                skip
                refine g_aload_n dX12_best_117 rfl ?_
                refine g_iconst dX12_best_118 ?_
                refine g_iconst dX12_best_119 ?_
                have hpm := iv1345
                have hbk := hB91_1212
                refine g_vV (av := [vI 1, vI 0]) (o := 0) (st := []) (f_X12_copies G H91_1212 1 0 (by decide) (by decide) hB91_1212 (by decide) _ (fun Pc1362 hBc1362 hFc1362 gc1362_o gc1362_cy => ⟨rfl, ?_⟩)) cf_X12_copies t_1859 rfl (by decide) rfl rfl rfl (Nat.le_of_ble_eq_true rfl) (by decide) rfl dX12_best_120
                have iv1363 : AM A Pc1362 := hpm.un1 hbk gc1362_cy hFc1362
                refine g_aload_n dX12_best_123 rfl ?_
                refine g_iconst dX12_best_124 ?_
                refine g_iload dX12_best_125 rfl ?_
                refine g_iload dX12_best_127 rfl ?_
                refine g_iconst dX12_best_129 ?_
                refine g_iadd dX12_best_130 ?_
                have hpm := iv1363
                have hbk := hBc1362
                refine g_vV (av := [vI 1, vI x91_4_1212, vI (x91_4_1212 + 1)]) (o := 0) (st := []) (f_X12_exchanges G Pc1362 1 x91_4_1212 (x91_4_1212 + 1) (by decide) ⟨by (clear gc3_is gc1362_o; omega), by (clear gc3_is gc1362_o; omega)⟩ ⟨by (clear gc3_is gc1362_o; omega), by (clear gc3_is gc1362_o; omega)⟩ hBc1362  _ (fun Pc1364 hBc1364 hFc1364 gc1364_x1 gc1364_x2 gc1364_xo => ⟨rfl, ?_⟩)) cf_X12_exchanges t_2103 rfl (by decide) rfl rfl rfl (Nat.le_of_ble_eq_true rfl) (by decide) rfl dX12_best_131
                have iv1365 : AM A Pc1364 := hpm.un2 hbk gc1364_xo ⟨by (clear gc3_is gc1362_o; omega), by (clear gc3_is gc1362_o; omega)⟩ ⟨by (clear gc3_is gc1362_o; omega), by (clear gc3_is gc1362_o; omega)⟩ hFc1364
                refine g_aload_n dX12_best_134 rfl ?_
                refine g_iconst dX12_best_135 ?_
                refine g_aload_n dX12_best_136 rfl ?_
                refine m_g56 rfl dX12_best_137 ?_
                refine g_iconst dX12_best_140 ?_
                refine m_l38 (z := (Pc1362 38 1)) dX12_best_141 (by decide) ((congrFun (hFc1364.2 38 rfl rfl) _).trans rfl) ?_
                have f1366 := bl_38 (k := 1) hBc1362
                refine g_vV (av := [vI 1, vI (Pc1362 38 1)]) (o := 0) (st := []) (m_X12_plants G Pc1364 1 (Pc1362 38 1) (by decide) ⟨by have q0 := bl_38 (k := 1) hBc1362; (clear gc3_is gc1362_o; omega), by have q0 := bl_38 (k := 1) hBc1362; (clear gc3_is gc1362_o; omega)⟩ hBc1364 (by have q0 := bl_38 (k := 1) hBc1362; have q1 := (((hFc1364.1 74 rfl).trans ((hFc1362.1 74 rfl).trans rfl)) : Pc1364 0 74 = (H91_1212 0 74)); have q2 := b0_74 hB91_1212; (clear gc3_is gc1362_o; omega)) (MVw.fr (F := ([], [35, 36, 37, 38, 39, 40])) w91_MVw_1212 (FrM.c (FrM.c FrM.rf hFc1362 rfl) hFc1364 rfl) rfl) (RE.fr (F := ([], [35, 36, 37, 38, 39, 40])) w91_RE_1212 (FrM.c (FrM.c FrM.rf hFc1362 rfl) hFc1364 rfl) rfl) _ (fun Pc1367 hBc1367 hFc1367 gc1367_st vc1367_MV vc1367_RE vc1367_RLt => ⟨rfl, ?_⟩)) cf_X12_plants t_1998 rfl (by decide) rfl rfl rfl (Nat.le_of_ble_eq_true rfl) (by decide) rfl dX12_best_142
                have z1368 : Pc1364 0 74 = (H91_1212 0 74) := ((hFc1364.1 74 rfl).trans ((hFc1362.1 74 rfl).trans rfl))
                refine g_aload_n dX12_best_145 rfl ?_
                refine g_iconst dX12_best_146 ?_
                refine g_vI (av := [vI 1]) (o := 0) (st := []) (m_X12_allTests G Pc1367 1 (by decide) hBc1367 (okC.fr (F := ([62, 66, 74, 76, 78], [35, 36, 37, 38, 39, 40, 41, 42, 43, 44, 45, 49, 50, 58])) v_okC (FrM.c (FrM.c (FrM.c (FrM.c (FrM.c (FrM.c (FrM.c (FrM.c (FrM.c FrM.rf hFc5 rfl) hFc6 rfl) hE29_6 rfl) hFc1210 rfl) hFc1212 rfl) hE91_1212 rfl) hFc1362 rfl) hFc1364 rfl) hFc1367 rfl) rfl) vc1367_MV _ (fun rc1369 hc1369 Pc1369 hBc1369 hFc1369 vc1369_MV => ⟨rc1369, rfl, ?_⟩)) cf_X12_allTests t_2002 rfl (by decide) rfl rfl rfl (Nat.le_of_ble_eq_true rfl) (by decide) rfl dX12_best_147
                refine g_istore (l1 := [(5, vI rc1369), (0, vR 0), (1, vI a1), (2, vI x91_2_1212), (3, vI x91_3_1212), (4, vI x91_4_1212)]) dX12_best_150 (by decide) rfl ?_
                refine g_iload dX12_best_152 rfl ?_
                refine g_iload_n dX12_best_154 rfl ?_
                refine g_icmp_lt (tgt := 161) dX12_best_155 (by decide) ⟨by (clear gc3_is gc1362_o; omega), by (clear gc3_is gc1362_o; omega)⟩ ⟨by (clear gc3_is gc1362_o; omega), by (clear gc3_is gc1362_o; omega)⟩ (fun k1370 => ?_) (fun k1370 => ?_)
                · have r_gc1362_o := (gc1362_o.resolve_left (by (clear gc3_is gc1362_o; omega)))
                  skip
                  refine g_iload dX12_best_161 rfl ?_
                  refine g_istore_n (l1 := [(2, vI rc1369), (5, vI rc1369), (0, vR 0), (1, vI a1), (3, vI x91_3_1212), (4, vI x91_4_1212)]) dX12_best_163 (by decide) rfl ?_
                  refine g_iload dX12_best_164 rfl ?_
                  refine g_istore_n (l1 := [(3, vI x91_4_1212), (2, vI rc1369), (5, vI rc1369), (0, vR 0), (1, vI a1), (4, vI x91_4_1212)]) dX12_best_166 (by decide) rfl ?_
                  refine g_forget (l1 := [(0, vR 0), (1, vI a1), (2, vI rc1369), (3, vI x91_4_1212), (4, vI x91_4_1212)]) (by intro q hq; simp only [List.mem_cons, List.not_mem_nil, or_false] at hq ⊢; rcases hq with rfl | rfl | rfl | rfl | rfl <;> simp) ?_
                  exact J167_1359 x91_4_1212 ⟨by (clear gc3_is gc1362_o; omega), by (clear gc3_is gc1362_o; omega)⟩ rc1369 ⟨by (clear gc3_is gc1362_o; omega), by (clear gc3_is gc1362_o; omega)⟩ _ hBc1369 (FrM.c (FrM.c (FrM.c (FrM.c FrM.rf hFc1362 rfl) hFc1364 rfl) hFc1367 rfl) hFc1369 rfl) (by have q0 := (((hFc1369.1 74 rfl).trans rfl) : Pc1369 0 74 = (Pc1367 0 74)); have q1 := b0_74 hBc1367; (clear gc3_is gc1362_o; omega)) vc1369_MV (RE.fr (F := ([78], [44, 49, 50])) vc1367_RE (FrM.c FrM.rf hFc1369 rfl) rfl) (vc1369_MV.w) (RLt.fr (F := ([78], [44, 49, 50])) vc1367_RLt (FrM.c FrM.rf hFc1369 rfl) rfl) (AM.fr (F := ([62, 66, 74, 76, 78], [41, 42, 43, 44, 49, 50])) iv1365 (FrM.c (FrM.c FrM.rf hFc1367 rfl) hFc1369 rfl) rfl)
                · have r_gc1362_o := (gc1362_o.resolve_left (by (clear gc3_is gc1362_o; omega)))
                  skip
                  refine g_goto (tgt := 167) dX12_best_158 (by decide) ?_
                  refine g_forget (l1 := [(0, vR 0), (1, vI a1), (2, vI x91_2_1212), (3, vI x91_3_1212), (4, vI x91_4_1212)]) (by intro q hq; simp only [List.mem_cons, List.not_mem_nil, or_false] at hq ⊢; rcases hq with rfl | rfl | rfl | rfl | rfl <;> simp) ?_
                  exact J167_1359 x91_3_1212 ⟨by (clear gc3_is gc1362_o; omega), by (clear gc3_is gc1362_o; omega)⟩ x91_2_1212 ⟨by (clear gc3_is gc1362_o; omega), by (clear gc3_is gc1362_o; omega)⟩ _ hBc1369 (FrM.c (FrM.c (FrM.c (FrM.c FrM.rf hFc1362 rfl) hFc1364 rfl) hFc1367 rfl) hFc1369 rfl) (by have q0 := (((hFc1369.1 74 rfl).trans rfl) : Pc1369 0 74 = (Pc1367 0 74)); have q1 := b0_74 hBc1367; (clear gc3_is gc1362_o; omega)) vc1369_MV (RE.fr (F := ([78], [44, 49, 50])) vc1367_RE (FrM.c FrM.rf hFc1369 rfl) rfl) (vc1369_MV.w) (RLt.fr (F := ([78], [44, 49, 50])) vc1367_RLt (FrM.c FrM.rf hFc1369 rfl) rfl) (AM.fr (F := ([62, 66, 74, 76, 78], [41, 42, 43, 44, 49, 50])) iv1365 (FrM.c (FrM.c FrM.rf hFc1367 rfl) hFc1369 rfl) rfl)
              · skip
                refine g_goto (tgt := 167) dX12_best_114 (by decide) ?_
                refine g_forget (l1 := [(0, vR 0), (1, vI a1), (2, vI x91_2_1212), (3, vI x91_3_1212), (4, vI x91_4_1212)]) (by intro q hq; simp only [List.mem_cons, List.not_mem_nil, or_false] at hq ⊢; rcases hq with rfl | rfl | rfl | rfl | rfl <;> simp) ?_
                exact J167_1359 x91_3_1212 ⟨by (clear gc3_is; omega), by (clear gc3_is; omega)⟩ x91_2_1212 ⟨by (clear gc3_is; omega), by (clear gc3_is; omega)⟩ _ hB91_1212 FrM.rf (by have q0 := b0_74 hB91_1212; (clear gc3_is; omega)) w91_MV_1212 w91_RE_1212 w91_MVw_1212 w91_RLt_1212 iv1345
          refine g_forget (l1 := [(0, vR 0), (1, vI a1), (2, vI rc1212), (3, vI (-1)), (4, vI 0)]) (by intro q hq; simp only [List.mem_cons, List.not_mem_nil, or_false] at hq ⊢; rcases hq with rfl | rfl | rfl | rfl | rfl <;> simp) ?_
          exact L91_1212 _ 0 (by decide) (-1) (by decide) rc1212 ⟨by (clear gc3_is; omega), by (clear gc3_is; omega)⟩ _ hBc1212 FrM.rf (by have q0 := (((hFc1212.1 74 rfl).trans rfl) : Pc1212 0 74 = (Pc1210 0 74)); have q1 := b0_74 hBc1210; (clear gc3_is; omega)) ((AM.fr (F := ([62, 66, 74, 76, 78], [41, 42, 43, 44, 45, 49, 50, 58])) z0 (FrM.c (FrM.c (FrM.c (FrM.c (FrM.c FrM.rf hFc5 rfl) hFc6 rfl) hE29_6 rfl) hFc1210 rfl) hFc1212 rfl) rfl)) vc1212_MV (RE.fr (F := ([78], [44, 49, 50])) vc1210_RE (FrM.c FrM.rf hFc1212 rfl) rfl) (vc1212_MV.w) (RLt.fr (F := ([78], [44, 49, 50])) vc1210_RLt (FrM.c FrM.rf hFc1212 rfl) rfl) (AM.fr (F := ([62, 66, 74, 76, 78], [41, 42, 43, 44, 45, 49, 50, 58])) z0 (FrM.c (FrM.c (FrM.c (FrM.c (FrM.c FrM.rf hFc5 rfl) hFc6 rfl) hE29_6 rfl) hFc1210 rfl) hFc1212 rfl) rfl) (Nat.lt_succ_self _)
        · skip
          refine g_aload_n dX12_best_41 rfl ?_
          refine m_g91 rfl dX12_best_42 ?_
          refine g_iload_n dX12_best_45 rfl ?_
          refine g_aload_n dX12_best_46 rfl ?_
          refine g_iload_n dX12_best_47 rfl ?_
          refine g_iload_n dX12_best_48 rfl ?_
          refine g_iconst dX12_best_49 ?_
          refine g_iadd dX12_best_50 ?_
          refine g_vI (av := [vI x29_2_6, vI (x29_2_6 + 1)]) (o := 0) (st := [vI x29_2_6, vR 58]) (m_X12_isSafe G H29_6 x29_2_6 (x29_2_6 + 1) ⟨by (clear gc3_is; omega), by (clear gc3_is; omega)⟩ ⟨by (clear gc3_is; omega), by (clear gc3_is; omega)⟩ hB29_6  _ (fun rc1371 hc1371 => ⟨rc1371, rfl, ?_⟩)) cf_X12_isSafe t_2089 rfl (by decide) rfl rfl rfl (Nat.le_of_ble_eq_true rfl) (by decide) rfl dX12_best_51
          refine g_if_eq (tgt := 61) dX12_best_54 (by decide) ⟨by (clear gc3_is; omega), by (clear gc3_is; omega)⟩ (fun k1372 => ?_) (fun k1372 => ?_)
          · skip
            refine g_iconst dX12_best_61 ?_
            refine m_s58 dX12_best_62 ⟨by (clear gc3_is; omega), by (clear gc3_is; omega)⟩ ?_
            have hB1373 := ba_58 (z := 0) (k := x29_2_6) hB29_6 (by decide)
            refine g_iinc (l1 := [(2, vI (x29_2_6 + 1)), (0, vR 0), (1, vI a1)]) dX12_best_63 rfl (by decide) rfl ?_
            refine g_goto (tgt := 29) dX12_best_66 (by decide) ?_
            refine g_forget (l1 := [(0, vR 0), (1, vI a1), (2, vI (x29_2_6 + 1))]) (by intro q hq; simp only [List.mem_cons, List.not_mem_nil, or_false] at hq ⊢; rcases hq with rfl | rfl | rfl <;> simp) ?_
            exact ih29_6 (x29_2_6 + 1) ⟨by (clear gc3_is; omega), by (clear gc3_is; omega)⟩ _ hB1373 (FrM.a (FrM.c FrM.rf hE29_6 rfl) rfl rfl) (by (clear gc3_is; omega))
          · have k1372n : 1 ≤ rc1371 := by (clear gc3_is; omega)
            clear k1372
            skip
            refine g_iconst dX12_best_57 ?_
            refine g_goto (tgt := 62) dX12_best_58 (by decide) ?_
            refine m_s58 dX12_best_62 ⟨by (clear gc3_is; omega), by (clear gc3_is; omega)⟩ ?_
            have hB1374 := ba_58 (z := 1) (k := x29_2_6) hB29_6 (by decide)
            refine g_iinc (l1 := [(2, vI (x29_2_6 + 1)), (0, vR 0), (1, vI a1)]) dX12_best_63 rfl (by decide) rfl ?_
            refine g_goto (tgt := 29) dX12_best_66 (by decide) ?_
            refine g_forget (l1 := [(0, vR 0), (1, vI a1), (2, vI (x29_2_6 + 1))]) (by intro q hq; simp only [List.mem_cons, List.not_mem_nil, or_false] at hq ⊢; rcases hq with rfl | rfl | rfl <;> simp) ?_
            exact ih29_6 (x29_2_6 + 1) ⟨by (clear gc3_is; omega), by (clear gc3_is; omega)⟩ _ hB1374 (FrM.a (FrM.c FrM.rf hE29_6 rfl) rfl rfl) (by (clear gc3_is; omega))
      refine g_forget (l1 := [(0, vR 0), (1, vI a1), (2, vI 0)]) (by intro q hq; simp only [List.mem_cons, List.not_mem_nil, or_false] at hq ⊢; rcases hq with rfl | rfl | rfl <;> simp) ?_
      exact L29_6 _ 0 (by decide) _ hBc6 FrM.rf (Nat.lt_succ_self _)
    · skip
      refine g_iconst dX12_best_16 ?_
      exact g_retI dX12_best_17 rfl (hQ (-1) (by decide) _ hB FrM.rf (by have q0 := b0_74 hB; (clear gc3_is k4; omega)) v_MVw v_RE (z0))
/-! What the reference answers: X12_has. -/
set_option maxRecDepth 100000 in
set_option maxHeartbeats 4000000 in
theorem f_X12_has (G : GT) (P : PH) (K : PH) (M : PH) (A : PH) (a1 : Int) (h_a1 : (-2147483648) ≤ a1 ∧ a1 ≤ 2147483647) (hB : BdM P) (p_m0 : M 0 0 = 0 → M 0 1 = 0) (z0 : MKB K P) (z1 : MMB M P) (z2 : MH M P) (z3 : MR M P) (z4 : AM A P) (Q : Option PV → PH → Prop) (hQ : ∀ (r : Int) (_ : (-2147483648) ≤ r ∧ r ≤ 2147483647) (_ : r = hasV K M A a1), Q (some (vI r)) P) : Ct WSM G 2 iX12_has [vR 0, vI a1] P Q := by
  refine Ct.of (by decide) (l0 := [(0, vR 0), (1, vI a1)]) rfl (Nat.le_of_ble_eq_true rfl) ?_
  have hb := z4.b
  have hk1 := z0.1
  have hk2 := z0.2.1
  have hmm := z1.1
  have hmh := z2
  unfold MH at hmh
  have hmr := z3
  unfold MR at hmr
  have h39 := m40_s (A 0 3)
  have q44 := b0_44 hB
  have q13 := b0_13 hB
  have q11 := bl_11 (k := P 0 13) hB
  refine g_iload_n dX12_has_0 rfl ?_
  by_cases k1 : a1 = 0
  · skip
    refine g_tswI (tgt := 60) 0 dX12_has_1 ⟨by (clear p_m0 hb hmh hmr h39; omega), by (clear p_m0 hb hmh hmr h39; omega)⟩ (by (clear p_m0 hb hmh hmr h39; omega)) (by (clear p_m0 hb hmh hmr h39; omega)) rfl (by decide) ?_
    refine g_aload_n dX12_has_60 rfl ?_
    refine m_g14 rfl dX12_has_61 ?_
    refine g_aload_n dX12_has_64 rfl ?_
    refine m_g13 (z := (P 0 13)) rfl dX12_has_65 rfl ?_
    refine m_l2 (z := (P 2 (P 0 13))) dX12_has_68 ⟨by have q0 := b0_13 hB; (clear p_m0 hb hmh hmr h39; omega), by have q0 := b0_13 hB; (clear p_m0 hb hmh hmr h39; omega)⟩ rfl ?_
    exact g_retI dX12_has_69 rfl (hQ (P 2 (P 0 13)) ⟨by have q0 := bl_2 (k := (P 0 13)) hB; (clear p_m0 hb hmh hmr h39; omega), by have q0 := bl_2 (k := (P 0 13)) hB; (clear p_m0 hb hmh hmr h39; omega)⟩ (by unfold hasV; (repeat (first | rw [if_pos (by (clear p_m0 hb hmh hmr h39; omega))] | rw [if_neg (by (first | (clear p_m0 hb hmh hmr h39; omega) | (clear p_m0 hb hmh hmr; omega) | (clear p_m0 hb hmh h39; omega) | (clear p_m0 hb hmr h39; omega) | (clear p_m0 hmh hmr h39; omega) | (clear hb hmh hmr h39; omega) | (clear p_m0 hb hmh; omega) | (clear p_m0; omega) | omega))])); (try (clear p_m0 hb hmh hmr h39; omega))))
  by_cases k2 : a1 = 1
  · skip
    refine g_tswI (tgt := 70) 1 dX12_has_1 ⟨by (clear p_m0 hb hmh hmr h39; omega), by (clear p_m0 hb hmh hmr h39; omega)⟩ (by (clear p_m0 hb hmh hmr h39; omega)) (by (clear p_m0 hb hmh hmr h39; omega)) rfl (by decide) ?_
    refine g_aload_n dX12_has_70 rfl ?_
    refine m_g17 rfl dX12_has_71 ?_
    refine g_aload_n dX12_has_74 rfl ?_
    refine m_g13 (z := (P 0 13)) rfl dX12_has_75 rfl ?_
    refine m_l5 (z := (P 5 (P 0 13))) dX12_has_78 ⟨by have q0 := b0_13 hB; (clear p_m0 hb hmh hmr h39; omega), by have q0 := b0_13 hB; (clear p_m0 hb hmh hmr h39; omega)⟩ rfl ?_
    exact g_retI dX12_has_79 rfl (hQ (P 5 (P 0 13)) ⟨by have q0 := bl_5 (k := (P 0 13)) hB; (clear p_m0 hb hmh hmr h39; omega), by have q0 := bl_5 (k := (P 0 13)) hB; (clear p_m0 hb hmh hmr h39; omega)⟩ (by unfold hasV; (repeat (first | rw [if_pos (by (clear p_m0 hb hmh hmr h39; omega))] | rw [if_neg (by (clear p_m0 hb hmh hmr h39; omega))])); (try (clear p_m0 hb hmh hmr h39; omega))))
  by_cases k3 : a1 = 2
  · skip
    refine g_tswI (tgt := 80) 2 dX12_has_1 ⟨by (clear p_m0 hb hmh hmr h39; omega), by (clear p_m0 hb hmh hmr h39; omega)⟩ (by (clear p_m0 hb hmh hmr h39; omega)) (by (clear p_m0 hb hmh hmr h39; omega)) rfl (by decide) ?_
    refine g_aload_n dX12_has_80 rfl ?_
    refine g_vI (av := []) (o := 0) (st := []) (m_X12_columns G P  hB  _ (fun rc4 hc4 gc4_c => ⟨rc4, rfl, ?_⟩)) cf_X12_columns t_1827 rfl (by decide) rfl rfl rfl (Nat.le_of_ble_eq_true rfl) (by decide) rfl dX12_has_81
    exact g_retI dX12_has_84 rfl (hQ rc4 ⟨by (clear p_m0 hb hmh hmr h39; omega), by (clear p_m0 hb hmh hmr h39; omega)⟩ (by unfold hasV; (repeat (first | rw [if_pos (by (clear p_m0 hb hmh hmr h39; omega))] | rw [if_neg (by (clear p_m0 hb hmh hmr h39; omega))])); (try (clear p_m0 hb hmh hmr h39; omega))))
  by_cases k5 : a1 = 3
  · skip
    refine g_tswI (tgt := 85) 3 dX12_has_1 ⟨by (clear p_m0 hb hmh hmr h39; omega), by (clear p_m0 hb hmh hmr h39; omega)⟩ (by (clear p_m0 hb hmh hmr h39; omega)) (by (clear p_m0 hb hmh hmr h39; omega)) rfl (by decide) ?_
    refine g_aload_n dX12_has_85 rfl ?_
    refine m_g44 (z := (P 0 44)) rfl dX12_has_86 rfl ?_
    have f6 := b0_44 hB
    refine g_if_eq (tgt := 99) dX12_has_89 (by decide) ⟨by have q0 := b0_44 hB; (clear p_m0 hb hmh hmr h39; omega), by have q0 := b0_44 hB; (clear p_m0 hb hmh hmr h39; omega)⟩ (fun k7 => ?_) (fun k7 => ?_)
    · skip
      refine g_iconst dX12_has_99 ?_
      exact g_retI dX12_has_100 rfl (hQ 0 (by decide) (by unfold hasV; (repeat (first | rw [if_pos (by (clear p_m0 hb hmh hmr h39 k7; omega))] | rw [if_neg (by (clear p_m0 hb hmh hmr h39 k7; omega))])); (try (omega))))
    · have k7n : 1 ≤ (P 0 44) := by have q0 := b0_44 hB; (clear p_m0 hb hmh hmr h39; omega)
      clear k7
      skip
      refine g_aload_n dX12_has_92 rfl ?_
      refine m_g52 (z := (P 0 52)) rfl dX12_has_93 rfl ?_
      refine g_goto (tgt := 100) dX12_has_96 (by decide) ?_
      exact g_retI dX12_has_100 rfl (hQ (P 0 52) ⟨by have q0 := b0_52 hB; (clear p_m0 hb hmh hmr h39; omega), by have q0 := b0_52 hB; (clear p_m0 hb hmh hmr h39; omega)⟩ (by unfold hasV; (repeat (first | rw [if_pos (by (clear p_m0 hb hmh hmr h39; omega))] | rw [if_neg (by (clear p_m0 hb hmh hmr h39; omega))])); (try (clear p_m0; omega))))
  by_cases k8 : a1 = 4
  · skip
    refine g_tswI (tgt := 101) 4 dX12_has_1 ⟨by (clear p_m0 hb hmh hmr h39; omega), by (clear p_m0 hb hmh hmr h39; omega)⟩ (by (clear p_m0 hb hmh hmr h39; omega)) (by (clear p_m0 hb hmh hmr h39; omega)) rfl (by decide) ?_
    refine g_aload_n dX12_has_101 rfl ?_
    refine m_g53 rfl dX12_has_102 ?_
    refine g_iconst dX12_has_105 ?_
    refine m_l35 (z := (P 35 0)) dX12_has_106 (by decide) rfl ?_
    exact g_retI dX12_has_107 rfl (hQ (P 35 0) ⟨by have q0 := bl_35 (k := 0) hB; (clear p_m0 hb hmh hmr h39; omega), by have q0 := bl_35 (k := 0) hB; (clear p_m0 hb hmh hmr h39; omega)⟩ (by unfold hasV; (repeat (first | rw [if_pos (by (clear p_m0 hb hmh hmr h39; omega))] | rw [if_neg (by (clear p_m0 hb hmh hmr h39; omega))])); (try (clear p_m0 hmh hmr h39; omega))))
  by_cases k9 : a1 = 5
  · skip
    refine g_tswI (tgt := 108) 5 dX12_has_1 ⟨by (clear p_m0 hb hmh hmr h39; omega), by (clear p_m0 hb hmh hmr h39; omega)⟩ (by (clear p_m0 hb hmh hmr h39; omega)) (by (clear p_m0 hb hmh hmr h39; omega)) rfl (by decide) ?_
    refine g_aload_n dX12_has_108 rfl ?_
    refine m_g55 rfl dX12_has_109 ?_
    refine g_iconst dX12_has_112 ?_
    refine m_l37 (z := (P 37 0)) dX12_has_113 (by decide) rfl ?_
    exact g_retI dX12_has_114 rfl (hQ (P 37 0) ⟨by have q0 := bl_37 (k := 0) hB; (clear p_m0 hb hmh hmr h39; omega), by have q0 := bl_37 (k := 0) hB; (clear p_m0 hb hmh hmr h39; omega)⟩ (by unfold hasV; (repeat (first | rw [if_pos (by (clear p_m0 hb hmh hmr h39; omega))] | rw [if_neg (by (clear p_m0 hb hmh hmr h39; omega))])); (try (clear p_m0 hmh hmr h39; omega))))
  by_cases k10 : a1 = 6
  · skip
    refine g_tswI (tgt := 115) 6 dX12_has_1 ⟨by (clear p_m0 hb hmh hmr h39; omega), by (clear p_m0 hb hmh hmr h39; omega)⟩ (by (clear p_m0 hb hmh hmr h39; omega)) (by (clear p_m0 hb hmh hmr h39; omega)) rfl (by decide) ?_
    refine g_aload_n dX12_has_115 rfl ?_
    refine m_g56 rfl dX12_has_116 ?_
    refine g_iconst dX12_has_119 ?_
    refine m_l38 (z := (P 38 0)) dX12_has_120 (by decide) rfl ?_
    exact g_retI dX12_has_121 rfl (hQ (P 38 0) ⟨by have q0 := bl_38 (k := 0) hB; (clear p_m0 hb hmh hmr h39; omega), by have q0 := bl_38 (k := 0) hB; (clear p_m0 hb hmh hmr h39; omega)⟩ (by unfold hasV; (repeat (first | rw [if_pos (by (clear p_m0 hb hmh hmr h39; omega))] | rw [if_neg (by (clear p_m0 hb hmh hmr h39; omega))])); (try (clear p_m0 hmh hmr h39; omega))))
  by_cases k11 : a1 = 7
  · skip
    refine g_tswI (tgt := 122) 7 dX12_has_1 ⟨by (clear p_m0 hb hmh hmr h39; omega), by (clear p_m0 hb hmh hmr h39; omega)⟩ (by (clear p_m0 hb hmh hmr h39; omega)) (by (clear p_m0 hb hmh hmr h39; omega)) rfl (by decide) ?_
    refine g_aload_n dX12_has_122 rfl ?_
    refine m_g57 rfl dX12_has_123 ?_
    refine g_iconst dX12_has_126 ?_
    refine m_l39 (z := (P 39 0)) dX12_has_127 (by decide) rfl ?_
    exact g_retI dX12_has_128 rfl (hQ (P 39 0) ⟨by have q0 := bl_39 (k := 0) hB; (clear p_m0 hb hmh hmr h39; omega), by have q0 := bl_39 (k := 0) hB; (clear p_m0 hb hmh hmr h39; omega)⟩ (by unfold hasV; (repeat (first | rw [if_pos (by (clear p_m0 hb hmh hmr h39; omega))] | rw [if_neg (by (clear p_m0 hb hmh hmr h39; omega))])); (try (clear p_m0 hmh hmr h39; omega))))
  by_cases k12 : a1 = 8
  · skip
    refine g_tswI (tgt := 129) 8 dX12_has_1 ⟨by (clear p_m0 hb hmh hmr h39; omega), by (clear p_m0 hb hmh hmr h39; omega)⟩ (by (clear p_m0 hb hmh hmr h39; omega)) (by (clear p_m0 hb hmh hmr h39; omega)) rfl (by decide) ?_
    refine g_aload_n dX12_has_129 rfl ?_
    refine m_g92 (z := (P 0 92)) rfl dX12_has_130 rfl ?_
    exact g_retI dX12_has_133 rfl (hQ (P 0 92) ⟨by have q0 := b0_92 hB; (clear p_m0 hb hmh hmr h39; omega), by have q0 := b0_92 hB; (clear p_m0 hb hmh hmr h39; omega)⟩ (by unfold hasV; (repeat (first | rw [if_pos (by (clear p_m0 hb hmh hmr h39; omega))] | rw [if_neg (by (clear p_m0 hb hmh hmr h39; omega))])); (try (clear p_m0 hmh hmr h39; omega))))
  by_cases k13 : a1 = 9
  · skip
    refine g_tswI (tgt := 134) 9 dX12_has_1 ⟨by (clear p_m0 hb hmh hmr h39; omega), by (clear p_m0 hb hmh hmr h39; omega)⟩ (by (clear p_m0 hb hmh hmr h39; omega)) (by (clear p_m0 hb hmh hmr h39; omega)) rfl (by decide) ?_
    refine g_aload_n dX12_has_134 rfl ?_
    refine m_g60 (z := (P 0 60)) rfl dX12_has_135 rfl ?_
    exact g_retI dX12_has_138 rfl (hQ (P 0 60) ⟨by have q0 := b0_60 hB; (clear p_m0 hb hmh hmr h39; omega), by have q0 := b0_60 hB; (clear p_m0 hb hmh hmr h39; omega)⟩ (by unfold hasV; (repeat (first | rw [if_pos (by (clear p_m0 hb hmh hmr h39; omega))] | rw [if_neg (by (clear p_m0 hb hmh hmr h39; omega))])); (try (clear p_m0 hmh hmr h39; omega))))
  by_cases k14 : a1 = 10
  · skip
    refine g_tswI (tgt := 139) 10 dX12_has_1 ⟨by (clear p_m0 hb hmh hmr h39; omega), by (clear p_m0 hb hmh hmr h39; omega)⟩ (by (clear p_m0 hb hmh hmr h39; omega)) (by (clear p_m0 hb hmh hmr h39; omega)) rfl (by decide) ?_
    refine g_aload_n dX12_has_139 rfl ?_
    refine m_g61 (z := (P 0 61)) rfl dX12_has_140 rfl ?_
    refine g_l2i dX12_has_143 ?_
    exact g_retI dX12_has_144 rfl (hQ (P 0 61) ⟨by have q0 := b0_61 hB; (clear p_m0 hb hmh hmr h39; omega), by have q0 := b0_61 hB; (clear p_m0 hb hmh hmr h39; omega)⟩ (by unfold hasV; (repeat (first | rw [if_pos (by (clear p_m0 hb hmh hmr h39; omega))] | rw [if_neg (by (clear p_m0 hb hmh hmr h39; omega))])); (try (clear p_m0 hmh hmr h39; omega))))
  refine g_tswO (tgt := 145) dX12_has_1 ⟨by (clear p_m0 hb hmh hmr h39; omega), by (clear p_m0 hb hmh hmr h39; omega)⟩ (by (clear p_m0 hb hmh hmr h39; omega)) (by decide) ?_
  refine g_iconst dX12_has_145 ?_
  exact g_retI dX12_has_146 rfl (hQ (-1) (by decide) (by unfold hasV; (repeat (first | rw [if_pos (by (first | (clear p_m0 hb hmh hmr h39; omega) | (clear p_m0 hb hmh hmr; omega) | (clear p_m0 hb hmh h39; omega) | (clear p_m0 hb hmr h39; omega) | (clear p_m0 hmh hmr h39; omega) | (clear hb hmh hmr h39; omega) | (clear p_m0 hb hmh; omega) | (clear p_m0; omega) | omega))] | rw [if_neg (by (clear p_m0 hb hmh hmr h39; omega))])); (try (first | (clear p_m0 hb hmh hmr h39; omega) | (clear p_m0 hb hmh hmr; omega) | (clear p_m0 hb hmh h39; omega) | (clear p_m0 hb hmr h39; omega) | (clear p_m0 hmh hmr h39; omega) | (clear hb hmh hmr h39; omega) | (clear p_m0 hb hmh; omega) | (clear p_m0; omega) | omega))))
/-! What the reference answers: X12_image. -/
set_option maxRecDepth 100000 in
set_option maxHeartbeats 4000000 in
theorem f_X12_image (G : GT) (P : PH) (A : PH) (hB : BdM P) (z0 : AM A P) (Q : Option PV → PH → Prop) (hQ : ∀ (r : Int) (_ : (-2147483648) ≤ r ∧ r ≤ 2147483647) (P1 : PH) (_ : BdM P1) (_ : FrM ([70], [46]) P P1) (_ : r = A 0 0 + 4), Q (some (vI r)) P1) : Ct WSM G 2 iX12_image [vR 0] P Q := by
  refine Ct.of (by decide) (l0 := [(0, vR 0)]) rfl (Nat.le_of_ble_eq_true rfl) ?_
  have hb := z0.b
  have q35 := bl_35 (k := 0) hB
  refine g_aload_n dX12_image_0 rfl ?_
  refine g_iconst dX12_image_1 ?_
  refine m_p70 rfl dX12_image_2 ?_
  have hB1 := bs_70 (z := 0) hB (by decide)
  refine g_aload_n dX12_image_5 rfl ?_
  refine g_aload_n dX12_image_6 rfl ?_
  refine m_g53 rfl dX12_image_7 ?_
  refine g_iconst dX12_image_10 ?_
  refine m_l35 (z := (P 35 0)) dX12_image_11 (by decide) ((up_o (by decide)).trans rfl) ?_
  have f2 := bl_35 (k := 0) hB
  refine g_vV (av := [vI (P 35 0)]) (o := 0) (st := []) (m_X12_writes G (up P 0 70 0) (P 35 0) ⟨by have q0 := bl_35 (k := 0) hB; (clear hb; omega), by have q0 := bl_35 (k := 0) hB; (clear hb; omega)⟩ hB1 (by have q0 := bl_35 (k := 0) hB; have q1 := (up_same : (up P 0 70 0) 0 70 = 0); (clear hb; omega)) _ (fun Pc3 hBc3 hFc3 gc3_o => ⟨rfl, ?_⟩)) cf_X12_writes t_1974 rfl (by decide) rfl rfl rfl (Nat.le_of_ble_eq_true rfl) (by decide) rfl dX12_image_12
  have z4 : (up P 0 70 0) 0 70 = 0 := up_same
  refine g_iconst dX12_image_15 ?_
  refine g_istore_n (l1 := [(1, vI 0), (0, vR 0)]) dX12_image_16 (by decide) rfl ?_
  have L17_4 : ∀ (n17_4 : Nat) (x17_1_4 : Int) (h_x17_1_4 : 0 ≤ x17_1_4 ∧ x17_1_4 ≤ 12) (H17_4 : PH) (hB17_4 : BdM H17_4) (hE17_4 : FrM ([70], [46]) Pc3 H17_4) (i17_0_4 : H17_4 0 70 = 1 + x17_1_4) (i17_1_4 : x17_1_4 ≤ A 0 0) (hm17_4 : ((13 - x17_1_4) : Int).toNat < n17_4), Go WSM G 2 iX12_image 17 [(0, vR 0), (1, vI x17_1_4)] [] H17_4 Q := by
    intro n17_4
    induction n17_4 with
    | zero => intro x17_1_4 h_x17_1_4 H17_4 hB17_4 hE17_4 i17_0_4 i17_1_4 hm17_4; exact absurd hm17_4 (Nat.not_lt_zero _)
    | succ n17_4 ih17_4 =>
    intro x17_1_4 h_x17_1_4 H17_4 hB17_4 hE17_4 i17_0_4 i17_1_4 hm17_4
    refine g_iload_n dX12_image_17 rfl ?_
    refine g_aload_n dX12_image_18 rfl ?_
    refine m_g53 rfl dX12_image_19 ?_
    refine g_iconst dX12_image_22 ?_
    refine m_l35 (z := (P 35 0)) dX12_image_23 (by decide) ((congrFun (hE17_4.2 35 rfl rfl) _).trans ((congrFun (hFc3.2 35 rfl rfl) _).trans ((up_o (by decide)).trans rfl))) ?_
    refine g_icmp_ge (tgt := 43) dX12_image_24 (by decide) ⟨by (clear hb; omega), by (clear hb; omega)⟩ ⟨by have q0 := bl_35 (k := 0) hB; (clear hb; omega), by have q0 := bl_35 (k := 0) hB; (clear hb; omega)⟩ (fun k798 => ?_) (fun k798 => ?_)
    · refine g_aload_n dX12_image_43 rfl ?_
      refine g_aload_n dX12_image_44 rfl ?_
      refine m_g55 rfl dX12_image_45 ?_
      refine g_iconst dX12_image_48 ?_
      refine m_l37 (z := (P 37 0)) dX12_image_49 (by decide) ((congrFun (hE17_4.2 37 rfl rfl) _).trans ((congrFun (hFc3.2 37 rfl rfl) _).trans ((up_o (by decide)).trans rfl))) ?_
      have f799 := bl_37 (k := 0) hB
      refine g_vV (av := [vI (P 37 0)]) (o := 0) (st := []) (m_X12_writes G H17_4 (P 37 0) ⟨by have q0 := bl_37 (k := 0) hB; (clear hb; omega), by have q0 := bl_37 (k := 0) hB; (clear hb; omega)⟩ hB17_4 (by have q0 := bl_37 (k := 0) hB; have q1 := b0_70 hB17_4; (clear hb; omega)) _ (fun Pc800 hBc800 hFc800 gc800_o => ⟨rfl, ?_⟩)) cf_X12_writes t_1974 rfl (by decide) rfl rfl rfl (Nat.le_of_ble_eq_true rfl) (by decide) rfl dX12_image_50
      refine g_aload_n dX12_image_53 rfl ?_
      refine g_aload_n dX12_image_54 rfl ?_
      refine m_g56 rfl dX12_image_55 ?_
      refine g_iconst dX12_image_58 ?_
      refine m_l38 (z := (P 38 0)) dX12_image_59 (by decide) ((congrFun (hFc800.2 38 rfl rfl) _).trans ((congrFun (hE17_4.2 38 rfl rfl) _).trans ((congrFun (hFc3.2 38 rfl rfl) _).trans ((up_o (by decide)).trans rfl)))) ?_
      have f801 := bl_38 (k := 0) hB
      refine g_vV (av := [vI (P 38 0)]) (o := 0) (st := []) (m_X12_writes G Pc800 (P 38 0) ⟨by have q0 := bl_38 (k := 0) hB; (clear hb; omega), by have q0 := bl_38 (k := 0) hB; (clear hb; omega)⟩ hBc800 (by have q0 := bl_38 (k := 0) hB; have q1 := b0_70 hBc800; (clear hb; omega)) _ (fun Pc802 hBc802 hFc802 gc802_o => ⟨rfl, ?_⟩)) cf_X12_writes t_1974 rfl (by decide) rfl rfl rfl (Nat.le_of_ble_eq_true rfl) (by decide) rfl dX12_image_60
      refine g_sipush dX12_image_63 (by decide) ?_
      refine g_istore_n (l1 := [(1, vI 199), (0, vR 0)]) dX12_image_66 (by decide) rfl ?_
      refine g_iconst dX12_image_67 ?_
      refine g_istore_n (l1 := [(2, vI 0), (1, vI 199), (0, vR 0)]) dX12_image_68 (by decide) rfl ?_
      have L69_802 : ∀ (n69_802 : Nat) (x69_2_802 : Int) (h_x69_2_802 : 0 ≤ x69_2_802 ∧ x69_2_802 ≤ 1800) (x69_1_802 : Int) (h_x69_1_802 : 0 ≤ x69_1_802 ∧ x69_1_802 ≤ 250) (hm69_802 : ((1801 - x69_2_802) : Int).toNat < n69_802), Go WSM G 2 iX12_image 69 [(0, vR 0), (1, vI x69_1_802), (2, vI x69_2_802)] [] Pc802 Q := by
        intro n69_802
        induction n69_802 with
        | zero => intro x69_2_802 h_x69_2_802 x69_1_802 h_x69_1_802 hm69_802; exact absurd hm69_802 (Nat.not_lt_zero _)
        | succ n69_802 ih69_802 =>
        intro x69_2_802 h_x69_2_802 x69_1_802 h_x69_1_802 hm69_802
        refine g_iload_n dX12_image_69 rfl ?_
        refine g_aload_n dX12_image_70 rfl ?_
        refine m_g70 (z := (Pc802 0 70)) rfl dX12_image_71 rfl ?_
        have f880 := b0_70 hBc802
        refine g_icmp_ge (tgt := 98) dX12_image_74 (by decide) ⟨by (clear hb; omega), by (clear hb; omega)⟩ ⟨by have q0 := b0_70 hBc802; (clear hb; omega), by have q0 := b0_70 hBc802; (clear hb; omega)⟩ (fun k881 => ?_) (fun k881 => ?_)
        · refine g_aload_n dX12_image_98 rfl ?_
          refine g_iload_n dX12_image_99 rfl ?_
          refine g_vV (av := [vI x69_1_802]) (o := 0) (st := []) (m_X12_writes G Pc802 x69_1_802 ⟨by (clear hb; omega), by (clear hb; omega)⟩ hBc802 (by have q0 := b0_70 hBc802; (clear hb; omega)) _ (fun Pc882 hBc882 hFc882 gc882_o => ⟨rfl, ?_⟩)) cf_X12_writes t_1974 rfl (by decide) rfl rfl rfl (Nat.le_of_ble_eq_true rfl) (by decide) rfl dX12_image_100
          refine g_aload_n dX12_image_103 rfl ?_
          refine m_g70 (z := (Pc882 0 70)) rfl dX12_image_104 rfl ?_
          exact g_retI dX12_image_107 rfl (hQ (Pc882 0 70) ⟨by have q0 := b0_70 hBc882; (clear hb; omega), by have q0 := b0_70 hBc882; (clear hb; omega)⟩ _ hBc882 (FrM.c (FrM.c (FrM.c (FrM.c (FrM.c (FrM.s FrM.rf rfl) hFc3 rfl) hE17_4 rfl) hFc800 rfl) hFc802 rfl) hFc882 rfl) (by have q0 := b0_70 hBc882; (omega)))
        · refine g_iconst dX12_image_77 ?_
          refine g_iload_n dX12_image_78 rfl ?_
          refine g_imul dX12_image_79 ?_
          refine g_aload_n dX12_image_80 rfl ?_
          refine m_g69 rfl dX12_image_81 ?_
          refine g_iload_n dX12_image_84 rfl ?_
          refine m_l46 (z := (Pc802 46 x69_2_802)) dX12_image_85 ⟨by (clear hb; omega), by (clear hb; omega)⟩ rfl ?_
          refine g_iadd dX12_image_86 ?_
          refine g_sipush dX12_image_87 (by decide) ?_
          refine g_irem dX12_image_90 ⟨(by decide), by decide⟩ ?_
          refine g_nm (fun b883 e_b883 => ?_)
          have h_b883 := irem_b (x := ((5 * x69_1_802) + (Pc802 46 x69_2_802))) (y := 251) ⟨by have q0 := bl_46 (k := x69_2_802) hBc802; (clear hb; omega), by have q0 := bl_46 (k := x69_2_802) hBc802; (clear hb; omega)⟩ ⟨by (clear hb; omega), by (clear hb; omega)⟩
          rw [← e_b883] at h_b883
          have f_b883_0 := bl_46 (k := x69_2_802) hBc802
          refine g_istore_n (l1 := [(1, vI b883), (0, vR 0), (2, vI x69_2_802)]) dX12_image_91 (by decide) rfl ?_
          refine g_iinc (l1 := [(2, vI (x69_2_802 + 1)), (1, vI b883), (0, vR 0)]) dX12_image_92 rfl (by decide) rfl ?_
          refine g_goto (tgt := 69) dX12_image_95 (by decide) ?_
          refine g_forget (l1 := [(0, vR 0), (1, vI b883), (2, vI (x69_2_802 + 1))]) (by intro q hq; simp only [List.mem_cons, List.not_mem_nil, or_false] at hq ⊢; rcases hq with rfl | rfl | rfl <;> simp) ?_
          exact ih69_802 (x69_2_802 + 1) ⟨by (clear hb; omega), by (clear hb; omega)⟩ b883 ⟨by (clear hb; omega), by (clear hb; omega)⟩ (by (clear hb; omega))
      refine g_forget (l1 := [(0, vR 0), (1, vI 199), (2, vI 0)]) (by intro q hq; simp only [List.mem_cons, List.not_mem_nil, or_false] at hq ⊢; rcases hq with rfl | rfl | rfl <;> simp) ?_
      exact L69_802 _ 0 (by decide) 199 (by decide) (Nat.lt_succ_self _)
    · refine g_aload_n dX12_image_27 rfl ?_
      refine g_aload_n dX12_image_28 rfl ?_
      refine m_g54 rfl dX12_image_29 ?_
      refine g_iload_n dX12_image_32 rfl ?_
      refine m_l36 (z := (P 36 x17_1_4)) dX12_image_33 ⟨by (clear hb; omega), by (clear hb; omega)⟩ ((congrFun (hE17_4.2 36 rfl rfl) _).trans ((congrFun (hFc3.2 36 rfl rfl) _).trans ((up_o (by decide)).trans rfl))) ?_
      have f884 := bl_36 (k := x17_1_4) hB
      refine g_vV (av := [vI (P 36 x17_1_4)]) (o := 0) (st := []) (m_X12_writes G H17_4 (P 36 x17_1_4) ⟨by have q0 := bl_36 (k := x17_1_4) hB; (clear hb; omega), by have q0 := bl_36 (k := x17_1_4) hB; (clear hb; omega)⟩ hB17_4 (by have q0 := bl_36 (k := x17_1_4) hB; have q1 := b0_70 hB17_4; (clear hb; omega)) _ (fun Pc885 hBc885 hFc885 gc885_o => ⟨rfl, ?_⟩)) cf_X12_writes t_1974 rfl (by decide) rfl rfl rfl (Nat.le_of_ble_eq_true rfl) (by decide) rfl dX12_image_34
      refine g_iinc (l1 := [(1, vI (x17_1_4 + 1)), (0, vR 0)]) dX12_image_37 rfl (by decide) rfl ?_
      refine g_goto (tgt := 17) dX12_image_40 (by decide) ?_
      refine g_forget (l1 := [(0, vR 0), (1, vI (x17_1_4 + 1))]) (by intro q hq; simp only [List.mem_cons, List.not_mem_nil, or_false] at hq ⊢; rcases hq with rfl | rfl <;> simp) ?_
      exact ih17_4 (x17_1_4 + 1) ⟨by (clear hb; omega), by (clear hb; omega)⟩ _ hBc885 (FrM.c (FrM.c FrM.rf hE17_4 rfl) hFc885 rfl) (by have q0 := b0_70 hBc885; (clear hb; omega)) (by (omega)) (by (clear hb; omega))
  refine g_forget (l1 := [(0, vR 0), (1, vI 0)]) (by intro q hq; simp only [List.mem_cons, List.not_mem_nil, or_false] at hq ⊢; rcases hq with rfl | rfl <;> simp) ?_
  exact L17_4 _ 0 (by decide) _ hBc3 FrM.rf (by have q0 := b0_70 hBc3; (clear hb; omega)) (by (omega)) (Nat.lt_succ_self _)
/-! What the reference answers: X12_isPlace. -/
set_option maxRecDepth 100000 in
set_option maxHeartbeats 4000000 in
theorem f_X12_isPlace (G : GT) (P : PH) (A : PH) (a1 : Int) (h_a1 : (-2147483648) ≤ a1 ∧ a1 ≤ 2147483647) (hB : BdM P) (p_im : P 0 44 = 1 ∨ A 0 0 ≤ 0) (z0 : AM A P) (Q : Option PV → PH → Prop) (hQ : ∀ (r : Int) (_ : 0 ≤ r ∧ r ≤ 1) (_ : r = 0 ∨ (P 0 44 ≠ 0 ∧ 0 ≤ a1 ∧ a1 < P 35 0)) (_ : (r = 1 ∧ 0 ≤ a1 ∧ a1 < A 0 0) ∨ (r = 0 ∧ (a1 < 0 ∨ A 0 0 ≤ a1))), Q (some (vI r)) P) : Ct WSM G 2 iX12_isPlace [vR 0, vI a1] P Q := by
  refine Ct.of (by decide) (l0 := [(0, vR 0), (1, vI a1)]) rfl (Nat.le_of_ble_eq_true rfl) ?_
  have hb := z0.b
  have q44 := b0_44 hB
  refine g_aload_n dX12_isPlace_0 rfl ?_
  refine m_g44 (z := (P 0 44)) rfl dX12_isPlace_1 rfl ?_
  have f1 := b0_44 hB
  refine g_if_eq (tgt := 27) dX12_isPlace_4 (by decide) ⟨by have q0 := b0_44 hB; (clear p_im hb; omega), by have q0 := b0_44 hB; (clear p_im hb; omega)⟩ (fun k2 => ?_) (fun k2 => ?_)
  · skip
    refine g_iconst dX12_isPlace_27 ?_
    exact g_retZ dX12_isPlace_28 rfl (by decide) (hQ 0 (by decide) (by have q0 := b0_44 hB; have q1 := bl_35 (k := 0) hB; (clear p_im hb k2; omega)) (by (omega)))
  · have k2n : 1 ≤ (P 0 44) := by have q0 := b0_44 hB; (clear p_im hb; omega)
    clear k2
    skip
    refine g_iload_n dX12_isPlace_7 rfl ?_
    refine g_iconst dX12_isPlace_8 ?_
    refine g_aload_n dX12_isPlace_9 rfl ?_
    refine m_g53 rfl dX12_isPlace_10 ?_
    refine g_iconst dX12_isPlace_13 ?_
    refine m_l35 (z := (P 35 0)) dX12_isPlace_14 (by decide) rfl ?_
    refine g_iconst dX12_isPlace_15 ?_
    refine g_isub dX12_isPlace_16 ?_
    have f3 := bl_35 (k := 0) hB
    refine g_sI (av := [vI a1, vI 0, vI ((P 35 0) - 1)]) (st := []) (m_X12_is G P a1 0 ((P 35 0) - 1) ⟨by (clear p_im hb; omega), by (clear p_im hb; omega)⟩ (by decide) ⟨by have q0 := bl_35 (k := 0) hB; (clear p_im hb; omega), by have q0 := bl_35 (k := 0) hB; (clear p_im hb; omega)⟩ hB  _ (fun rc4 hc4 gc4_is => ⟨rc4, rfl, ?_⟩)) cf_X12_is t_1800 rfl (Nat.le_of_ble_eq_true rfl) (by decide) rfl dX12_isPlace_17
    refine g_if_eq (tgt := 27) dX12_isPlace_20 (by decide) ⟨by (clear p_im hb gc4_is; omega), by (clear p_im hb gc4_is; omega)⟩ (fun k5 => ?_) (fun k5 => ?_)
    · skip
      skip
      refine g_iconst dX12_isPlace_27 ?_
      exact g_retZ dX12_isPlace_28 rfl (by decide) (hQ 0 (by decide) (by have q0 := b0_44 hB; have q1 := bl_35 (k := 0) hB; (clear p_im hb gc4_is k5; omega)) (by (omega)))
    · have k5n : 1 ≤ rc4 := by (clear p_im hb gc4_is; omega)
      clear k5
      have r_gc4_is := (gc4_is.resolve_right (by (clear p_im hb gc4_is; omega)))
      skip
      refine g_iconst dX12_isPlace_23 ?_
      refine g_goto (tgt := 28) dX12_isPlace_24 (by decide) ?_
      exact g_retZ dX12_isPlace_28 rfl (by decide) (hQ 1 (by decide) (by have q0 := b0_44 hB; have q1 := bl_35 (k := 0) hB; (clear p_im hb gc4_is; omega)) (by (clear p_im gc4_is; omega)))
/-! What the reference answers: X12_isRow. -/
set_option maxRecDepth 100000 in
set_option maxHeartbeats 4000000 in
theorem f_X12_isRow (G : GT) (P : PH) (M : PH) (a1 : Int) (h_a1 : (-2147483648) ≤ a1 ∧ a1 ≤ 2147483647) (hB : BdM P) (z0 : MH M P) (z1 : MR M P) (Q : Option PV → PH → Prop) (hQ : ∀ (r : Int) (_ : 0 ≤ r ∧ r ≤ 1) (_ : r = 0 ∨ (P 0 44 ≠ 0 ∧ 0 ≤ a1 ∧ a1 < P 0 52)) (_ : (r = 1 ∧ 0 < M 0 0 ∧ 0 ≤ a1 ∧ a1 < M 0 1) ∨ (r = 0 ∧ (M 0 0 ≤ 0 ∨ a1 < 0 ∨ M 0 1 ≤ a1))), Q (some (vI r)) P) : Ct WSM G 2 iX12_isRow [vR 0, vI a1] P Q := by
  refine Ct.of (by decide) (l0 := [(0, vR 0), (1, vI a1)]) rfl (Nat.le_of_ble_eq_true rfl) ?_
  have hmh := z0
  unfold MH at hmh
  have hmr := z1
  unfold MR at hmr
  have q44 := b0_44 hB
  have q52 := b0_52 hB
  refine g_aload_n dX12_isRow_0 rfl ?_
  refine m_g44 (z := (P 0 44)) rfl dX12_isRow_1 rfl ?_
  have f1 := b0_44 hB
  refine g_if_eq (tgt := 25) dX12_isRow_4 (by decide) ⟨by have q0 := b0_44 hB; (clear hmh hmr; omega), by have q0 := b0_44 hB; (clear hmh hmr; omega)⟩ (fun k2 => ?_) (fun k2 => ?_)
  · refine g_iconst dX12_isRow_25 ?_
    exact g_retZ dX12_isRow_26 rfl (by decide) (hQ 0 (by decide) (by have q0 := b0_44 hB; have q1 := b0_52 hB; (clear hmh hmr k2; omega)) (by (omega)))
  · have k2n : 1 ≤ (P 0 44) := by have q0 := b0_44 hB; (clear hmh hmr; omega)
    clear k2
    refine g_iload_n dX12_isRow_7 rfl ?_
    refine g_iconst dX12_isRow_8 ?_
    refine g_aload_n dX12_isRow_9 rfl ?_
    refine m_g52 (z := (P 0 52)) rfl dX12_isRow_10 rfl ?_
    refine g_iconst dX12_isRow_13 ?_
    refine g_isub dX12_isRow_14 ?_
    have f3 := b0_52 hB
    refine g_sI (av := [vI a1, vI 0, vI ((P 0 52) - 1)]) (st := []) (m_X12_is G P a1 0 ((P 0 52) - 1) ⟨by (clear hmh hmr; omega), by (clear hmh hmr; omega)⟩ (by decide) ⟨by have q0 := b0_52 hB; (clear hmh hmr; omega), by have q0 := b0_52 hB; (clear hmh hmr; omega)⟩ hB  _ (fun rc4 hc4 gc4_is => ⟨rc4, rfl, ?_⟩)) cf_X12_is t_1800 rfl (Nat.le_of_ble_eq_true rfl) (by decide) rfl dX12_isRow_15
    refine g_if_eq (tgt := 25) dX12_isRow_18 (by decide) ⟨by (clear hmh hmr gc4_is; omega), by (clear hmh hmr gc4_is; omega)⟩ (fun k5 => ?_) (fun k5 => ?_)
    · skip
      refine g_iconst dX12_isRow_25 ?_
      exact g_retZ dX12_isRow_26 rfl (by decide) (hQ 0 (by decide) (by have q0 := b0_44 hB; have q1 := b0_52 hB; (clear hmh hmr gc4_is k5; omega)) (by (omega)))
    · have k5n : 1 ≤ rc4 := by (clear hmh hmr gc4_is; omega)
      clear k5
      have r_gc4_is := (gc4_is.resolve_right (by (clear hmh hmr gc4_is; omega)))
      refine g_iconst dX12_isRow_21 ?_
      refine g_goto (tgt := 26) dX12_isRow_22 (by decide) ?_
      exact g_retZ dX12_isRow_26 rfl (by decide) (hQ 1 (by decide) (by have q0 := b0_44 hB; have q1 := b0_52 hB; (clear hmh hmr gc4_is; omega)) (by (omega)))
/-! What the reference answers: X12_lays. -/
set_option maxRecDepth 100000 in
set_option maxHeartbeats 4000000 in
theorem f_X12_lays (G : GT) (P : PH) (hB : BdM P) (p_pr : prdU P (P 0 13) (P 11 (P 0 13)).toNat ≤ 20000) (v_ZT : ZT P) (v_ZS : ZS P) (v_ZC : ZC P) (v_okC : okC P) (Q : Option PV → PH → Prop) (hQ : ∀ (P1 : PH) (_ : BdM P1) (_ : FrM ([52], [29, 30, 31, 32, 33, 34]) P P1) (_ : 1 ≤ P1 0 52) (_ : P1 0 52 = prdU P (P 0 13) (P 11 (P 0 13)).toNat), Q none P1) : Ct WSM G 4 iX12_lays [vR 0] P Q := by
  refine Ct.of (by decide) (l0 := [(0, vR 0)]) rfl (Nat.le_of_ble_eq_true rfl) ?_
  have q11 := bl_11 (k := P 0 13) hB
  refine g_aload_n dX12_lays_0 rfl ?_
  refine g_iconst dX12_lays_1 ?_
  refine m_p52 rfl dX12_lays_2 ?_
  have hB1 := bs_52 (z := 1) hB (by decide)
  refine g_iconst dX12_lays_5 ?_
  refine g_istore_n (l1 := [(1, vI 0), (0, vR 0)]) dX12_lays_6 (by decide) rfl ?_
  have L7_1 : ∀ (n7_1 : Nat) (x7_1_1 : Int) (h_x7_1_1 : 0 ≤ x7_1_1 ∧ x7_1_1 ≤ 4) (H7_1 : PH) (hB7_1 : BdM H7_1) (hE7_1 : FrM ([52], [29, 30, 31, 32, 33, 34]) (up P 0 52 1) H7_1) (i7_0_1 : H7_1 0 52 = prdU P (P 0 13) (x7_1_1).toNat) (i7_1_1 : 1 ≤ H7_1 0 52) (i7_2_1 : x7_1_1 ≤ P 11 (P 0 13)) (hm7_1 : ((5 - x7_1_1) : Int).toNat < n7_1), Go WSM G 4 iX12_lays 7 [(0, vR 0), (1, vI x7_1_1)] [] H7_1 Q := by
    intro n7_1
    induction n7_1 with
    | zero => intro x7_1_1 h_x7_1_1 H7_1 hB7_1 hE7_1 i7_0_1 i7_1_1 i7_2_1 hm7_1; exact absurd hm7_1 (Nat.not_lt_zero _)
    | succ n7_1 ih7_1 =>
    intro x7_1_1 h_x7_1_1 H7_1 hB7_1 hE7_1 i7_0_1 i7_1_1 i7_2_1 hm7_1
    refine g_iload_n dX12_lays_7 rfl ?_
    refine g_aload_n dX12_lays_8 rfl ?_
    refine g_vI (av := []) (o := 0) (st := [vI x7_1_1]) (m_X12_columns G H7_1  hB7_1  _ (fun rc8419 hc8419 gc8419_c => ⟨rc8419, rfl, ?_⟩)) cf_X12_columns t_1827 rfl (by decide) rfl rfl rfl (Nat.le_of_ble_eq_true rfl) (by decide) rfl dX12_lays_9
    have z8420 : H7_1 0 13 = (P 0 13) := ((hE7_1.1 13 rfl).trans ((up_k (by decide)).trans rfl))
    have hcl : rc8419 = P 11 (P 0 13) := by have q := gc8419_c; rw [show H7_1 0 13 = _ from ((hE7_1.1 13 rfl).trans ((up_k (by decide)).trans rfl)), show H7_1 11 (P 0 13) = _ from ((congrFun (hE7_1.2 11 rfl rfl) _).trans ((up_o (by decide)).trans rfl))] at q; exact q
    refine g_icmp_ge (tgt := 196) dX12_lays_12 (by decide) ⟨by omega, by omega⟩ ⟨by omega, by omega⟩ (fun k8421 => ?_) (fun k8421 => ?_)
    · exact g_retV dX12_lays_196 rfl (hQ _ hB7_1 (FrM.c (FrM.s FrM.rf rfl) hE7_1 rfl) (by have q0 := b0_52 hB7_1; omega) (by have q := i7_0_1; rw [show P 11 (P 0 13) = x7_1_1 by omega]; exact q))
    · refine g_iconst dX12_lays_15 ?_
      refine g_istore_n (l1 := [(2, vI 0), (0, vR 0), (1, vI x7_1_1)]) dX12_lays_16 (by decide) rfl ?_
      have L17_8421 : ∀ (n17_8421 : Nat) (x17_2_8421 : Int) (h_x17_2_8421 : 0 ≤ x17_2_8421 ∧ x17_2_8421 ≤ 4096) (H17_8421 : PH) (hB17_8421 : BdM H17_8421) (hE17_8421 : FrM ([], [34]) H7_1 H17_8421) (hm17_8421 : ((4097 - x17_2_8421) : Int).toNat < n17_8421), Go WSM G 4 iX12_lays 17 [(0, vR 0), (1, vI x7_1_1), (2, vI x17_2_8421)] [] H17_8421 Q := by
        intro n17_8421
        induction n17_8421 with
        | zero => intro x17_2_8421 h_x17_2_8421 H17_8421 hB17_8421 hE17_8421 hm17_8421; exact absurd hm17_8421 (Nat.not_lt_zero _)
        | succ n17_8421 ih17_8421 =>
        intro x17_2_8421 h_x17_2_8421 H17_8421 hB17_8421 hE17_8421 hm17_8421
        refine g_iload_n dX12_lays_17 rfl ?_
        refine g_sipush dX12_lays_18 (by decide) ?_
        refine g_icmp_ge (tgt := 37) dX12_lays_21 (by decide) ⟨by omega, by omega⟩ (by decide) (fun k10008 => ?_) (fun k10008 => ?_)
        · refine g_aload_n dX12_lays_37 rfl ?_
          refine m_g50 rfl dX12_lays_38 ?_
          refine g_iload_n dX12_lays_41 rfl ?_
          refine g_iconst dX12_lays_42 ?_
          refine m_s33 dX12_lays_43 ⟨by omega, by omega⟩ ?_
          have hB10009 := ba_33 (z := 0) (k := x7_1_1) hB17_8421 (by decide)
          refine g_iconst dX12_lays_44 ?_
          refine g_istore_n (l1 := [(2, vI 0), (0, vR 0), (1, vI x7_1_1)]) dX12_lays_45 (by decide) rfl ?_
          have L46_10009 : ∀ (n46_10009 : Nat) (x46_2_10009 : Int) (h_x46_2_10009 : 0 ≤ x46_2_10009 ∧ x46_2_10009 ≤ 2006) (H46_10009 : PH) (hB46_10009 : BdM H46_10009) (hE46_10009 : FrM ([], [29, 30, 31, 32, 33, 34]) (up H17_8421 33 x7_1_1 0) H46_10009) (i46_0_10009 : H46_10009 33 x7_1_1 ≤ x46_2_10009) (hm46_10009 : ((2007 - x46_2_10009) : Int).toNat < n46_10009), Go WSM G 4 iX12_lays 46 [(0, vR 0), (1, vI x7_1_1), (2, vI x46_2_10009)] [] H46_10009 Q := by
            intro n46_10009
            induction n46_10009 with
            | zero => intro x46_2_10009 h_x46_2_10009 H46_10009 hB46_10009 hE46_10009 i46_0_10009 hm46_10009; exact absurd hm46_10009 (Nat.not_lt_zero _)
            | succ n46_10009 ih46_10009 =>
            intro x46_2_10009 h_x46_2_10009 H46_10009 hB46_10009 hE46_10009 i46_0_10009 hm46_10009
            refine g_iload_n dX12_lays_46 rfl ?_
            refine g_aload_n dX12_lays_47 rfl ?_
            refine g_iload_n dX12_lays_48 rfl ?_
            refine g_vI (av := [vI x7_1_1]) (o := 0) (st := [vI x46_2_10009]) (m_X12_columnValues G H46_10009 x7_1_1 ⟨by omega, by omega⟩ hB46_10009 (by have q0 := (((congrFun (hE46_10009.2 11 rfl rfl) _).trans ((up_o (by decide)).trans ((congrFun (hE17_8421.2 11 rfl rfl) _).trans ((congrFun (hE7_1.2 11 rfl rfl) _).trans ((up_o (by decide)).trans rfl))))) : H46_10009 11 (H46_10009 0 13) = (P 11 (H46_10009 0 13))); have q1 := bl_11 (k := (H46_10009 0 13)) hB; have q2 := ((congrArg (H46_10009 11) ((hE46_10009.1 13 rfl).trans ((up_o (by decide)).trans ((hE17_8421.1 13 rfl).trans ((hE7_1.1 13 rfl).trans ((up_k (by decide)).trans rfl)))))).trans ((congrFun (hE46_10009.2 11 rfl rfl) _).trans ((up_o (by decide)).trans ((congrFun (hE17_8421.2 11 rfl rfl) _).trans ((congrFun (hE7_1.2 11 rfl rfl) _).trans ((up_o (by decide)).trans rfl))))) : H46_10009 11 (H46_10009 0 13) = (P 11 (P 0 13))); have q3 := bl_11 (k := (P 0 13)) hB; omega) (okC.fr (F := ([52], [29, 30, 31, 32, 33, 34])) v_okC (FrM.c (FrM.a (FrM.c (FrM.c (FrM.s FrM.rf rfl) hE7_1 rfl) hE17_8421 rfl) rfl rfl) hE46_10009 rfl) rfl) _ (fun rc10419 hc10419 gc10419_v => ⟨rc10419, rfl, ?_⟩)) cf_X12_columnValues t_1831 rfl (by decide) rfl rfl rfl (Nat.le_of_ble_eq_true rfl) (by decide) rfl dX12_lays_49
            have z10420 : H46_10009 0 13 = (P 0 13) := ((hE46_10009.1 13 rfl).trans ((up_o (by decide)).trans ((hE17_8421.1 13 rfl).trans ((hE7_1.1 13 rfl).trans ((up_k (by decide)).trans rfl)))))
            refine g_icmp_ge (tgt := 176) dX12_lays_52 (by decide) ⟨by omega, by omega⟩ ⟨by omega, by omega⟩ (fun k10421 => ?_) (fun k10421 => ?_)
            · refine g_aload_n dX12_lays_176 rfl ?_
              refine g_dup dX12_lays_177 rfl ?_
              have hpl := prdU_lt v_ZC (b := P 0 13) (c := x7_1_1) (b0_13 hB) ⟨by omega, by omega⟩ p_pr
              refine m_g52 (z := (H7_1 0 52)) rfl dX12_lays_178 ((hE46_10009.1 52 rfl).trans ((up_o (by decide)).trans ((hE17_8421.1 52 rfl).trans rfl))) ?_
              refine g_aload_n dX12_lays_181 rfl ?_
              refine g_iload_n dX12_lays_182 rfl ?_
              refine g_vI (av := [vI x7_1_1]) (o := 0) (st := [vI (H7_1 0 52), vR 0]) (m_X12_columnValues G H46_10009 x7_1_1 ⟨by omega, by omega⟩ hB46_10009 (by have q0 := (((congrFun (hE46_10009.2 11 rfl rfl) _).trans ((up_o (by decide)).trans ((congrFun (hE17_8421.2 11 rfl rfl) _).trans ((congrFun (hE7_1.2 11 rfl rfl) _).trans ((up_o (by decide)).trans rfl))))) : H46_10009 11 (H46_10009 0 13) = (P 11 (H46_10009 0 13))); have q1 := bl_11 (k := (H46_10009 0 13)) hB; have q2 := ((congrArg (H46_10009 11) ((hE46_10009.1 13 rfl).trans ((up_o (by decide)).trans ((hE17_8421.1 13 rfl).trans ((hE7_1.1 13 rfl).trans ((up_k (by decide)).trans rfl)))))).trans ((congrFun (hE46_10009.2 11 rfl rfl) _).trans ((up_o (by decide)).trans ((congrFun (hE17_8421.2 11 rfl rfl) _).trans ((congrFun (hE7_1.2 11 rfl rfl) _).trans ((up_o (by decide)).trans rfl))))) : H46_10009 11 (H46_10009 0 13) = (P 11 (P 0 13))); have q3 := bl_11 (k := (P 0 13)) hB; omega) (okC.fr (F := ([52], [29, 30, 31, 32, 33, 34])) v_okC (FrM.c (FrM.a (FrM.c (FrM.c (FrM.s FrM.rf rfl) hE7_1 rfl) hE17_8421 rfl) rfl rfl) hE46_10009 rfl) rfl) _ (fun rc10422 hc10422 gc10422_v => ⟨rc10422, rfl, ?_⟩)) cf_X12_columnValues t_1831 rfl (by decide) rfl rfl rfl (Nat.le_of_ble_eq_true rfl) (by decide) rfl dX12_lays_183
              have z10423 : H46_10009 0 13 = (P 0 13) := ((hE46_10009.1 13 rfl).trans ((up_o (by decide)).trans ((hE17_8421.1 13 rfl).trans ((hE7_1.1 13 rfl).trans ((up_k (by decide)).trans rfl)))))
              have hcv : rc10422 = vals P (P 0 13) (P 12 (4 * P 0 13 + x7_1_1)) := by have q := gc10422_v; rw [show H46_10009 0 13 = _ from ((hE46_10009.1 13 rfl).trans ((up_o (by decide)).trans ((hE17_8421.1 13 rfl).trans ((hE7_1.1 13 rfl).trans ((up_k (by decide)).trans rfl))))), show H46_10009 12 (4 * P 0 13 + x7_1_1) = _ from ((congrFun (hE46_10009.2 12 rfl rfl) _).trans ((up_o (by decide)).trans ((congrFun (hE17_8421.2 12 rfl rfl) _).trans ((congrFun (hE7_1.2 12 rfl rfl) _).trans ((up_o (by decide)).trans rfl))))), vals_eq (P := P) (fun _ => ((congrFun (hE46_10009.2 3 rfl rfl) _).trans ((up_o (by decide)).trans ((congrFun (hE17_8421.2 3 rfl rfl) _).trans ((congrFun (hE7_1.2 3 rfl rfl) _).trans ((up_o (by decide)).trans rfl))))))] at q; exact q
              refine g_imul dX12_lays_186 ?_
              refine g_nm (fun w10424 e_w10424 => ?_)
              have hrm8 : w10424 = prdU P (P 0 13) (x7_1_1 + 1).toNat := by rw [e_w10424, hpl.1, ← hcv]; congr 1
              have hrm7 : 1 ≤ w10424 ∧ w10424 ≤ 20000 := by rw [hrm8]; exact hpl.2
              refine m_p52 rfl dX12_lays_187 ?_
              have hB10425 := bs_52 (z := w10424) hB46_10009 ⟨by omega, by omega⟩
              refine g_iinc (l1 := [(1, vI (x7_1_1 + 1)), (0, vR 0), (2, vI x46_2_10009)]) dX12_lays_190 rfl (by decide) rfl ?_
              refine g_goto (tgt := 7) dX12_lays_193 (by decide) ?_
              refine g_forget (l1 := [(0, vR 0), (1, vI (x7_1_1 + 1))]) (by intro q hq; simp only [List.mem_cons, List.not_mem_nil, or_false] at hq ⊢; rcases hq with rfl | rfl <;> simp) ?_
              exact ih7_1 (x7_1_1 + 1) ⟨by omega, by omega⟩ _ hB10425 (FrM.s (FrM.c (FrM.a (FrM.c (FrM.c FrM.rf hE7_1 rfl) hE17_8421 rfl) rfl rfl) hE46_10009 rfl) rfl) (by first | exact (up_same).trans hrm8 | exact up_same) (by have q0 := (up_same : (up H46_10009 0 52 w10424) 0 52 = w10424); omega) (by omega) (by omega)
            · refine g_iconst dX12_lays_55 ?_
              refine g_istore_n (l1 := [(3, vI 0), (0, vR 0), (1, vI x7_1_1), (2, vI x46_2_10009)]) dX12_lays_56 (by decide) rfl ?_
              refine g_iconst dX12_lays_57 ?_
              refine g_istore (l1 := [(4, vI 0), (3, vI 0), (0, vR 0), (1, vI x7_1_1), (2, vI x46_2_10009)]) dX12_lays_58 (by decide) rfl ?_
              have L60_10425 : ∀ (n60_10425 : Nat) (x60_4_10425 : Int) (h_x60_4_10425 : 0 ≤ x60_4_10425 ∧ x60_4_10425 ≤ 12) (x60_3_10425 : Int) (h_x60_3_10425 : 0 ≤ x60_3_10425 ∧ x60_3_10425 ≤ 4095) (H60_10425 : PH) (hB60_10425 : BdM H60_10425) (hE60_10425 : FrM ([], [29, 30]) H46_10009 H60_10425) (hm60_10425 : ((13 - x60_4_10425) : Int).toNat < n60_10425), Go WSM G 4 iX12_lays 60 [(0, vR 0), (1, vI x7_1_1), (2, vI x46_2_10009), (3, vI x60_3_10425), (4, vI x60_4_10425)] [] H60_10425 Q := by
                intro n60_10425
                induction n60_10425 with
                | zero => intro x60_4_10425 h_x60_4_10425 x60_3_10425 h_x60_3_10425 H60_10425 hB60_10425 hE60_10425 hm60_10425; exact absurd hm60_10425 (Nat.not_lt_zero _)
                | succ n60_10425 ih60_10425 =>
                intro x60_4_10425 h_x60_4_10425 x60_3_10425 h_x60_3_10425 H60_10425 hB60_10425 hE60_10425 hm60_10425
                refine g_iload dX12_lays_60 rfl ?_
                refine g_aload_n dX12_lays_62 rfl ?_
                refine m_g25 rfl dX12_lays_63 ?_
                refine g_aload_n dX12_lays_66 rfl ?_
                refine m_g13 (z := (P 0 13)) rfl dX12_lays_67 ((hE60_10425.1 13 rfl).trans ((hE46_10009.1 13 rfl).trans ((up_o (by decide)).trans ((hE17_8421.1 13 rfl).trans ((hE7_1.1 13 rfl).trans ((up_k (by decide)).trans rfl)))))) ?_
                refine m_l13 (z := (P 13 (P 0 13))) dX12_lays_70 ⟨by have q0 := b0_13 hB; omega, by have q0 := b0_13 hB; omega⟩ ((congrFun (hE60_10425.2 13 rfl rfl) _).trans ((congrFun (hE46_10009.2 13 rfl rfl) _).trans ((up_o (by decide)).trans ((congrFun (hE17_8421.2 13 rfl rfl) _).trans ((congrFun (hE7_1.2 13 rfl rfl) _).trans ((up_o (by decide)).trans rfl)))))) ?_
                have f10503 := bl_13 (k := (P 0 13)) hB
                refine g_icmp_ge (tgt := 102) dX12_lays_71 (by decide) ⟨by omega, by omega⟩ ⟨by have q0 := bl_13 (k := (P 0 13)) hB; omega, by have q0 := bl_13 (k := (P 0 13)) hB; omega⟩ (fun k10504 => ?_) (fun k10504 => ?_)
                · refine g_aload_n dX12_lays_102 rfl ?_
                  refine m_g51 rfl dX12_lays_103 ?_
                  refine g_iload_n dX12_lays_106 rfl ?_
                  refine m_l34 (z := (H46_10009 34 x60_3_10425)) dX12_lays_107 ⟨by omega, by omega⟩ ((congrFun (hE60_10425.2 34 rfl rfl) _).trans rfl) ?_
                  refine g_iconst dX12_lays_108 ?_
                  have f10505 := bl_34 (k := x60_3_10425) hB46_10009
                  have J152_10510 : ∀ (H152_10510 : PH) (hB152_10510 : BdM H152_10510) (hE152_10510 : FrM ([], [32, 33, 34]) H60_10425 H152_10510) (i152_0_10510 : 0 ≤ H152_10510 34 x60_3_10425) (i152_1_10510 : H152_10510 33 x7_1_1 ≤ x46_2_10009 + 1), Go WSM G 4 iX12_lays 152 [(0, vR 0), (1, vI x7_1_1), (2, vI x46_2_10009), (3, vI x60_3_10425)] [] H152_10510 Q := by
                    intro H152_10510 hB152_10510 hE152_10510 i152_0_10510 i152_1_10510
                    refine g_aload_n dX12_lays_152 rfl ?_
                    refine m_g48 rfl dX12_lays_153 ?_
                    refine g_sipush dX12_lays_156 (by decide) ?_
                    refine g_iload_n dX12_lays_159 rfl ?_
                    refine g_imul dX12_lays_160 ?_
                    refine g_iload_n dX12_lays_161 rfl ?_
                    refine g_iadd dX12_lays_162 ?_
                    refine g_aload_n dX12_lays_163 rfl ?_
                    refine m_g51 rfl dX12_lays_164 ?_
                    refine g_iload_n dX12_lays_167 rfl ?_
                    refine m_l34 (z := (H152_10510 34 x60_3_10425)) dX12_lays_168 ⟨by omega, by omega⟩ rfl ?_
                    refine m_s31 dX12_lays_169 ⟨by omega, by omega⟩ ?_
                    have hB10512 := ba_31 (z := (H152_10510 34 x60_3_10425)) (k := ((2010 * x7_1_1) + x46_2_10009)) hB152_10510 ⟨by have q0 := bl_34 (k := x60_3_10425) hB152_10510; omega, by have q0 := bl_34 (k := x60_3_10425) hB152_10510; omega⟩
                    refine g_iinc (l1 := [(2, vI (x46_2_10009 + 1)), (0, vR 0), (1, vI x7_1_1), (3, vI x60_3_10425)]) dX12_lays_170 rfl (by decide) rfl ?_
                    refine g_goto (tgt := 46) dX12_lays_173 (by decide) ?_
                    refine g_forget (l1 := [(0, vR 0), (1, vI x7_1_1), (2, vI (x46_2_10009 + 1))]) (by intro q hq; simp only [List.mem_cons, List.not_mem_nil, or_false] at hq ⊢; rcases hq with rfl | rfl | rfl <;> simp) ?_
                    exact ih46_10009 (x46_2_10009 + 1) ⟨by omega, by omega⟩ _ hB10512 (FrM.a (FrM.c (FrM.c (FrM.c FrM.rf hE46_10009 rfl) hE60_10425 rfl) hE152_10510 rfl) rfl rfl) (by have q0 := (((up_o (by decide)).trans rfl) : (up H152_10510 31 ((2010 * x7_1_1) + x46_2_10009) (H152_10510 34 x60_3_10425)) 33 x7_1_1 = (H152_10510 33 x7_1_1)); have q1 := bl_33 (k := x7_1_1) hB152_10510; omega) (by omega)
                  refine g_icmp_ne (tgt := 152) dX12_lays_109 (by decide) ⟨by have q0 := bl_34 (k := x60_3_10425) hB46_10009; omega, by have q0 := bl_34 (k := x60_3_10425) hB46_10009; omega⟩ (by decide) (fun k10513 => ?_) (fun k10513 => ?_)
                  · have k10513n : 0 ≤ (H46_10009 34 x60_3_10425) := by have q0 := bl_34 (k := x60_3_10425) hB46_10009; omega
                    clear k10513
                    refine g_forget (l1 := [(0, vR 0), (1, vI x7_1_1), (2, vI x46_2_10009), (3, vI x60_3_10425)]) (by intro q hq; simp only [List.mem_cons, List.not_mem_nil, or_false] at hq ⊢; rcases hq with rfl | rfl | rfl | rfl <;> simp) ?_
                    exact J152_10510 _ hB60_10425 FrM.rf (by have q0 := (((congrFun (hE60_10425.2 34 rfl rfl) _).trans rfl) : H60_10425 34 x60_3_10425 = (H46_10009 34 x60_3_10425)); have q1 := bl_34 (k := x60_3_10425) hB46_10009; omega) (by have q0 := (((congrFun (hE60_10425.2 33 rfl rfl) _).trans rfl) : H60_10425 33 x7_1_1 = (H46_10009 33 x7_1_1)); have q1 := bl_33 (k := x7_1_1) hB46_10009; omega)
                  · refine g_aload_n dX12_lays_112 rfl ?_
                    refine m_g51 rfl dX12_lays_113 ?_
                    refine g_iload_n dX12_lays_116 rfl ?_
                    refine g_aload_n dX12_lays_117 rfl ?_
                    refine m_g50 rfl dX12_lays_118 ?_
                    refine g_iload_n dX12_lays_121 rfl ?_
                    refine m_l33 (z := (H46_10009 33 x7_1_1)) dX12_lays_122 ⟨by omega, by omega⟩ ((congrFun (hE60_10425.2 33 rfl rfl) _).trans rfl) ?_
                    refine m_s34 dX12_lays_123 ⟨by omega, by omega⟩ ?_
                    have hB10514 := ba_34 (z := (H46_10009 33 x7_1_1)) (k := x60_3_10425) hB60_10425 ⟨by have q0 := bl_33 (k := x7_1_1) hB46_10009; omega, by have q0 := bl_33 (k := x7_1_1) hB46_10009; omega⟩
                    refine g_aload_n dX12_lays_124 rfl ?_
                    refine m_g49 rfl dX12_lays_125 ?_
                    refine g_sipush dX12_lays_128 (by decide) ?_
                    refine g_iload_n dX12_lays_131 rfl ?_
                    refine g_imul dX12_lays_132 ?_
                    refine g_aload_n dX12_lays_133 rfl ?_
                    refine m_g50 rfl dX12_lays_134 ?_
                    refine g_iload_n dX12_lays_137 rfl ?_
                    refine m_l33 (z := (H46_10009 33 x7_1_1)) dX12_lays_138 ⟨by omega, by omega⟩ ((up_o (by decide)).trans ((congrFun (hE60_10425.2 33 rfl rfl) _).trans rfl)) ?_
                    refine g_iadd dX12_lays_139 ?_
                    refine g_iload_n dX12_lays_140 rfl ?_
                    refine m_s32 dX12_lays_141 ⟨by have q0 := bl_33 (k := x7_1_1) hB46_10009; omega, by have q0 := bl_33 (k := x7_1_1) hB46_10009; omega⟩ ?_
                    have hB10515 := ba_32 (z := x60_3_10425) (k := ((2010 * x7_1_1) + (H46_10009 33 x7_1_1))) hB10514 ⟨by omega, by omega⟩
                    refine g_aload_n dX12_lays_142 rfl ?_
                    refine m_g50 rfl dX12_lays_143 ?_
                    refine g_iload_n dX12_lays_146 rfl ?_
                    refine g_dup2 dX12_lays_147 rfl rfl ?_
                    refine m_l33 (z := (H46_10009 33 x7_1_1)) dX12_lays_148 ⟨by omega, by omega⟩ ((up_o (by decide)).trans ((up_o (by decide)).trans ((congrFun (hE60_10425.2 33 rfl rfl) _).trans rfl))) ?_
                    refine g_iconst dX12_lays_149 ?_
                    refine g_iadd dX12_lays_150 ?_
                    refine m_s33 dX12_lays_151 ⟨by omega, by omega⟩ ?_
                    have hB10516 := ba_33 (z := ((H46_10009 33 x7_1_1) + 1)) (k := x7_1_1) hB10515 ⟨by have q0 := bl_33 (k := x7_1_1) hB46_10009; omega, by have q0 := bl_33 (k := x7_1_1) hB46_10009; omega⟩
                    refine g_forget (l1 := [(0, vR 0), (1, vI x7_1_1), (2, vI x46_2_10009), (3, vI x60_3_10425)]) (by intro q hq; simp only [List.mem_cons, List.not_mem_nil, or_false] at hq ⊢; rcases hq with rfl | rfl | rfl | rfl <;> simp) ?_
                    exact J152_10510 _ hB10516 (FrM.a (FrM.a (FrM.a FrM.rf rfl rfl) rfl rfl) rfl rfl) (by have q0 := (((up_o (by decide)).trans ((up_o (by decide)).trans up_same)) : (up (up (up H60_10425 34 x60_3_10425 (H46_10009 33 x7_1_1)) 32 ((2010 * x7_1_1) + (H46_10009 33 x7_1_1)) x60_3_10425) 33 x7_1_1 ((H46_10009 33 x7_1_1) + 1)) 34 x60_3_10425 = (H46_10009 33 x7_1_1)); have q1 := bl_33 (k := x7_1_1) hB46_10009; omega) (by have q0 := (up_same : (up (up (up H60_10425 34 x60_3_10425 (H46_10009 33 x7_1_1)) 32 ((2010 * x7_1_1) + (H46_10009 33 x7_1_1)) x60_3_10425) 33 x7_1_1 ((H46_10009 33 x7_1_1) + 1)) 33 x7_1_1 = ((H46_10009 33 x7_1_1) + 1)); have q1 := bl_33 (k := x7_1_1) hB46_10009; omega)
                · refine g_iload_n dX12_lays_74 rfl ?_
                  refine g_aload_n dX12_lays_75 rfl ?_
                  refine g_iload dX12_lays_76 rfl ?_
                  refine g_iload_n dX12_lays_78 rfl ?_
                  refine g_iload_n dX12_lays_79 rfl ?_
                  refine g_vI (av := [vI x60_4_10425, vI x7_1_1, vI x46_2_10009]) (o := 0) (st := [vI x60_3_10425]) (m_X12_isFitting G H60_10425 x60_4_10425 x7_1_1 x46_2_10009 ⟨by omega, by omega⟩ ⟨by omega, by omega⟩ ⟨by omega, by omega⟩ hB60_10425 (by have q0 := (((congrFun (hE60_10425.2 13 rfl rfl) _).trans ((congrFun (hE46_10009.2 13 rfl rfl) _).trans ((up_o (by decide)).trans ((congrFun (hE17_8421.2 13 rfl rfl) _).trans ((congrFun (hE7_1.2 13 rfl rfl) _).trans ((up_o (by decide)).trans rfl)))))) : H60_10425 13 (H60_10425 0 13) = (P 13 (H60_10425 0 13))); have q1 := bl_13 (k := (H60_10425 0 13)) hB; have q2 := ((congrArg (H60_10425 13) ((hE60_10425.1 13 rfl).trans ((hE46_10009.1 13 rfl).trans ((up_o (by decide)).trans ((hE17_8421.1 13 rfl).trans ((hE7_1.1 13 rfl).trans ((up_k (by decide)).trans rfl))))))).trans ((congrFun (hE60_10425.2 13 rfl rfl) _).trans ((congrFun (hE46_10009.2 13 rfl rfl) _).trans ((up_o (by decide)).trans ((congrFun (hE17_8421.2 13 rfl rfl) _).trans ((congrFun (hE7_1.2 13 rfl rfl) _).trans ((up_o (by decide)).trans rfl)))))) : H60_10425 13 (H60_10425 0 13) = (P 13 (P 0 13))); have q3 := bl_13 (k := (P 0 13)) hB; omega) (by have q0 := (((congrFun (hE60_10425.2 11 rfl rfl) _).trans ((congrFun (hE46_10009.2 11 rfl rfl) _).trans ((up_o (by decide)).trans ((congrFun (hE17_8421.2 11 rfl rfl) _).trans ((congrFun (hE7_1.2 11 rfl rfl) _).trans ((up_o (by decide)).trans rfl)))))) : H60_10425 11 (H60_10425 0 13) = (P 11 (H60_10425 0 13))); have q1 := bl_11 (k := (H60_10425 0 13)) hB; have q2 := ((congrArg (H60_10425 11) ((hE60_10425.1 13 rfl).trans ((hE46_10009.1 13 rfl).trans ((up_o (by decide)).trans ((hE17_8421.1 13 rfl).trans ((hE7_1.1 13 rfl).trans ((up_k (by decide)).trans rfl))))))).trans ((congrFun (hE60_10425.2 11 rfl rfl) _).trans ((congrFun (hE46_10009.2 11 rfl rfl) _).trans ((up_o (by decide)).trans ((congrFun (hE17_8421.2 11 rfl rfl) _).trans ((congrFun (hE7_1.2 11 rfl rfl) _).trans ((up_o (by decide)).trans rfl)))))) : H60_10425 11 (H60_10425 0 13) = (P 11 (P 0 13))); have q3 := bl_11 (k := (P 0 13)) hB; omega) (ZT.fr (F := ([52], [29, 30, 31, 32, 33, 34])) v_ZT (FrM.c (FrM.c (FrM.a (FrM.c (FrM.c (FrM.s FrM.rf rfl) hE7_1 rfl) hE17_8421 rfl) rfl rfl) hE46_10009 rfl) hE60_10425 rfl) rfl) (ZS.fr (F := ([52], [29, 30, 31, 32, 33, 34])) v_ZS (FrM.c (FrM.c (FrM.a (FrM.c (FrM.c (FrM.s FrM.rf rfl) hE7_1 rfl) hE17_8421 rfl) rfl rfl) hE46_10009 rfl) hE60_10425 rfl) rfl) _ (fun rc10517 hc10517 Pc10517 hBc10517 hFc10517 => ⟨rc10517, rfl, ?_⟩)) cf_X12_isFitting t_1835 rfl (by decide) rfl rfl rfl (Nat.le_of_ble_eq_true rfl) (by decide) rfl dX12_lays_80
                  refine g_if_eq (tgt := 93) dX12_lays_83 (by decide) ⟨by omega, by omega⟩ (fun k10518 => ?_) (fun k10518 => ?_)
                  · refine g_iconst dX12_lays_93 ?_
                    refine g_ior dX12_lays_94 ?_
                    refine g_nm (fun b10519 e_b10519 => ?_)
                    have h_b10519 : 0 ≤ (ior x60_3_10425 0) ∧ (ior x60_3_10425 0) < 4096 := ior_b 12 (by decide) (x := x60_3_10425) (y := 0) (show 0 ≤ x60_3_10425 ∧ x60_3_10425 < 4096 from ⟨by omega, by omega⟩) (show 0 ≤ 0 ∧ 0 < 4096 from ⟨by omega, by omega⟩)
                    rw [← e_b10519] at h_b10519
                    refine g_istore_n (l1 := [(3, vI b10519), (0, vR 0), (1, vI x7_1_1), (2, vI x46_2_10009), (4, vI x60_4_10425)]) dX12_lays_95 (by decide) rfl ?_
                    refine g_iinc (l1 := [(4, vI (x60_4_10425 + 1)), (3, vI b10519), (0, vR 0), (1, vI x7_1_1), (2, vI x46_2_10009)]) dX12_lays_96 rfl (by decide) rfl ?_
                    refine g_goto (tgt := 60) dX12_lays_99 (by decide) ?_
                    refine g_forget (l1 := [(0, vR 0), (1, vI x7_1_1), (2, vI x46_2_10009), (3, vI b10519), (4, vI (x60_4_10425 + 1))]) (by intro q hq; simp only [List.mem_cons, List.not_mem_nil, or_false] at hq ⊢; rcases hq with rfl | rfl | rfl | rfl | rfl <;> simp) ?_
                    exact ih60_10425 (x60_4_10425 + 1) ⟨by omega, by omega⟩ b10519 ⟨by omega, by omega⟩ _ hBc10517 (FrM.c (FrM.c FrM.rf hE60_10425 rfl) hFc10517 rfl) (by omega)
                  · have k10518n : 1 ≤ rc10517 := by omega
                    clear k10518
                    refine g_iconst dX12_lays_86 ?_
                    refine g_iload dX12_lays_87 rfl ?_
                    refine g_ishl dX12_lays_89 ?_
                    refine g_nm (fun b10520 e_b10520 => ?_)
                    have h_b10520 : 1 ≤ (ishl 1 x60_4_10425) ∧ (ishl 1 x60_4_10425) ≤ 2048 := (ishl1 11 (by decide) (y := x60_4_10425) ⟨by omega, by omega⟩).2
                    rw [← e_b10520] at h_b10520
                    refine g_goto (tgt := 94) dX12_lays_90 (by decide) ?_
                    refine g_ior dX12_lays_94 ?_
                    refine g_nm (fun b10521 e_b10521 => ?_)
                    have h_b10521 : 0 ≤ (ior x60_3_10425 b10520) ∧ (ior x60_3_10425 b10520) < 4096 := ior_b 12 (by decide) (x := x60_3_10425) (y := b10520) (show 0 ≤ x60_3_10425 ∧ x60_3_10425 < 4096 from ⟨by omega, by omega⟩) (show 0 ≤ b10520 ∧ b10520 < 4096 from ⟨by omega, by omega⟩)
                    rw [← e_b10521] at h_b10521
                    refine g_istore_n (l1 := [(3, vI b10521), (0, vR 0), (1, vI x7_1_1), (2, vI x46_2_10009), (4, vI x60_4_10425)]) dX12_lays_95 (by decide) rfl ?_
                    refine g_iinc (l1 := [(4, vI (x60_4_10425 + 1)), (3, vI b10521), (0, vR 0), (1, vI x7_1_1), (2, vI x46_2_10009)]) dX12_lays_96 rfl (by decide) rfl ?_
                    refine g_goto (tgt := 60) dX12_lays_99 (by decide) ?_
                    refine g_forget (l1 := [(0, vR 0), (1, vI x7_1_1), (2, vI x46_2_10009), (3, vI b10521), (4, vI (x60_4_10425 + 1))]) (by intro q hq; simp only [List.mem_cons, List.not_mem_nil, or_false] at hq ⊢; rcases hq with rfl | rfl | rfl | rfl | rfl <;> simp) ?_
                    exact ih60_10425 (x60_4_10425 + 1) ⟨by omega, by omega⟩ b10521 ⟨by omega, by omega⟩ _ hBc10517 (FrM.c (FrM.c FrM.rf hE60_10425 rfl) hFc10517 rfl) (by omega)
              refine g_forget (l1 := [(0, vR 0), (1, vI x7_1_1), (2, vI x46_2_10009), (3, vI 0), (4, vI 0)]) (by intro q hq; simp only [List.mem_cons, List.not_mem_nil, or_false] at hq ⊢; rcases hq with rfl | rfl | rfl | rfl | rfl <;> simp) ?_
              exact L60_10425 _ 0 (by decide) 0 (by decide) _ hB46_10009 FrM.rf (Nat.lt_succ_self _)
          refine g_forget (l1 := [(0, vR 0), (1, vI x7_1_1), (2, vI 0)]) (by intro q hq; simp only [List.mem_cons, List.not_mem_nil, or_false] at hq ⊢; rcases hq with rfl | rfl | rfl <;> simp) ?_
          exact L46_10009 _ 0 (by decide) _ hB10009 FrM.rf (by have q0 := (up_same : (up H17_8421 33 x7_1_1 0) 33 x7_1_1 = 0); omega) (Nat.lt_succ_self _)
        · refine g_aload_n dX12_lays_24 rfl ?_
          refine m_g51 rfl dX12_lays_25 ?_
          refine g_iload_n dX12_lays_28 rfl ?_
          refine g_iconst dX12_lays_29 ?_
          refine m_s34 dX12_lays_30 ⟨by omega, by omega⟩ ?_
          have hB10522 := ba_34 (z := (-1)) (k := x17_2_8421) hB17_8421 (by decide)
          refine g_iinc (l1 := [(2, vI (x17_2_8421 + 1)), (0, vR 0), (1, vI x7_1_1)]) dX12_lays_31 rfl (by decide) rfl ?_
          refine g_goto (tgt := 17) dX12_lays_34 (by decide) ?_
          refine g_forget (l1 := [(0, vR 0), (1, vI x7_1_1), (2, vI (x17_2_8421 + 1))]) (by intro q hq; simp only [List.mem_cons, List.not_mem_nil, or_false] at hq ⊢; rcases hq with rfl | rfl | rfl <;> simp) ?_
          exact ih17_8421 (x17_2_8421 + 1) ⟨by omega, by omega⟩ _ hB10522 (FrM.a (FrM.c FrM.rf hE17_8421 rfl) rfl rfl) (by omega)
      refine g_forget (l1 := [(0, vR 0), (1, vI x7_1_1), (2, vI 0)]) (by intro q hq; simp only [List.mem_cons, List.not_mem_nil, or_false] at hq ⊢; rcases hq with rfl | rfl | rfl <;> simp) ?_
      exact L17_8421 _ 0 (by decide) _ hB7_1 FrM.rf (Nat.lt_succ_self _)
  refine g_forget (l1 := [(0, vR 0), (1, vI 0)]) (by intro q hq; simp only [List.mem_cons, List.not_mem_nil, or_false] at hq ⊢; rcases hq with rfl | rfl <;> simp) ?_
  exact L7_1 _ 0 (by decide) _ hB1 FrM.rf (by first | exact (up_same).trans hrm8 | exact up_same) (by have q0 := (up_same : (up P 0 52 1) 0 52 = 1); omega) (by omega) (Nat.lt_succ_self _)
