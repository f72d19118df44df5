section
/-! What the reference answers: X12_put. -/
set_option maxRecDepth 100000 in
set_option maxHeartbeats 4000000 in
theorem f_X12_put (G : GT) (P : PH) (T : TT) (a1 : Int) (h_a1 : (-2147483648) ≤ a1 ∧ a1 ≤ 2147483647) (hB : BdM P) (p_t : P 0 1 ≤ 1596) (z0 : CM T P) (Q : Option PV → PH → Prop) (hQ : ∀ (P1 : PH) (_ : BdM P1) (_ : FrM ([1], [1]) P P1) (_ : P1 0 1 = P 0 1 + 4) (_ : CM (tput T a1 4) P1), Q none P1) : Ct WSM G 1 iX12_put [vR 0, vI a1] P Q := by
  refine Ct.of (by decide) (l0 := [(0, vR 0), (1, vI a1)]) rfl (Nat.le_of_ble_eq_true rfl) ?_
  refine g_bipush dX12_put_0 (by decide) ?_
  refine g_istore_n (l1 := [(2, vI 24), (0, vR 0), (1, vI a1)]) dX12_put_2 (by decide) rfl ?_
  have L3_0 : ∀ (n3_0 : Nat) (x3_2_0 : Int) (h_x3_2_0 : (-8) ≤ x3_2_0 ∧ x3_2_0 ≤ 24) (H3_0 : PH) (hB3_0 : BdM H3_0) (hE3_0 : FrM ([1], [1]) P H3_0) (i3_0_0 : H3_0 0 1 = P 0 1 + (24 - x3_2_0) / 8) (i3_1_0 : x3_2_0 % 8 = 0) (i3_2_0 : CM (tput T a1 ((24 - x3_2_0) / 8).toNat) H3_0) (hm3_0 : (x3_2_0 + 9 : Int).toNat < n3_0), Go WSM G 1 iX12_put 3 [(0, vR 0), (1, vI a1), (2, vI x3_2_0)] [] H3_0 Q := by
    intro n3_0
    induction n3_0 with
    | zero => intro x3_2_0 h_x3_2_0 H3_0 hB3_0 hE3_0 i3_0_0 i3_1_0 i3_2_0 hm3_0; exact absurd hm3_0 (Nat.not_lt_zero _)
    | succ n3_0 ih3_0 =>
    intro x3_2_0 h_x3_2_0 H3_0 hB3_0 hE3_0 i3_0_0 i3_1_0 i3_2_0 hm3_0
    refine g_iload_n dX12_put_3 rfl ?_
    refine g_if_lt (tgt := 39) dX12_put_4 (by decide) ⟨by omega, by omega⟩ (fun k22 => ?_) (fun k22 => ?_)
    · exact g_retV dX12_put_39 rfl (hQ _ hB3_0 (FrM.c FrM.rf hE3_0 rfl) (by have q0 := b0_1 hB3_0; (omega)) (by have q := i3_2_0; rw [show ((24 - x3_2_0) / 8).toNat = 4 by (omega)] at q; exact q))
    · refine g_aload_n dX12_put_7 rfl ?_
      refine m_g0 rfl dX12_put_8 ?_
      refine g_aload_n dX12_put_11 rfl ?_
      refine m_g1 (z := (H3_0 0 1)) rfl dX12_put_12 rfl ?_
      refine g_iload_n dX12_put_15 rfl ?_
      refine g_iload_n dX12_put_16 rfl ?_
      refine g_ishr dX12_put_17 ?_
      refine g_nm (fun b23 e_b23 => ?_)
      have h_b23 := ishr_ir a1 x3_2_0
      rw [← e_b23] at h_b23
      refine g_sipush dX12_put_18 (by decide) ?_
      refine g_iand dX12_put_21 ?_
      refine g_nm (fun b24 e_b24 => ?_)
      have h_b24 := iand_r (x := b23) (y := 255) ⟨by (clear k22; omega), by (clear k22; omega)⟩
      rw [← e_b24] at h_b24
      have hw : b24 = iand (ishr a1 (24 - 8 * (((((24 - x3_2_0) / 8).toNat) : Nat) : Int))) 255 := by rw [e_b24, e_b23, show (24 - 8 * (((((24 - x3_2_0) / 8).toNat) : Nat) : Int)) = x3_2_0 by (clear k22; omega)]
      refine m_s1 dX12_put_22 ⟨by have q0 := b0_1 hB3_0; (clear k22; omega), by have q0 := b0_1 hB3_0; (clear k22; omega)⟩ ?_
      have hB25 := ba_1 (z := b24) (k := (H3_0 0 1)) hB3_0 ⟨by (clear k22; omega), by (clear k22; omega)⟩
      refine g_aload_n dX12_put_23 rfl ?_
      refine g_dup dX12_put_24 rfl ?_
      refine m_g1 (z := (H3_0 0 1)) rfl dX12_put_25 ((up_o (by decide)).trans rfl) ?_
      refine g_iconst dX12_put_28 ?_
      refine g_iadd dX12_put_29 ?_
      refine m_p1 rfl dX12_put_30 ?_
      have hB26 := bs_1 (z := ((H3_0 0 1) + 1)) hB25 ⟨by have q0 := b0_1 hB3_0; (clear k22; omega), by have q0 := b0_1 hB3_0; (omega)⟩
      have hcm9 : CM (tput T a1 ((24 - (x3_2_0 + (-8))) / 8).toNat) (up (up H3_0 1 (H3_0 0 1) b24) 0 1 ((H3_0 0 1) + 1)) := by
        rw [show ((24 - (x3_2_0 + (-8))) / 8).toNat = ((24 - x3_2_0) / 8).toNat + 1 by (clear k22; omega)]
        show CM (tadd (tput T a1 ((24 - x3_2_0) / 8).toNat) (iand (ishr a1 (24 - 8 * (((((24 - x3_2_0) / 8).toNat) : Nat) : Int))) 255)) _
        rw [← hw]
        exact CM.add i3_2_0 up_same ((up_o (by decide)).trans up_same) (fun j hj => ((up_o (by decide)).trans ((up_k hj).trans rfl)))
      refine g_iinc (l1 := [(2, vI (x3_2_0 + (-8))), (0, vR 0), (1, vI a1)]) dX12_put_33 rfl (by decide) rfl ?_
      refine g_goto (tgt := 3) dX12_put_36 (by decide) ?_
      refine g_forget (l1 := [(0, vR 0), (1, vI a1), (2, vI (x3_2_0 + (-8)))]) (by intro q hq; simp only [List.mem_cons, List.not_mem_nil, or_false] at hq ⊢; rcases hq with rfl | rfl | rfl <;> simp) ?_
      exact ih3_0 (x3_2_0 + (-8)) ⟨by (omega), by (clear k22; omega)⟩ _ hB26 (FrM.s (FrM.a (FrM.c FrM.rf hE3_0 rfl) rfl rfl) rfl) (by have q0 := (up_same : (up (up H3_0 1 (H3_0 0 1) b24) 0 1 ((H3_0 0 1) + 1)) 0 1 = ((H3_0 0 1) + 1)); have q1 := b0_1 hB3_0; (clear k22; omega)) (by (clear k22; omega)) (by first | exact hcm9 | exact hNONE) (by (clear k22; omega))
  refine g_forget (l1 := [(0, vR 0), (1, vI a1), (2, vI 24)]) (by intro q hq; simp only [List.mem_cons, List.not_mem_nil, or_false] at hq ⊢; rcases hq with rfl | rfl | rfl <;> simp) ?_
  exact L3_0 _ 24 (by decide) _ hB FrM.rf (by have q0 := b0_1 hB; omega) (by omega) (by first | exact hcm9 | exact z0) (Nat.lt_succ_self _)
/-! What the reference answers: X12_feed. -/
set_option maxRecDepth 100000 in
set_option maxHeartbeats 4000000 in
theorem f_X12_feed (G : GT) (P : PH) (T : TT) (a1 : Int) (a2 : Int) (a3 : Int) (a4 : Int) (a5 : Int) (h_a1 : (-2147483648) ≤ a1 ∧ a1 ≤ 2147483647) (h_a2 : (-2147483648) ≤ a2 ∧ a2 ≤ 2147483647) (h_a3 : (-2147483648) ≤ a3 ∧ a3 ≤ 2147483647) (h_a4 : (-2147483648) ≤ a4 ∧ a4 ≤ 2147483647) (h_a5 : (-2147483648) ≤ a5 ∧ a5 ≤ 2147483647) (hB : BdM P) (z0 : CM T P) (Q : Option PV → PH → Prop) (hQ : ∀ (r : Int) (_ : (-2147483648) ≤ r ∧ r ≤ 2147483647) (P1 : PH) (_ : BdM P1) (_ : FrM ([1], [1, 28]) P P1) (_ : (P 0 1 ≤ 1580 ∧ r = P 0 1 + 20 ∧ P1 0 1 = P 0 1 + 20) ∨ (1580 < P 0 1 ∧ r = -1 ∧ P1 0 1 = P 0 1)) (_ : CM (ff T a1 a2 a3 a4 a5) P1), Q (some (vI r)) P1) : Ct WSM G 2 iX12_feed [vR 0, vI a1, vI a2, vI a3, vI a4, vI a5] P Q := by
  refine Ct.of (by decide) (l0 := [(0, vR 0), (1, vI a1), (2, vI a2), (3, vI a3), (4, vI a4), (5, vI a5)]) rfl (Nat.le_of_ble_eq_true rfl) ?_
  have ht := z0.1
  refine g_aload_n dX12_feed_0 rfl ?_
  refine m_g1 (z := (P 0 1)) rfl dX12_feed_1 rfl ?_
  refine g_bipush dX12_feed_4 (by decide) ?_
  refine g_iadd dX12_feed_6 ?_
  refine g_sipush dX12_feed_7 (by decide) ?_
  have f1 := b0_1 hB
  refine g_icmp_le (tgt := 19) dX12_feed_10 (by decide) ⟨by have q0 := b0_1 hB; omega, by have q0 := b0_1 hB; omega⟩ (by decide) (fun k2 => ?_) (fun k2 => ?_)
  · refine g_aload_n dX12_feed_19 rfl ?_
    refine g_iload_n dX12_feed_20 rfl ?_
    refine g_vV (av := [vI a1]) (o := 0) (st := []) (f_X12_put G P (T) a1 ⟨by (clear k2; omega), by (clear k2; omega)⟩ hB (by have q0 := b0_1 hB; (omega)) (z0) _ (fun Pc3 hBc3 hFc3 gc3_t ec3_0 => ⟨rfl, ?_⟩)) cf_X12_put t_1671 rfl (by decide) rfl rfl rfl (Nat.le_of_ble_eq_true rfl) (by decide) rfl dX12_feed_21
    refine g_aload_n dX12_feed_24 rfl ?_
    refine g_iload_n dX12_feed_25 rfl ?_
    refine g_vV (av := [vI a2]) (o := 0) (st := []) (f_X12_put G Pc3 ((tput T a1 4)) a2 ⟨by (clear k2; omega), by (clear k2; omega)⟩ hBc3 (by have q0 := b0_1 hBc3; (omega)) (ec3_0) _ (fun Pc4 hBc4 hFc4 gc4_t ec4_0 => ⟨rfl, ?_⟩)) cf_X12_put t_1671 rfl (by decide) rfl rfl rfl (Nat.le_of_ble_eq_true rfl) (by decide) rfl dX12_feed_26
    refine g_aload_n dX12_feed_29 rfl ?_
    refine g_iload_n dX12_feed_30 rfl ?_
    refine g_vV (av := [vI a3]) (o := 0) (st := []) (f_X12_put G Pc4 ((tput (tput T a1 4) a2 4)) a3 ⟨by (clear k2; omega), by (clear k2; omega)⟩ hBc4 (by have q0 := b0_1 hBc4; (omega)) (ec4_0) _ (fun Pc5 hBc5 hFc5 gc5_t ec5_0 => ⟨rfl, ?_⟩)) cf_X12_put t_1671 rfl (by decide) rfl rfl rfl (Nat.le_of_ble_eq_true rfl) (by decide) rfl dX12_feed_31
    refine g_aload_n dX12_feed_34 rfl ?_
    refine g_iload dX12_feed_35 rfl ?_
    refine g_vV (av := [vI a4]) (o := 0) (st := []) (f_X12_put G Pc5 ((tput (tput (tput T a1 4) a2 4) a3 4)) a4 ⟨by (clear k2; omega), by (clear k2; omega)⟩ hBc5 (by have q0 := b0_1 hBc5; (omega)) (ec5_0) _ (fun Pc6 hBc6 hFc6 gc6_t ec6_0 => ⟨rfl, ?_⟩)) cf_X12_put t_1671 rfl (by decide) rfl rfl rfl (Nat.le_of_ble_eq_true rfl) (by decide) rfl dX12_feed_37
    refine g_aload_n dX12_feed_40 rfl ?_
    refine g_iload dX12_feed_41 rfl ?_
    refine g_vV (av := [vI a5]) (o := 0) (st := []) (f_X12_put G Pc6 ((tput (tput (tput (tput T a1 4) a2 4) a3 4) a4 4)) a5 ⟨by (clear k2; omega), by (clear k2; omega)⟩ hBc6 (by have q0 := b0_1 hBc6; (omega)) (ec6_0) _ (fun Pc7 hBc7 hFc7 gc7_t ec7_0 => ⟨rfl, ?_⟩)) cf_X12_put t_1671 rfl (by decide) rfl rfl rfl (Nat.le_of_ble_eq_true rfl) (by decide) rfl dX12_feed_43
    refine g_aload_n dX12_feed_46 rfl ?_
    refine m_g1 (z := (Pc7 0 1)) rfl dX12_feed_47 rfl ?_
    exact g_retI dX12_feed_50 rfl (hQ (Pc7 0 1) ⟨by have q0 := b0_1 hBc7; (clear k2; omega), by have q0 := b0_1 hBc7; (clear k2; omega)⟩ _ hBc7 (FrM.c (FrM.c (FrM.c (FrM.c (FrM.c FrM.rf hFc3 rfl) hFc4 rfl) hFc5 rfl) hFc6 rfl) hFc7 rfl) (by have q0 := b0_1 hBc7; (clear k2; omega)) (by unfold ff; first | (rw [if_pos (by (first | (clear k2; omega) | omega))]; exact (by first | (rw [show T = (tput (tput (tput (tput (tput T a1 4) a2 4) a3 4) a4 4) a5 4) by (first | (clear k2; omega) | omega)]; exact ec7_0))) | (rw [if_neg (by (omega))]; exact ec7_0)))
  · refine g_aload_n dX12_feed_13 rfl ?_
    refine g_iconst dX12_feed_14 ?_
    refine g_vI (av := [vI 0]) (o := 0) (st := []) (m_X12_refuses G P 0 (by decide) hB  _ (fun rc8 hc8 Pc8 hBc8 hFc8 => ⟨rc8, rfl, ?_⟩)) cf_X12_refuses t_1667 rfl (by decide) rfl rfl rfl (Nat.le_of_ble_eq_true rfl) (by decide) rfl dX12_feed_15
    exact g_retI dX12_feed_18 rfl (hQ rc8 ⟨by (clear k2; omega), by (clear k2; omega)⟩ _ hBc8 (FrM.c FrM.rf hFc8 rfl) (by have q0 := (((hFc8.1 1 rfl).trans rfl) : Pc8 0 1 = (P 0 1)); have q1 := b0_1 hB; (omega)) (by unfold ff; first | (rw [if_pos (by (omega))]; exact (CM.fr (F := ([], [28])) z0 (FrM.c FrM.rf hFc8 rfl) rfl)) | (rw [if_neg (by (first | (clear k2; omega) | omega))]; exact (by first | (rw [show (tput (tput (tput (tput (tput T a1 4) a2 4) a3 4) a4 4) a5 4) = T by (first | (clear k2; omega) | omega)]; exact (CM.fr (F := ([], [28])) z0 (FrM.c FrM.rf hFc8 rfl) rfl))))))
/-! What the reference answers: X12_end. -/
set_option maxRecDepth 100000 in
set_option maxHeartbeats 4000000 in
theorem f_X12_end (G : GT) (P : PH) (T : TT) (a1 : Int) (h_a1 : (-2147483648) ≤ a1 ∧ a1 ≤ 2147483647) (hB : BdM P) (z0 : CM T P) (Q : Option PV → PH → Prop) (hQ : ∀ (r : Int) (_ : 0 ≤ r ∧ r ≤ 1) (P1 : PH) (_ : BdM P1) (_ : FrM ([1], [28]) P P1) (_ : (0 ≤ a1 ∧ a1 ≤ P 0 1 ∧ r = 1 ∧ P1 0 1 = a1) ∨ ((a1 < 0 ∨ P 0 1 < a1) ∧ r = 0 ∧ P1 0 1 = P 0 1)) (_ : CM (fe T a1) P1), Q (some (vI r)) P1) : Ct WSM G 2 iX12_end [vR 0, vI a1] P Q := by
  refine Ct.of (by decide) (l0 := [(0, vR 0), (1, vI a1)]) rfl (Nat.le_of_ble_eq_true rfl) ?_
  have ht := z0.1
  refine g_iload_n dX12_end_0 rfl ?_
  refine g_if_lt (tgt := 12) dX12_end_1 (by decide) ⟨by omega, by omega⟩ (fun k1 => ?_) (fun k1 => ?_)
  · refine g_aload_n dX12_end_12 rfl ?_
    refine g_iconst dX12_end_13 ?_
    refine g_vI (av := [vI 0]) (o := 0) (st := []) (m_X12_refuses G P 0 (by decide) hB  _ (fun rc2 hc2 Pc2 hBc2 hFc2 => ⟨rc2, rfl, ?_⟩)) cf_X12_refuses t_1667 rfl (by decide) rfl rfl rfl (Nat.le_of_ble_eq_true rfl) (by decide) rfl dX12_end_14
    refine g_if_lt (tgt := 24) dX12_end_17 (by decide) ⟨by omega, by omega⟩ (fun k3 => ?_) (fun k3 => by exfalso; omega)
    refine g_iconst dX12_end_24 ?_
    exact g_retZ dX12_end_25 rfl (by decide) (hQ 0 (by decide) _ hBc2 (FrM.c FrM.rf hFc2 rfl) (by have q0 := (((hFc2.1 1 rfl).trans rfl) : Pc2 0 1 = (P 0 1)); have q1 := b0_1 hB; (clear k3; omega)) (by unfold fe; first | (rw [if_neg (by (clear k3; omega))]; exact (CM.fr (F := ([], [28])) z0 (FrM.c FrM.rf hFc2 rfl) rfl)) | (rw [if_pos (by (first | (clear k3; omega) | omega))]; exact z0.cut (by (first | (clear k3; omega) | omega)) ((hFc2.1 1 rfl).trans rfl) (fun j => ((congrFun (hFc2.2 1 rfl rfl) _).trans rfl)))))
  · refine g_iload_n dX12_end_4 rfl ?_
    refine g_aload_n dX12_end_5 rfl ?_
    refine m_g1 (z := (P 0 1)) rfl dX12_end_6 rfl ?_
    have f4 := b0_1 hB
    refine g_icmp_le (tgt := 26) dX12_end_9 (by decide) ⟨by omega, by omega⟩ ⟨by have q0 := b0_1 hB; omega, by have q0 := b0_1 hB; omega⟩ (fun k5 => ?_) (fun k5 => ?_)
    · refine g_aload_n dX12_end_26 rfl ?_
      refine g_iload_n dX12_end_27 rfl ?_
      refine m_p1 rfl dX12_end_28 ?_
      have hB6 := bs_1 (z := a1) hB ⟨by (clear k5; omega), by (omega)⟩
      refine g_iconst dX12_end_31 ?_
      exact g_retZ dX12_end_32 rfl (by decide) (hQ 1 (by decide) _ hB6 (FrM.s FrM.rf rfl) (by have q0 := (up_same : (up P 0 1 a1) 0 1 = a1); (omega)) (by unfold fe; first | (rw [if_neg (by (first | (clear k5; omega) | omega))]; exact hNONE) | (rw [if_pos (by (omega))]; exact z0.cut (by (omega)) up_same (fun j => ((up_o (by decide)).trans rfl)))))
    · refine g_aload_n dX12_end_12 rfl ?_
      refine g_iconst dX12_end_13 ?_
      refine g_vI (av := [vI 0]) (o := 0) (st := []) (m_X12_refuses G P 0 (by decide) hB  _ (fun rc7 hc7 Pc7 hBc7 hFc7 => ⟨rc7, rfl, ?_⟩)) cf_X12_refuses t_1667 rfl (by decide) rfl rfl rfl (Nat.le_of_ble_eq_true rfl) (by decide) rfl dX12_end_14
      refine g_if_lt (tgt := 24) dX12_end_17 (by decide) ⟨by (clear k5; omega), by (clear k5; omega)⟩ (fun k8 => ?_) (fun k8 => by exfalso; (clear k5; omega))
      refine g_iconst dX12_end_24 ?_
      exact g_retZ dX12_end_25 rfl (by decide) (hQ 0 (by decide) _ hBc7 (FrM.c FrM.rf hFc7 rfl) (by have q0 := (((hFc7.1 1 rfl).trans rfl) : Pc7 0 1 = (P 0 1)); have q1 := b0_1 hB; (clear k8; omega)) (by unfold fe; first | (rw [if_neg (by (clear k8; omega))]; exact (CM.fr (F := ([], [28])) z0 (FrM.c FrM.rf hFc7 rfl) rfl)) | (rw [if_pos (by (first | (clear k5 k8; omega) | (clear k5; omega) | (clear k8; omega) | omega))]; exact z0.cut (by (first | (clear k5 k8; omega) | (clear k5; omega) | (clear k8; omega) | omega)) ((hFc7.1 1 rfl).trans rfl) (fun j => ((congrFun (hFc7.2 1 rfl rfl) _).trans rfl)))))
end
section
/-! What the class answers: J9_floorMod_7cf53. -/
set_option maxRecDepth 100000 in
set_option maxHeartbeats 4000000 in
theorem f_J9_floorMod_7cf53 (G : GT) (P : PH) (a1 : Int) (a2 : Int) (h_a1 : (-2147483648) ≤ a1 ∧ a1 ≤ 2147483647) (h_a2 : (-2147483648) ≤ a2 ∧ a2 ≤ 2147483647) (hB : BdX P) (p_p : 0 < a2) (Q : Option PV → PH → Prop) (hQ : ∀ (r : Int) (_ : (-2147483648) ≤ r ∧ r ≤ 2147483647) (_ : 0 ≤ r ∧ r < a2) (_ : r = a1 % a2), Q (some (vI r)) P) : Ct WSX G 1 iJ9_floorMod_7cf53 [vI a1, vI a2] P Q := by
  refine Ct.ofF (by decide +kernel) (l0 := [(0, vI a1), (1, vI a2)]) rfl (Nat.le_of_ble_eq_true rfl) ?_
  have hs := irem_sgn (x := a1) (y := a2) h_a1 ⟨p_p, by omega⟩
  have hr := irem_any (x := a1) (y := a2) h_a1 ⟨p_p, by (clear hs; omega)⟩
  have hxs := ixor_sgn (x := a1) (y := a2) h_a1 ⟨by (clear hs; omega), by (clear hs; omega)⟩
  refine g_iload_n dJ9_floorMod_7cf53_0 rfl ?_
  refine g_iload_n dJ9_floorMod_7cf53_1 rfl ?_
  refine g_irem dJ9_floorMod_7cf53_2 ⟨⟨by (clear hs hxs; omega), by (clear hs hxs; omega)⟩, by (clear hs hxs; omega)⟩ ?_
  refine g_nm (fun b1 e_b1 => ?_)
  have h_b1 := irem_ir a1 a2
  rw [← e_b1] at h_b1
  refine g_istore_n (l1 := [(2, vI b1), (0, vI a1), (1, vI a2)]) dJ9_floorMod_7cf53_3 (by decide) rfl ?_
  refine g_iload_n dJ9_floorMod_7cf53_4 rfl ?_
  refine g_iload_n dJ9_floorMod_7cf53_5 rfl ?_
  refine g_ixor dJ9_floorMod_7cf53_6 ?_
  refine g_nm (fun b2 e_b2 => ?_)
  have h_b2 := ixor_ir a1 a2
  rw [← e_b2] at h_b2
  refine g_if_ge (tgt := 18) dJ9_floorMod_7cf53_7 (by decide) ⟨by (clear hs hxs; omega), by (clear hs hxs; omega)⟩ (fun k3 => ?_) (fun k3 => ?_)
  · refine g_iload_n dJ9_floorMod_7cf53_18 rfl ?_
    exact g_retI dJ9_floorMod_7cf53_19 rfl (hQ b1 ⟨by (clear hs hxs k3; omega), by (clear hs hxs k3; omega)⟩ (by (omega)) (by obtain ⟨q, hq⟩ := irem_q (x := a1) (y := a2) h_a1 ⟨p_p, by (clear hs hxs k3; omega)⟩; rw [← e_b1] at hq; exact emod_u hq (by (omega)) (by (clear hs hxs k3; omega))))
  · refine g_iload_n dJ9_floorMod_7cf53_10 rfl ?_
    refine g_if_eq (tgt := 18) dJ9_floorMod_7cf53_11 (by decide) ⟨by (clear hs hxs k3; omega), by (clear hs hxs k3; omega)⟩ (fun k4 => ?_) (fun k4 => ?_)
    · refine g_iload_n dJ9_floorMod_7cf53_18 rfl ?_
      exact g_retI dJ9_floorMod_7cf53_19 rfl (hQ b1 ⟨by (clear hs hxs k3 k4; omega), by (clear hs hxs k3 k4; omega)⟩ (by (clear hs hxs k3; omega)) (by obtain ⟨q, hq⟩ := irem_q (x := a1) (y := a2) h_a1 ⟨p_p, by (clear hs hxs k3 k4; omega)⟩; rw [← e_b1] at hq; exact emod_u hq (by (clear hs hxs k3; omega)) (by (clear hs hxs k3 k4; omega))))
    · refine g_iload_n dJ9_floorMod_7cf53_14 rfl ?_
      refine g_iload_n dJ9_floorMod_7cf53_15 rfl ?_
      refine g_iadd dJ9_floorMod_7cf53_16 ?_
      exact g_retI dJ9_floorMod_7cf53_17 rfl (hQ (b1 + a2) ⟨by (clear hs hxs k3 k4; omega), by (omega)⟩ (by (omega)) (by obtain ⟨q, hq⟩ := irem_q (x := a1) (y := a2) h_a1 ⟨p_p, by (clear hs hxs k3 k4; omega)⟩; rw [← e_b1] at hq; exact emod_u (q := q - 1) (by rw [Int.mul_sub, Int.mul_one]; (clear hs hxs k3 k4; omega)) (by (clear hs hxs k3 k4; omega)) (by (omega))))
/-! What the reference answers: X12_begin. -/
set_option maxRecDepth 100000 in
set_option maxHeartbeats 4000000 in
theorem f_X12_begin (G : GT) (P : PH) (A : PH) (hB : BdM P) (p_im : P 0 44 = 1) (z0 : AM A P) (Q : Option PV → PH → Prop) (hQ : ∀ (P1 : PH) (_ : BdM P1) (_ : FrM ([60, 92], [35, 36, 37, 38, 39]) P P1) (_ : P1 35 0 = P 13 (P 0 13)) (_ : (P 0 44 = 0 ∧ P1 37 0 = 0) ∨ P 0 44 = 1) (_ : P1 38 0 = P 15 (P 0 13)) (_ : P1 39 0 = 0 ∧ P1 0 60 = 0 ∧ P1 0 92 = 0) (_ : AM (aBeg A (P 13 (P 0 13)) (P 15 (P 0 13))) P1), Q none P1) : Ct WSM G 1 iX12_begin [vR 0] P Q := by
  refine Ct.of (by decide) (l0 := [(0, vR 0)]) rfl (Nat.le_of_ble_eq_true rfl) ?_
  have q13 := b0_13 hB
  have q13a := bl_13 (k := P 0 13) hB
  refine g_aload_n dX12_begin_0 rfl ?_
  refine m_g53 rfl dX12_begin_1 ?_
  refine g_iconst dX12_begin_4 ?_
  refine g_aload_n dX12_begin_5 rfl ?_
  refine m_g25 rfl dX12_begin_6 ?_
  refine g_aload_n dX12_begin_9 rfl ?_
  refine m_g13 (z := (P 0 13)) rfl dX12_begin_10 rfl ?_
  refine m_l13 (z := (P 13 (P 0 13))) dX12_begin_13 ⟨by have q0 := b0_13 hB; omega, by have q0 := b0_13 hB; omega⟩ rfl ?_
  refine m_s35 dX12_begin_14 (by decide) ?_
  have hB1 := ba_35 (z := (P 13 (P 0 13))) (k := 0) hB ⟨by have q0 := bl_13 (k := (P 0 13)) hB; omega, by have q0 := bl_13 (k := (P 0 13)) hB; omega⟩
  refine g_iconst dX12_begin_15 ?_
  refine g_istore_n (l1 := [(1, vI 0), (0, vR 0)]) dX12_begin_16 (by decide) rfl ?_
  have L17_1 : ∀ (n17_1 : Nat) (x17_1_1 : Int) (h_x17_1_1 : 0 ≤ x17_1_1 ∧ x17_1_1 ≤ 12) (H17_1 : PH) (hB17_1 : BdM H17_1) (hE17_1 : FrM ([], [36]) (up P 35 0 (P 13 (P 0 13))) H17_1) (i17_0_1 : ∀ q : Int, 0 ≤ q → q < x17_1_1 → H17_1 36 q = q) (hm17_1 : ((13 - x17_1_1) : Int).toNat < n17_1), Go WSM G 1 iX12_begin 17 [(0, vR 0), (1, vI x17_1_1)] [] H17_1 Q := by
    intro n17_1
    induction n17_1 with
    | zero => intro x17_1_1 h_x17_1_1 H17_1 hB17_1 hE17_1 i17_0_1 hm17_1; exact absurd hm17_1 (Nat.not_lt_zero _)
    | succ n17_1 ih17_1 =>
    intro x17_1_1 h_x17_1_1 H17_1 hB17_1 hE17_1 i17_0_1 hm17_1
    refine g_iload_n dX12_begin_17 rfl ?_
    refine g_bipush dX12_begin_18 (by decide) ?_
    refine g_icmp_ge (tgt := 36) dX12_begin_20 (by decide) ⟨by omega, by omega⟩ (by decide) (fun k57 => ?_) (fun k57 => ?_)
    · refine g_aload_n dX12_begin_36 rfl ?_
      refine m_g55 rfl dX12_begin_37 ?_
      refine g_iconst dX12_begin_40 ?_
      refine g_aload_n dX12_begin_41 rfl ?_
      refine m_g44 (z := (P 0 44)) rfl dX12_begin_42 ((hE17_1.1 44 rfl).trans ((up_o (by decide)).trans rfl)) ?_
      have f58 := b0_44 hB
      refine g_if_eq (tgt := 54) dX12_begin_45 (by decide) ⟨by have q0 := b0_44 hB; omega, by have q0 := b0_44 hB; omega⟩ (fun k59 => ?_) (fun k59 => ?_)
      · refine g_iconst dX12_begin_54 ?_
        refine m_s37 dX12_begin_55 (by decide) ?_
        have hB60 := ba_37 (z := 0) (k := 0) hB17_1 (by decide)
        refine g_aload_n dX12_begin_56 rfl ?_
        refine m_g56 rfl dX12_begin_57 ?_
        refine g_iconst dX12_begin_60 ?_
        refine g_aload_n dX12_begin_61 rfl ?_
        refine m_g27 rfl dX12_begin_62 ?_
        refine g_aload_n dX12_begin_65 rfl ?_
        refine m_g13 (z := (P 0 13)) rfl dX12_begin_66 ((up_o (by decide)).trans ((hE17_1.1 13 rfl).trans ((up_o (by decide)).trans rfl))) ?_
        refine m_l15 (z := (P 15 (P 0 13))) dX12_begin_69 ⟨by have q0 := b0_13 hB; omega, by have q0 := b0_13 hB; omega⟩ ((up_o (by decide)).trans ((congrFun (hE17_1.2 15 rfl rfl) _).trans ((up_o (by decide)).trans rfl))) ?_
        refine m_s38 dX12_begin_70 (by decide) ?_
        have hB61 := ba_38 (z := (P 15 (P 0 13))) (k := 0) hB60 ⟨by have q0 := bl_15 (k := (P 0 13)) hB; omega, by have q0 := bl_15 (k := (P 0 13)) hB; omega⟩
        refine g_aload_n dX12_begin_71 rfl ?_
        refine m_g57 rfl dX12_begin_72 ?_
        refine g_iconst dX12_begin_75 ?_
        refine g_iconst dX12_begin_76 ?_
        refine m_s39 dX12_begin_77 (by decide) ?_
        have hB62 := ba_39 (z := 0) (k := 0) hB61 (by decide)
        refine g_aload_n dX12_begin_78 rfl ?_
        refine g_iconst dX12_begin_79 ?_
        refine m_p60 rfl dX12_begin_80 ?_
        have hB63 := bs_60 (z := 0) hB62 (by decide)
        refine g_aload_n dX12_begin_83 rfl ?_
        refine g_iconst dX12_begin_84 ?_
        refine m_p92 rfl dX12_begin_85 ?_
        have hB64 := bs_92 (z := 0) hB63 (by decide)
        exact g_retV dX12_begin_88 rfl (hQ _ hB64 (FrM.s (FrM.s (FrM.a (FrM.a (FrM.a (FrM.c (FrM.a FrM.rf rfl rfl) hE17_1 rfl) rfl rfl) rfl rfl) rfl rfl) rfl) rfl) (((up_o (by decide)).trans ((up_o (by decide)).trans ((up_o (by decide)).trans ((up_o (by decide)).trans ((up_o (by decide)).trans ((congrFun (hE17_1.2 35 rfl rfl) _).trans up_same))))))) (by have q44 := b0_44 hB; have q37 := (((up_o (by decide)).trans ((up_o (by decide)).trans ((up_o (by decide)).trans ((up_o (by decide)).trans up_same)))) : (up (up (up (up (up H17_1 37 0 0) 38 0 (P 15 (P 0 13))) 39 0 0) 0 60 0) 0 92 0) 37 0 = 0); omega) (((up_o (by decide)).trans ((up_o (by decide)).trans ((up_o (by decide)).trans up_same)))) (⟨((up_o (by decide)).trans ((up_o (by decide)).trans up_same)), ((up_k (by decide)).trans up_same), up_same⟩) (by first | (exfalso; omega) | exact AM.beg z0 ((up_o (by decide)).trans ((up_o (by decide)).trans ((up_o (by decide)).trans ((up_o (by decide)).trans ((up_o (by decide)).trans ((congrFun (hE17_1.2 35 rfl rfl) _).trans up_same)))))) ((up_o (by decide)).trans ((up_o (by decide)).trans ((up_o (by decide)).trans ((up_o (by decide)).trans up_same)))) ((up_o (by decide)).trans ((up_o (by decide)).trans ((up_o (by decide)).trans up_same))) (fun q q0 q1 => Eq.trans ((up_o (by decide)).trans ((up_o (by decide)).trans ((up_o (by decide)).trans ((up_o (by decide)).trans ((up_o (by decide)).trans rfl))))) (i17_0_1 q q0 (by omega))) ((up_o (by decide)).trans ((up_o (by decide)).trans up_same)) ((up_k (by decide)).trans up_same) up_same ((up_k (by decide)).trans ((up_k (by decide)).trans ((up_o (by decide)).trans ((up_o (by decide)).trans ((up_o (by decide)).trans ((hE17_1.1 61 rfl).trans ((up_o (by decide)).trans rfl)))))))))
      · have k59n : 1 ≤ (P 0 44) := by have q0 := b0_44 hB; omega
        clear k59
        refine g_sipush dX12_begin_48 (by decide) ?_
        refine g_goto (tgt := 55) dX12_begin_51 (by decide) ?_
        refine m_s37 dX12_begin_55 (by decide) ?_
        have hB65 := ba_37 (z := 255) (k := 0) hB17_1 (by decide)
        refine g_aload_n dX12_begin_56 rfl ?_
        refine m_g56 rfl dX12_begin_57 ?_
        refine g_iconst dX12_begin_60 ?_
        refine g_aload_n dX12_begin_61 rfl ?_
        refine m_g27 rfl dX12_begin_62 ?_
        refine g_aload_n dX12_begin_65 rfl ?_
        refine m_g13 (z := (P 0 13)) rfl dX12_begin_66 ((up_o (by decide)).trans ((hE17_1.1 13 rfl).trans ((up_o (by decide)).trans rfl))) ?_
        refine m_l15 (z := (P 15 (P 0 13))) dX12_begin_69 ⟨by have q0 := b0_13 hB; omega, by have q0 := b0_13 hB; omega⟩ ((up_o (by decide)).trans ((congrFun (hE17_1.2 15 rfl rfl) _).trans ((up_o (by decide)).trans rfl))) ?_
        refine m_s38 dX12_begin_70 (by decide) ?_
        have hB66 := ba_38 (z := (P 15 (P 0 13))) (k := 0) hB65 ⟨by have q0 := bl_15 (k := (P 0 13)) hB; omega, by have q0 := bl_15 (k := (P 0 13)) hB; omega⟩
        refine g_aload_n dX12_begin_71 rfl ?_
        refine m_g57 rfl dX12_begin_72 ?_
        refine g_iconst dX12_begin_75 ?_
        refine g_iconst dX12_begin_76 ?_
        refine m_s39 dX12_begin_77 (by decide) ?_
        have hB67 := ba_39 (z := 0) (k := 0) hB66 (by decide)
        refine g_aload_n dX12_begin_78 rfl ?_
        refine g_iconst dX12_begin_79 ?_
        refine m_p60 rfl dX12_begin_80 ?_
        have hB68 := bs_60 (z := 0) hB67 (by decide)
        refine g_aload_n dX12_begin_83 rfl ?_
        refine g_iconst dX12_begin_84 ?_
        refine m_p92 rfl dX12_begin_85 ?_
        have hB69 := bs_92 (z := 0) hB68 (by decide)
        exact g_retV dX12_begin_88 rfl (hQ _ hB69 (FrM.s (FrM.s (FrM.a (FrM.a (FrM.a (FrM.c (FrM.a FrM.rf rfl rfl) hE17_1 rfl) rfl rfl) rfl rfl) rfl rfl) rfl) rfl) (((up_o (by decide)).trans ((up_o (by decide)).trans ((up_o (by decide)).trans ((up_o (by decide)).trans ((up_o (by decide)).trans ((congrFun (hE17_1.2 35 rfl rfl) _).trans up_same))))))) (by have q44 := b0_44 hB; have q37 := (((up_o (by decide)).trans ((up_o (by decide)).trans ((up_o (by decide)).trans ((up_o (by decide)).trans up_same)))) : (up (up (up (up (up H17_1 37 0 255) 38 0 (P 15 (P 0 13))) 39 0 0) 0 60 0) 0 92 0) 37 0 = 255); omega) (((up_o (by decide)).trans ((up_o (by decide)).trans ((up_o (by decide)).trans up_same)))) (⟨((up_o (by decide)).trans ((up_o (by decide)).trans up_same)), ((up_k (by decide)).trans up_same), up_same⟩) (by first | (exfalso; omega) | exact AM.beg z0 ((up_o (by decide)).trans ((up_o (by decide)).trans ((up_o (by decide)).trans ((up_o (by decide)).trans ((up_o (by decide)).trans ((congrFun (hE17_1.2 35 rfl rfl) _).trans up_same)))))) ((up_o (by decide)).trans ((up_o (by decide)).trans ((up_o (by decide)).trans ((up_o (by decide)).trans up_same)))) ((up_o (by decide)).trans ((up_o (by decide)).trans ((up_o (by decide)).trans up_same))) (fun q q0 q1 => Eq.trans ((up_o (by decide)).trans ((up_o (by decide)).trans ((up_o (by decide)).trans ((up_o (by decide)).trans ((up_o (by decide)).trans rfl))))) (i17_0_1 q q0 (by omega))) ((up_o (by decide)).trans ((up_o (by decide)).trans up_same)) ((up_k (by decide)).trans up_same) up_same ((up_k (by decide)).trans ((up_k (by decide)).trans ((up_o (by decide)).trans ((up_o (by decide)).trans ((up_o (by decide)).trans ((hE17_1.1 61 rfl).trans ((up_o (by decide)).trans rfl)))))))))
    · refine g_aload_n dX12_begin_23 rfl ?_
      refine m_g54 rfl dX12_begin_24 ?_
      refine g_iload_n dX12_begin_27 rfl ?_
      refine g_iload_n dX12_begin_28 rfl ?_
      refine m_s36 dX12_begin_29 ⟨by omega, by omega⟩ ?_
      have hB70 := ba_36 (z := x17_1_1) (k := x17_1_1) hB17_1 ⟨by omega, by omega⟩
      have hA9 : ∀ q : Int, 0 ≤ q → q < x17_1_1 + 1 → (up H17_1 36 x17_1_1 x17_1_1) 36 q = q := by
        intro q q0 q1
        by_cases e : q = x17_1_1
        · rw [e]; exact up_same
        · have hj : q ≠ x17_1_1 := by omega
          exact Eq.trans ((up_k hj).trans rfl) (i17_0_1 q q0 (by (clear hj; omega)))
      refine g_iinc (l1 := [(1, vI (x17_1_1 + 1)), (0, vR 0)]) dX12_begin_30 rfl (by decide) rfl ?_
      refine g_goto (tgt := 17) dX12_begin_33 (by decide) ?_
      refine g_forget (l1 := [(0, vR 0), (1, vI (x17_1_1 + 1))]) (by intro q hq; simp only [List.mem_cons, List.not_mem_nil, or_false] at hq ⊢; rcases hq with rfl | rfl <;> simp) ?_
      exact ih17_1 (x17_1_1 + 1) ⟨by omega, by omega⟩ _ hB70 (FrM.a (FrM.c FrM.rf hE17_1 rfl) rfl rfl) (by first | exact hA9 | (intro q q0 q1; exfalso; omega)) (by omega)
  refine g_forget (l1 := [(0, vR 0), (1, vI 0)]) (by intro q hq; simp only [List.mem_cons, List.not_mem_nil, or_false] at hq ⊢; rcases hq with rfl | rfl <;> simp) ?_
  exact L17_1 _ 0 (by decide) _ hB1 FrM.rf (by first | exact hA9 | (intro q q0 q1; exfalso; omega)) (Nat.lt_succ_self _)
/-! What the reference answers: X12_copies. -/
set_option maxRecDepth 100000 in
set_option maxHeartbeats 4000000 in
theorem f_X12_copies (G : GT) (P : PH) (a1 : Int) (a2 : Int) (h_a1 : 0 ≤ a1 ∧ a1 ≤ 21) (h_a2 : 0 ≤ a2 ∧ a2 ≤ 21) (hB : BdM P) (p_ne : a1 ≠ a2) (Q : Option PV → PH → Prop) (hQ : ∀ (P1 : PH) (_ : BdM P1) (_ : FrM ([], [35, 36, 37, 38, 39, 40]) P P1) (_ : a1 = 0 ∨ P1 35 0 = P 35 0) (_ : CY a1 a2 P P1), Q none P1) : Ct WSM G 1 iX12_copies [vR 0, vI a1, vI a2] P Q := by
  refine Ct.of (by decide) (l0 := [(0, vR 0), (1, vI a1), (2, vI a2)]) rfl (Nat.le_of_ble_eq_true rfl) ?_
  refine g_aload_n dX12_copies_0 rfl ?_
  refine m_g53 rfl dX12_copies_1 ?_
  refine g_iload_n dX12_copies_4 rfl ?_
  refine g_aload_n dX12_copies_5 rfl ?_
  refine m_g53 rfl dX12_copies_6 ?_
  refine g_iload_n dX12_copies_9 rfl ?_
  refine m_l35 (z := (P 35 a2)) dX12_copies_10 ⟨by (clear p_ne; omega), by (clear p_ne; omega)⟩ rfl ?_
  refine m_s35 dX12_copies_11 ⟨by (clear p_ne; omega), by (clear p_ne; omega)⟩ ?_
  have hB1 := ba_35 (z := (P 35 a2)) (k := a1) hB ⟨by have q0 := bl_35 (k := a2) hB; (clear p_ne; omega), by have q0 := bl_35 (k := a2) hB; (clear p_ne; omega)⟩
  refine g_iconst dX12_copies_12 ?_
  refine g_istore_n (l1 := [(3, vI 0), (0, vR 0), (1, vI a1), (2, vI a2)]) dX12_copies_13 (by decide) rfl ?_
  have L14_1 : ∀ (n14_1 : Nat) (x14_3_1 : Int) (h_x14_3_1 : 0 ≤ x14_3_1 ∧ x14_3_1 ≤ 12) (H14_1 : PH) (hB14_1 : BdM H14_1) (hE14_1 : FrM ([], [36]) (up P 35 a1 (P 35 a2)) H14_1) (i14_0_1 : ∀ q : Int, 0 ≤ q → q < x14_3_1 → H14_1 36 ((12 * a1) + q) = P 36 ((12 * a2) + q)) (i14_1_1 : ∀ j : Int, j < 12 * a1 ∨ 12 * a1 + 12 ≤ j → H14_1 36 j = P 36 j) (hm14_1 : ((13 - x14_3_1) : Int).toNat < n14_1), Go WSM G 1 iX12_copies 14 [(0, vR 0), (1, vI a1), (2, vI a2), (3, vI x14_3_1)] [] H14_1 Q := by
    intro n14_1
    induction n14_1 with
    | zero => intro x14_3_1 h_x14_3_1 H14_1 hB14_1 hE14_1 i14_0_1 i14_1_1 hm14_1; exact absurd hm14_1 (Nat.not_lt_zero _)
    | succ n14_1 ih14_1 =>
    intro x14_3_1 h_x14_3_1 H14_1 hB14_1 hE14_1 i14_0_1 i14_1_1 hm14_1
    refine g_iload_n dX12_copies_14 rfl ?_
    refine g_bipush dX12_copies_15 (by decide) ?_
    refine g_icmp_ge (tgt := 48) dX12_copies_17 (by decide) ⟨by (clear p_ne; omega), by (clear p_ne; omega)⟩ (by decide) (fun k321 => ?_) (fun k321 => ?_)
    · refine g_aload_n dX12_copies_48 rfl ?_
      refine m_g55 rfl dX12_copies_49 ?_
      refine g_iload_n dX12_copies_52 rfl ?_
      refine g_aload_n dX12_copies_53 rfl ?_
      refine m_g55 rfl dX12_copies_54 ?_
      refine g_iload_n dX12_copies_57 rfl ?_
      refine m_l37 (z := (P 37 a2)) dX12_copies_58 ⟨by (clear p_ne; omega), by (clear p_ne; omega)⟩ ((congrFun (hE14_1.2 37 rfl rfl) _).trans ((up_o (by decide)).trans rfl)) ?_
      refine m_s37 dX12_copies_59 ⟨by (clear p_ne; omega), by (clear p_ne; omega)⟩ ?_
      have hB322 := ba_37 (z := (P 37 a2)) (k := a1) hB14_1 ⟨by have q0 := bl_37 (k := a2) hB; (clear p_ne; omega), by have q0 := bl_37 (k := a2) hB; (clear p_ne; omega)⟩
      refine g_aload_n dX12_copies_60 rfl ?_
      refine m_g56 rfl dX12_copies_61 ?_
      refine g_iload_n dX12_copies_64 rfl ?_
      refine g_aload_n dX12_copies_65 rfl ?_
      refine m_g56 rfl dX12_copies_66 ?_
      refine g_iload_n dX12_copies_69 rfl ?_
      refine m_l38 (z := (P 38 a2)) dX12_copies_70 ⟨by (clear p_ne; omega), by (clear p_ne; omega)⟩ ((up_o (by decide)).trans ((congrFun (hE14_1.2 38 rfl rfl) _).trans ((up_o (by decide)).trans rfl))) ?_
      refine m_s38 dX12_copies_71 ⟨by (clear p_ne; omega), by (clear p_ne; omega)⟩ ?_
      have hB323 := ba_38 (z := (P 38 a2)) (k := a1) hB322 ⟨by have q0 := bl_38 (k := a2) hB; (clear p_ne; omega), by have q0 := bl_38 (k := a2) hB; (clear p_ne; omega)⟩
      refine g_aload_n dX12_copies_72 rfl ?_
      refine m_g57 rfl dX12_copies_73 ?_
      refine g_iload_n dX12_copies_76 rfl ?_
      refine g_aload_n dX12_copies_77 rfl ?_
      refine m_g57 rfl dX12_copies_78 ?_
      refine g_iload_n dX12_copies_81 rfl ?_
      refine m_l39 (z := (P 39 a2)) dX12_copies_82 ⟨by (clear p_ne; omega), by (clear p_ne; omega)⟩ ((up_o (by decide)).trans ((up_o (by decide)).trans ((congrFun (hE14_1.2 39 rfl rfl) _).trans ((up_o (by decide)).trans rfl)))) ?_
      refine m_s39 dX12_copies_83 ⟨by (clear p_ne; omega), by (clear p_ne; omega)⟩ ?_
      have hB324 := ba_39 (z := (P 39 a2)) (k := a1) hB323 ⟨by have q0 := bl_39 (k := a2) hB; (clear p_ne; omega), by have q0 := bl_39 (k := a2) hB; (clear p_ne; omega)⟩
      refine g_iconst dX12_copies_84 ?_
      refine g_istore_n (l1 := [(3, vI 0), (0, vR 0), (1, vI a1), (2, vI a2)]) dX12_copies_85 (by decide) rfl ?_
      have L86_324 : ∀ (n86_324 : Nat) (x86_3_324 : Int) (h_x86_3_324 : 0 ≤ x86_3_324 ∧ x86_3_324 ≤ 120) (H86_324 : PH) (hB86_324 : BdM H86_324) (hE86_324 : FrM ([], [40]) (up (up (up H14_1 37 a1 (P 37 a2)) 38 a1 (P 38 a2)) 39 a1 (P 39 a2)) H86_324) (hm86_324 : ((121 - x86_3_324) : Int).toNat < n86_324), Go WSM G 1 iX12_copies 86 [(0, vR 0), (1, vI a1), (2, vI a2), (3, vI x86_3_324)] [] H86_324 Q := by
        intro n86_324
        induction n86_324 with
        | zero => intro x86_3_324 h_x86_3_324 H86_324 hB86_324 hE86_324 hm86_324; exact absurd hm86_324 (Nat.not_lt_zero _)
        | succ n86_324 ih86_324 =>
        intro x86_3_324 h_x86_3_324 H86_324 hB86_324 hE86_324 hm86_324
        refine g_iload_n dX12_copies_86 rfl ?_
        refine g_iconst dX12_copies_87 ?_
        refine g_aload_n dX12_copies_88 rfl ?_
        refine m_g57 rfl dX12_copies_89 ?_
        refine g_iload_n dX12_copies_92 rfl ?_
        refine m_l39 (z := ((up (up (up H14_1 37 a1 (P 37 a2)) 38 a1 (P 38 a2)) 39 a1 (P 39 a2)) 39 a2)) dX12_copies_93 ⟨by (clear p_ne; omega), by (clear p_ne; omega)⟩ ((congrFun (hE86_324.2 39 rfl rfl) _).trans rfl) ?_
        refine g_imul dX12_copies_94 ?_
        have f416 := bl_39 (k := a2) hB324
        have f417 := up_cs (P := (up (up H14_1 37 a1 (P 37 a2)) 38 a1 (P 38 a2))) (o := 39) (k := a1) (k1 := a2) (z := (P 39 a2))
        have f418 := bl_39 (k := a2) hB
        have f419 := (((up_o (by decide)).trans ((up_o (by decide)).trans ((congrFun (hE14_1.2 39 rfl rfl) _).trans ((up_o (by decide)).trans rfl)))) : (up (up H14_1 37 a1 (P 37 a2)) 38 a1 (P 38 a2)) 39 a2 = (P 39 a2))
        refine g_icmp_ge (tgt := 126) dX12_copies_95 (by decide) ⟨by (clear p_ne f417; omega), by (clear p_ne f417; omega)⟩ ⟨by have q0 := bl_39 (k := a2) hB324; have q1 := up_cs (P := (up (up H14_1 37 a1 (P 37 a2)) 38 a1 (P 38 a2))) (o := 39) (k := a1) (k1 := a2) (z := (P 39 a2)); have q2 := bl_39 (k := a2) hB; have q3 := (((up_o (by decide)).trans ((up_o (by decide)).trans ((congrFun (hE14_1.2 39 rfl rfl) _).trans ((up_o (by decide)).trans rfl)))) : (up (up H14_1 37 a1 (P 37 a2)) 38 a1 (P 38 a2)) 39 a2 = (P 39 a2)); (clear p_ne f417; omega), by have q0 := bl_39 (k := a2) hB324; have q1 := up_cs (P := (up (up H14_1 37 a1 (P 37 a2)) 38 a1 (P 38 a2))) (o := 39) (k := a1) (k1 := a2) (z := (P 39 a2)); have q2 := bl_39 (k := a2) hB; have q3 := (((up_o (by decide)).trans ((up_o (by decide)).trans ((congrFun (hE14_1.2 39 rfl rfl) _).trans ((up_o (by decide)).trans rfl)))) : (up (up H14_1 37 a1 (P 37 a2)) 38 a1 (P 38 a2)) 39 a2 = (P 39 a2)); (clear p_ne f417; omega)⟩ (fun k420 => ?_) (fun k420 => ?_)
        · exact g_retV dX12_copies_126 rfl (hQ _ hB86_324 (FrM.c (FrM.a (FrM.a (FrM.a (FrM.c (FrM.a FrM.rf rfl rfl) hE14_1 rfl) rfl rfl) rfl rfl) rfl rfl) hE86_324 rfl) (by have q0 := (((congrFun (hE86_324.2 35 rfl rfl) _).trans ((up_o (by decide)).trans ((up_o (by decide)).trans ((up_o (by decide)).trans ((congrFun (hE14_1.2 35 rfl rfl) _).trans rfl))))) : H86_324 35 0 = ((up P 35 a1 (P 35 a2)) 35 0)); have q1 := bl_35 (k := 0) hB1; have q2 := up_cs (P := P) (o := 35) (k := a1) (k1 := 0) (z := (P 35 a2)); have q3 := bl_35 (k := a2) hB; have q4 := bl_35 (k := 0) hB; (clear p_ne f417; omega)) (⟨⟨((congrFun (hE86_324.2 35 rfl rfl) _).trans ((up_o (by decide)).trans ((up_o (by decide)).trans ((up_o (by decide)).trans ((congrFun (hE14_1.2 35 rfl rfl) _).trans up_same))))), ((congrFun (hE86_324.2 37 rfl rfl) _).trans ((up_o (by decide)).trans ((up_o (by decide)).trans up_same))), ((congrFun (hE86_324.2 38 rfl rfl) _).trans ((up_o (by decide)).trans up_same)), ((congrFun (hE86_324.2 39 rfl rfl) _).trans up_same)⟩, fun p p0 p1 => Eq.trans ((congrFun (hE86_324.2 36 rfl rfl) _).trans ((up_o (by decide)).trans ((up_o (by decide)).trans ((up_o (by decide)).trans rfl)))) (i14_0_1 p p0 (by (clear p_ne f417; omega))), fun j hj => ⟨((congrFun (hE86_324.2 35 rfl rfl) _).trans ((up_o (by decide)).trans ((up_o (by decide)).trans ((up_o (by decide)).trans ((congrFun (hE14_1.2 35 rfl rfl) _).trans ((up_k hj).trans rfl)))))), ((congrFun (hE86_324.2 37 rfl rfl) _).trans ((up_o (by decide)).trans ((up_o (by decide)).trans ((up_k hj).trans ((congrFun (hE14_1.2 37 rfl rfl) _).trans ((up_o (by decide)).trans rfl)))))), ((congrFun (hE86_324.2 38 rfl rfl) _).trans ((up_o (by decide)).trans ((up_k hj).trans ((up_o (by decide)).trans ((congrFun (hE14_1.2 38 rfl rfl) _).trans ((up_o (by decide)).trans rfl)))))), ((congrFun (hE86_324.2 39 rfl rfl) _).trans ((up_k hj).trans ((up_o (by decide)).trans ((up_o (by decide)).trans ((congrFun (hE14_1.2 39 rfl rfl) _).trans ((up_o (by decide)).trans rfl))))))⟩, fun j hj => Eq.trans ((congrFun (hE86_324.2 36 rfl rfl) _).trans ((up_o (by decide)).trans ((up_o (by decide)).trans ((up_o (by decide)).trans rfl)))) (i14_1_1 j hj)⟩))
        · skip
          refine g_aload_n dX12_copies_98 rfl ?_
          refine m_g58 rfl dX12_copies_99 ?_
          refine g_bipush dX12_copies_102 (by decide) ?_
          refine g_iload_n dX12_copies_104 rfl ?_
          refine g_imul dX12_copies_105 ?_
          refine g_iload_n dX12_copies_106 rfl ?_
          refine g_iadd dX12_copies_107 ?_
          refine g_aload_n dX12_copies_108 rfl ?_
          refine m_g58 rfl dX12_copies_109 ?_
          refine g_bipush dX12_copies_112 (by decide) ?_
          refine g_iload_n dX12_copies_114 rfl ?_
          refine g_imul dX12_copies_115 ?_
          refine g_iload_n dX12_copies_116 rfl ?_
          refine g_iadd dX12_copies_117 ?_
          refine m_l40 (z := (H86_324 40 ((120 * a2) + x86_3_324))) dX12_copies_118 ⟨by (clear p_ne f417; omega), by (clear p_ne f417; omega)⟩ rfl ?_
          refine m_s40 dX12_copies_119 ⟨by (clear p_ne f417; omega), by (clear p_ne f417; omega)⟩ ?_
          have hB421 := ba_40 (z := (H86_324 40 ((120 * a2) + x86_3_324))) (k := ((120 * a1) + x86_3_324)) hB86_324 ⟨by have q0 := bl_40 (k := ((120 * a2) + x86_3_324)) hB86_324; (clear p_ne f417; omega), by have q0 := bl_40 (k := ((120 * a2) + x86_3_324)) hB86_324; (clear p_ne f417; omega)⟩
          refine g_iinc (l1 := [(3, vI (x86_3_324 + 1)), (0, vR 0), (1, vI a1), (2, vI a2)]) dX12_copies_120 rfl (by decide) rfl ?_
          refine g_goto (tgt := 86) dX12_copies_123 (by decide) ?_
          refine g_forget (l1 := [(0, vR 0), (1, vI a1), (2, vI a2), (3, vI (x86_3_324 + 1))]) (by intro q hq; simp only [List.mem_cons, List.not_mem_nil, or_false] at hq ⊢; rcases hq with rfl | rfl | rfl | rfl <;> simp) ?_
          exact ih86_324 (x86_3_324 + 1) ⟨by (clear p_ne f417; omega), by (clear p_ne f417; omega)⟩ _ hB421 (FrM.a (FrM.c FrM.rf hE86_324 rfl) rfl rfl) (by (clear p_ne f417; omega))
      refine g_forget (l1 := [(0, vR 0), (1, vI a1), (2, vI a2), (3, vI 0)]) (by intro q hq; simp only [List.mem_cons, List.not_mem_nil, or_false] at hq ⊢; rcases hq with rfl | rfl | rfl | rfl <;> simp) ?_
      exact L86_324 _ 0 (by decide) _ hB324 FrM.rf (Nat.lt_succ_self _)
    · refine g_aload_n dX12_copies_20 rfl ?_
      refine m_g54 rfl dX12_copies_21 ?_
      refine g_bipush dX12_copies_24 (by decide) ?_
      refine g_iload_n dX12_copies_26 rfl ?_
      refine g_imul dX12_copies_27 ?_
      refine g_iload_n dX12_copies_28 rfl ?_
      refine g_iadd dX12_copies_29 ?_
      refine g_aload_n dX12_copies_30 rfl ?_
      refine m_g54 rfl dX12_copies_31 ?_
      refine g_bipush dX12_copies_34 (by decide) ?_
      refine g_iload_n dX12_copies_36 rfl ?_
      refine g_imul dX12_copies_37 ?_
      refine g_iload_n dX12_copies_38 rfl ?_
      refine g_iadd dX12_copies_39 ?_
      refine m_l36 (z := (H14_1 36 ((12 * a2) + x14_3_1))) dX12_copies_40 ⟨by (clear p_ne; omega), by (clear p_ne; omega)⟩ rfl ?_
      refine m_s36 dX12_copies_41 ⟨by (clear p_ne; omega), by (clear p_ne; omega)⟩ ?_
      have hB422 := ba_36 (z := (H14_1 36 ((12 * a2) + x14_3_1))) (k := ((12 * a1) + x14_3_1)) hB14_1 ⟨by have q0 := bl_36 (k := ((12 * a2) + x14_3_1)) hB14_1; (clear p_ne; omega), by have q0 := bl_36 (k := ((12 * a2) + x14_3_1)) hB14_1; (clear p_ne; omega)⟩
      have hA9 : ∀ q : Int, 0 ≤ q → q < x14_3_1 + 1 → (up H14_1 36 ((12 * a1) + x14_3_1) (H14_1 36 ((12 * a2) + x14_3_1))) 36 ((12 * a1) + q) = P 36 ((12 * a2) + q) := by
        intro q q0 q1
        by_cases e : q = x14_3_1
        · rw [e]; exact Eq.trans up_same (i14_1_1 _ (by (omega)))
        · have hj : ((12 * a1) + q) ≠ ((12 * a1) + x14_3_1) := by (clear p_ne; omega)
          exact Eq.trans ((up_k hj).trans rfl) (i14_0_1 q q0 (by (clear p_ne hj; omega)))
      have hB9 : ∀ j : Int, j < 12 * a1 ∨ 12 * a1 + 12 ≤ j → (up H14_1 36 ((12 * a1) + x14_3_1) (H14_1 36 ((12 * a2) + x14_3_1))) 36 j = P 36 j := by
        intro j h0
        have hj : j ≠ ((12 * a1) + x14_3_1) := by (clear p_ne; omega)
        exact Eq.trans ((up_k hj).trans rfl) (i14_1_1 j h0)
      refine g_iinc (l1 := [(3, vI (x14_3_1 + 1)), (0, vR 0), (1, vI a1), (2, vI a2)]) dX12_copies_42 rfl (by decide) rfl ?_
      refine g_goto (tgt := 14) dX12_copies_45 (by decide) ?_
      refine g_forget (l1 := [(0, vR 0), (1, vI a1), (2, vI a2), (3, vI (x14_3_1 + 1))]) (by intro q hq; simp only [List.mem_cons, List.not_mem_nil, or_false] at hq ⊢; rcases hq with rfl | rfl | rfl | rfl <;> simp) ?_
      exact ih14_1 (x14_3_1 + 1) ⟨by (clear p_ne; omega), by (clear p_ne; omega)⟩ _ hB422 (FrM.a (FrM.c FrM.rf hE14_1 rfl) rfl rfl) (by first | exact hA9 | (intro q q0 q1; exfalso; (first | (clear p_ne; omega) | omega))) (by first | exact hB9 | exact fun j _ => hNONE) (by (clear p_ne; omega))
  refine g_forget (l1 := [(0, vR 0), (1, vI a1), (2, vI a2), (3, vI 0)]) (by intro q hq; simp only [List.mem_cons, List.not_mem_nil, or_false] at hq ⊢; rcases hq with rfl | rfl | rfl | rfl <;> simp) ?_
  exact L14_1 _ 0 (by decide) _ hB1 FrM.rf (by first | exact hA9 | (intro q q0 q1; exfalso; (clear p_ne; omega))) (by first | exact hB9 | exact fun j _ => ((up_o (by decide)).trans rfl)) (Nat.lt_succ_self _)
/-! What the reference answers: X12_comesOn. -/
set_option maxRecDepth 100000 in
set_option maxHeartbeats 4000000 in
theorem f_X12_comesOn (G : GT) (P : PH) (T : TT) (A : PH) (M : PH) (a1 : Int) (h_a1 : 0 ≤ a1 ∧ a1 ≤ 1600) (hB : BdM P) (p_n : a1 = T.2) (p_tx : ∀ i : Int, 0 ≤ i → i < T.2 → P 1 i = T.1 i) (z0 : AM A P) (z1 : MH M P) (z2 : MMB M P) (Q : Option PV → PH → Prop) (hQ : ∀ (r : Int) (_ : 0 ≤ r ∧ r ≤ 1) (P1 : PH) (_ : BdM P1) (_ : FrM ([], [35, 36, 37, 38, 39, 40]) P P1) (_ : (r = 1 ∧ onOk T M ∧ P1 35 1 = T.1 0 ∧ P1 37 1 = T.1 (T.2 - 3) ∧ P1 38 1 = T.1 (T.2 - 2) ∧ P1 39 1 = 0 ∧ ∀ q : Int, 0 ≤ q → q < T.1 0 → P1 36 (12 + q) = T.1 (1 + q)) ∨ (r = 0 ∧ ¬ onOk T M)) (_ : AM A P1), Q (some (vI r)) P1) : Ct WSM G 2 iX12_comesOn [vR 0, vI a1] P Q := by
  refine Ct.of (by decide) (l0 := [(0, vR 0), (1, vI a1)]) rfl (Nat.le_of_ble_eq_true rfl) ?_
  have hb := z0.b
  have hmh := z1
  unfold MH at hmh
  have hm2 := z2.b.2.1
  have q44 := b0_44 hB
  have ht0 : 0 < T.2 → P 1 0 = T.1 0 := fun h => p_tx 0 (by decide) h
  have qb0 := bl_1 (k := 0) hB
  have q13m := bl_13 (k := P 0 13) hB
  refine g_aload_n dX12_comesOn_0 rfl ?_
  refine m_g44 (z := (P 0 44)) rfl dX12_comesOn_1 rfl ?_
  have f1 := b0_44 hB
  refine g_if_eq (tgt := 42) dX12_comesOn_4 (by decide) ⟨by have q0 := b0_44 hB; (clear hb hmh ht0; omega), by have q0 := b0_44 hB; (clear hb hmh ht0; omega)⟩ (fun k2 => ?_) (fun k2 => ?_)
  · refine g_iconst dX12_comesOn_42 ?_
    exact g_retZ dX12_comesOn_43 rfl (by decide) (hQ 0 (by decide) _ hB FrM.rf (Or.inr ⟨rfl, fun q => by have q1 := q.1; unfold oHd at q1; (omega)⟩) (z0))
  · have k2n : 1 ≤ (P 0 44) := by have q0 := b0_44 hB; (clear hb hmh ht0; omega)
    clear k2
    refine g_iload_n dX12_comesOn_7 rfl ?_
    refine g_iconst dX12_comesOn_8 ?_
    refine g_icmp_lt (tgt := 42) dX12_comesOn_9 (by decide) ⟨by (clear hb hmh ht0; omega), by (clear hb hmh ht0; omega)⟩ (by decide) (fun k3 => ?_) (fun k3 => ?_)
    · refine g_iconst dX12_comesOn_42 ?_
      exact g_retZ dX12_comesOn_43 rfl (by decide) (hQ 0 (by decide) _ hB FrM.rf (Or.inr ⟨rfl, fun q => by have q1 := q.1; unfold oHd at q1; (clear hb hmh ht0; omega)⟩) (z0))
    · refine g_aload_n dX12_comesOn_12 rfl ?_
      refine m_g0 rfl dX12_comesOn_13 ?_
      refine g_iconst dX12_comesOn_16 ?_
      refine m_l1 (z := (P 1 0)) dX12_comesOn_17 (by decide) rfl ?_
      refine g_aload_n dX12_comesOn_18 rfl ?_
      refine m_g25 rfl dX12_comesOn_19 ?_
      refine g_aload_n dX12_comesOn_22 rfl ?_
      refine m_g13 (z := (P 0 13)) rfl dX12_comesOn_23 rfl ?_
      refine m_l13 (z := (P 13 (P 0 13))) dX12_comesOn_26 ⟨by have q0 := b0_13 hB; (clear hb hmh ht0 k3; omega), by have q0 := b0_13 hB; (clear hb hmh ht0 k3; omega)⟩ rfl ?_
      have f4 := bl_1 (k := 0) hB
      have f5 := bl_13 (k := (P 0 13)) hB
      refine g_icmp_gt (tgt := 42) dX12_comesOn_27 (by decide) ⟨by have q0 := bl_1 (k := 0) hB; (clear hb hmh ht0 k3; omega), by have q0 := bl_1 (k := 0) hB; (clear hb hmh ht0 k3; omega)⟩ ⟨by have q0 := bl_13 (k := (P 0 13)) hB; (clear hb hmh ht0 k3; omega), by have q0 := bl_13 (k := (P 0 13)) hB; (clear hb hmh ht0 k3; omega)⟩ (fun k6 => ?_) (fun k6 => ?_)
      · refine g_iconst dX12_comesOn_42 ?_
        exact g_retZ dX12_comesOn_43 rfl (by decide) (hQ 0 (by decide) _ hB FrM.rf (Or.inr ⟨rfl, fun q => by have q1 := q.1; unfold oHd at q1; (clear hb; omega)⟩) (z0))
      · refine g_iload_n dX12_comesOn_30 rfl ?_
        refine g_aload_n dX12_comesOn_31 rfl ?_
        refine m_g0 rfl dX12_comesOn_32 ?_
        refine g_iconst dX12_comesOn_35 ?_
        refine m_l1 (z := (P 1 0)) dX12_comesOn_36 (by decide) rfl ?_
        refine g_iconst dX12_comesOn_37 ?_
        refine g_iadd dX12_comesOn_38 ?_
        refine g_icmp_eq (tgt := 44) dX12_comesOn_39 (by decide) ⟨by (clear hb hmh ht0 k3 k6; omega), by (clear hb hmh ht0 k3 k6; omega)⟩ ⟨by have q0 := bl_1 (k := 0) hB; (clear hb hmh ht0 k3 k6; omega), by have q0 := bl_1 (k := 0) hB; (clear hb hmh ht0 k3 k6; omega)⟩ (fun k7 => ?_) (fun k7 => ?_)
        · have hoh : oHd T M := ⟨by (clear hb ht0 k3 k6 k7; omega), by (clear hb hmh ht0 k3 k6; omega), by (clear hmh hb; omega), by (clear hmh hb; omega)⟩
          have ht9 := ht0 (by (clear hb hmh ht0 k3 k6; omega))
          refine g_sipush dX12_comesOn_44 (by decide) ?_
          refine g_istore_n (l1 := [(2, vI 199), (0, vR 0), (1, vI a1)]) dX12_comesOn_47 (by decide) rfl ?_
          refine g_iconst dX12_comesOn_48 ?_
          refine g_istore_n (l1 := [(3, vI 0), (2, vI 199), (0, vR 0), (1, vI a1)]) dX12_comesOn_49 (by decide) rfl ?_
          have L50_7 : ∀ (n50_7 : Nat) (x50_3_7 : Int) (h_x50_3_7 : 0 ≤ x50_3_7 ∧ x50_3_7 ≤ 15) (x50_2_7 : Int) (h_x50_2_7 : 0 ≤ x50_2_7 ∧ x50_2_7 ≤ 250) (i50_0_7 : x50_2_7 = ckF T (x50_3_7).toNat) (i50_1_7 : x50_3_7 ≤ a1 - 1) (hm50_7 : ((16 - x50_3_7) : Int).toNat < n50_7), Go WSM G 2 iX12_comesOn 50 [(0, vR 0), (1, vI a1), (2, vI x50_2_7), (3, vI x50_3_7)] [] P Q := by
            intro n50_7
            induction n50_7 with
            | zero => intro x50_3_7 h_x50_3_7 x50_2_7 h_x50_2_7 i50_0_7 i50_1_7 hm50_7; exact absurd hm50_7 (Nat.not_lt_zero _)
            | succ n50_7 ih50_7 =>
            intro x50_3_7 h_x50_3_7 x50_2_7 h_x50_2_7 i50_0_7 i50_1_7 hm50_7
            refine g_iload_n dX12_comesOn_50 rfl ?_
            refine g_iload_n dX12_comesOn_51 rfl ?_
            refine g_iconst dX12_comesOn_52 ?_
            refine g_isub dX12_comesOn_53 ?_
            refine g_icmp_ge (tgt := 78) dX12_comesOn_54 (by decide) ⟨by (clear hb hmh ht0 k3 k6 k7; omega), by (clear hb hmh ht0 k3 k6 k7; omega)⟩ ⟨by (clear hb hmh ht0 k3 k6 k7; omega), by (clear hb hmh ht0 k3 k6 k7; omega)⟩ (fun k1698 => ?_) (fun k1698 => ?_)
            · refine g_aload_n dX12_comesOn_78 rfl ?_
              have hck : x50_2_7 = ckF T (T.2 - 1).toNat := by rw [show T.2 - 1 = x50_3_7 by (clear hb hmh ht0 k3 k6 k7; omega)]; exact i50_0_7
              have eT1 : P 1 (a1 - 1) = T.1 (T.2 - 1) := by rw [p_tx (a1 - 1) (by (clear hb hmh ht0 k3 k6 k7; omega)) (by (clear hb hmh ht0 k3 k6 k7; omega)), p_n]
              have eT2 : P 1 (a1 - 2) = T.1 (T.2 - 2) := by rw [p_tx (a1 - 2) (by (clear hb hmh ht0 k3 k6; omega)) (by (clear hb hmh ht0 k3 k6 k7; omega)), p_n]
              have eT3 : P 1 (a1 - 3) = T.1 (T.2 - 3) := by rw [p_tx (a1 - 3) (by (clear hb hmh ht0 k3 k6; omega)) (by (clear hb hmh ht0 k3 k6 k7; omega)), p_n]
              refine m_g0 rfl dX12_comesOn_79 ?_
              refine g_iload_n dX12_comesOn_82 rfl ?_
              refine g_iconst dX12_comesOn_83 ?_
              refine g_isub dX12_comesOn_84 ?_
              refine m_l1 (z := (P 1 (a1 - 1))) dX12_comesOn_85 ⟨by (clear hb hmh ht0 k3 k6 k7; omega), by (clear hb hmh ht0 k3 k6 k7; omega)⟩ rfl ?_
              refine g_iload_n dX12_comesOn_86 rfl ?_
              have f1699 := bl_1 (k := (a1 - 1)) hB
              refine g_icmp_ne (tgt := 102) dX12_comesOn_87 (by decide) ⟨by have q0 := bl_1 (k := (a1 - 1)) hB; (clear hb hmh ht0 k3 k6 k7; omega), by have q0 := bl_1 (k := (a1 - 1)) hB; (clear hb hmh ht0 k3 k6 k7; omega)⟩ ⟨by (clear hb hmh ht0 k3 k6 k7; omega), by (clear hb hmh ht0 k3 k6 k7; omega)⟩ (fun k1700 => ?_) (fun k1700 => ?_)
              · refine g_iconst dX12_comesOn_102 ?_
                exact g_retZ dX12_comesOn_103 rfl (by decide) (hQ 0 (by decide) _ hB FrM.rf (Or.inr ⟨rfl, fun q => by have q1 := q.2.1; have q2 := q.2.2.1; (clear hb hmh ht0 k3 k6 k7; omega)⟩) (z0))
              · refine g_aload_n dX12_comesOn_90 rfl ?_
                refine m_g0 rfl dX12_comesOn_91 ?_
                refine g_iload_n dX12_comesOn_94 rfl ?_
                refine g_iconst dX12_comesOn_95 ?_
                refine g_isub dX12_comesOn_96 ?_
                refine m_l1 (z := (P 1 (a1 - 2))) dX12_comesOn_97 ⟨by (omega), by (clear hb hmh ht0 k3 k6 k7 k1700; omega)⟩ rfl ?_
                refine g_iconst dX12_comesOn_98 ?_
                have f1701 := bl_1 (k := (a1 - 2)) hB
                refine g_icmp_lt (tgt := 104) dX12_comesOn_99 (by decide) ⟨by have q0 := bl_1 (k := (a1 - 2)) hB; (clear hb hmh ht0 k3 k6 k7 k1700; omega), by have q0 := bl_1 (k := (a1 - 2)) hB; (clear hb hmh ht0 k3 k6 k7 k1700; omega)⟩ (by decide) (fun k1702 => ?_) (fun k1702 => ?_)
                · refine g_aload_n dX12_comesOn_104 rfl ?_
                  refine g_iconst dX12_comesOn_105 ?_
                  refine g_iconst dX12_comesOn_106 ?_
                  have hpm := z0
                  have hbk := hB
                  refine g_vV (av := [vI 1, vI 0]) (o := 0) (st := []) (f_X12_copies G P 1 0 (by decide) (by decide) hB (by decide) _ (fun Pc1703 hBc1703 hFc1703 gc1703_o gc1703_cy => ⟨rfl, ?_⟩)) cf_X12_copies t_1859 rfl (by decide) rfl rfl rfl (Nat.le_of_ble_eq_true rfl) (by decide) rfl dX12_comesOn_107
                  obtain ⟨Z, hZ⟩ : ∃ Z : PH, Pc1703 = Z := ⟨_, rfl⟩
                  have hmz : AM A Z := by rw [← hZ]; exact hpm.un1 hbk gc1703_cy hFc1703
                  have hbz : BdM Z := by rw [← hZ]; exact hBc1703
                  refine g_aload_n dX12_comesOn_110 rfl ?_
                  refine m_g53 rfl dX12_comesOn_111 ?_
                  refine g_iconst dX12_comesOn_114 ?_
                  refine g_aload_n dX12_comesOn_115 rfl ?_
                  refine m_g0 rfl dX12_comesOn_116 ?_
                  refine g_iconst dX12_comesOn_119 ?_
                  refine m_l1 (z := (P 1 0)) dX12_comesOn_120 (by decide) ((congrFun (hFc1703.2 1 rfl rfl) _).trans rfl) ?_
                  refine m_s35 dX12_comesOn_121 (by decide) ?_
                  have hB1704 := ba_35 (z := (P 1 0)) (k := 1) hBc1703 ⟨by have q0 := bl_1 (k := 0) hB; (clear hb hmh ht0 k3 k6 k7 k1700 gc1703_o; omega), by have q0 := bl_1 (k := 0) hB; (omega)⟩
                  refine g_iconst dX12_comesOn_122 ?_
                  refine g_istore_n (l1 := [(3, vI 0), (0, vR 0), (1, vI a1), (2, vI x50_2_7)]) dX12_comesOn_123 (by decide) rfl ?_
                  refine g_iconst dX12_comesOn_124 ?_
                  refine g_istore (l1 := [(4, vI 0), (3, vI 0), (0, vR 0), (1, vI a1), (2, vI x50_2_7)]) dX12_comesOn_125 (by decide) rfl ?_
                  have L127_1704 : ∀ (n127_1704 : Nat) (x127_4_1704 : Int) (h_x127_4_1704 : 0 ≤ x127_4_1704 ∧ x127_4_1704 ≤ 12) (x127_3_1704 : Int) (h_x127_3_1704 : 0 ≤ x127_3_1704 ∧ x127_3_1704 ≤ 4095) (H127_1704 : PH) (hB127_1704 : BdM H127_1704) (hE127_1704 : FrM ([], [36]) (up Pc1703 35 1 (P 1 0)) H127_1704) (i127_0_1704 : x127_3_1704 = hdF T (x127_4_1704).toNat) (i127_1_1704 : OLI T M x127_4_1704) (i127_2_1704 : ∀ q : Int, 0 ≤ q → q < x127_4_1704 → H127_1704 36 (12 + q) = T.1 (1 + q)) (i127_3_1704 : ∀ j : Int, j < 12 ∨ 24 ≤ j → H127_1704 36 j = Z 36 j) (hm127_1704 : ((13 - x127_4_1704) : Int).toNat < n127_1704), Go WSM G 2 iX12_comesOn 127 [(0, vR 0), (1, vI a1), (3, vI x127_3_1704), (4, vI x127_4_1704)] [] H127_1704 Q := by
                    intro n127_1704
                    induction n127_1704 with
                    | zero => intro x127_4_1704 h_x127_4_1704 x127_3_1704 h_x127_3_1704 H127_1704 hB127_1704 hE127_1704 i127_0_1704 i127_1_1704 i127_2_1704 i127_3_1704 hm127_1704; exact absurd hm127_1704 (Nat.not_lt_zero _)
                    | succ n127_1704 ih127_1704 =>
                    intro x127_4_1704 h_x127_4_1704 x127_3_1704 h_x127_3_1704 H127_1704 hB127_1704 hE127_1704 i127_0_1704 i127_1_1704 i127_2_1704 i127_3_1704 hm127_1704
                    refine g_iload dX12_comesOn_127 rfl ?_
                    refine g_aload_n dX12_comesOn_129 rfl ?_
                    refine m_g0 rfl dX12_comesOn_130 ?_
                    refine g_iconst dX12_comesOn_133 ?_
                    refine m_l1 (z := (P 1 0)) dX12_comesOn_134 (by decide) ((congrFun (hE127_1704.2 1 rfl rfl) _).trans ((up_o (by decide)).trans ((congrFun (hFc1703.2 1 rfl rfl) _).trans rfl))) ?_
                    refine g_icmp_ge (tgt := 200) dX12_comesOn_135 (by decide) ⟨by (clear hb hmh ht0 k3 k6 k7 k1700 gc1703_o; omega), by (clear hb hmh ht0 k3 k6 k7 k1700 gc1703_o; omega)⟩ ⟨by have q0 := bl_1 (k := 0) hB; (clear hb hmh ht0 k3 k6 k7 k1700 gc1703_o; omega), by have q0 := bl_1 (k := 0) hB; (clear hb hmh ht0 k3 k6 k7 k1700 gc1703_o; omega)⟩ (fun k1838 => ?_) (fun k1838 => ?_)
                    · have r_gc1703_o := (gc1703_o.resolve_left (by (clear hb hmh ht0 k3 k6 k7 k1700 gc1703_o; omega)))
                      refine g_aload_n dX12_comesOn_200 rfl ?_
                      refine m_g55 rfl dX12_comesOn_201 ?_
                      refine g_iconst dX12_comesOn_204 ?_
                      refine g_aload_n dX12_comesOn_205 rfl ?_
                      refine m_g0 rfl dX12_comesOn_206 ?_
                      refine g_iload_n dX12_comesOn_209 rfl ?_
                      refine g_iconst dX12_comesOn_210 ?_
                      refine g_isub dX12_comesOn_211 ?_
                      refine m_l1 (z := (P 1 (a1 - 3))) dX12_comesOn_212 ⟨by (omega), by (clear hb hmh ht0 k3 k6 k7 k1700 gc1703_o; omega)⟩ ((congrFun (hE127_1704.2 1 rfl rfl) _).trans ((up_o (by decide)).trans ((congrFun (hFc1703.2 1 rfl rfl) _).trans rfl))) ?_
                      refine m_s37 dX12_comesOn_213 (by decide) ?_
                      have hB1839 := ba_37 (z := (P 1 (a1 - 3))) (k := 1) hB127_1704 ⟨by have q0 := bl_1 (k := (a1 - 3)) hB; (clear hb hmh ht0 k3 k6 k7 k1700 gc1703_o; omega), by have q0 := bl_1 (k := (a1 - 3)) hB; (clear hb hmh ht0 k3 k6 k7 k1700 gc1703_o; omega)⟩
                      refine g_aload_n dX12_comesOn_214 rfl ?_
                      refine m_g56 rfl dX12_comesOn_215 ?_
                      refine g_iconst dX12_comesOn_218 ?_
                      refine g_aload_n dX12_comesOn_219 rfl ?_
                      refine m_g0 rfl dX12_comesOn_220 ?_
                      refine g_iload_n dX12_comesOn_223 rfl ?_
                      refine g_iconst dX12_comesOn_224 ?_
                      refine g_isub dX12_comesOn_225 ?_
                      refine m_l1 (z := (P 1 (a1 - 2))) dX12_comesOn_226 ⟨by (omega), by (clear hb hmh ht0 k3 k6 k7 k1700 gc1703_o; omega)⟩ ((up_o (by decide)).trans ((congrFun (hE127_1704.2 1 rfl rfl) _).trans ((up_o (by decide)).trans ((congrFun (hFc1703.2 1 rfl rfl) _).trans rfl)))) ?_
                      refine m_s38 dX12_comesOn_227 (by decide) ?_
                      have hB1840 := ba_38 (z := (P 1 (a1 - 2))) (k := 1) hB1839 ⟨by have q0 := bl_1 (k := (a1 - 2)) hB; (clear hb hmh ht0 k3 k6 k7 k1700 gc1703_o; omega), by have q0 := bl_1 (k := (a1 - 2)) hB; (clear hb hmh ht0 k3 k6 k7 k1700 gc1703_o; omega)⟩
                      refine g_aload_n dX12_comesOn_228 rfl ?_
                      refine m_g57 rfl dX12_comesOn_229 ?_
                      refine g_iconst dX12_comesOn_232 ?_
                      refine g_iconst dX12_comesOn_233 ?_
                      refine m_s39 dX12_comesOn_234 (by decide) ?_
                      have hB1841 := ba_39 (z := 0) (k := 1) hB1840 (by decide)
                      refine g_iconst dX12_comesOn_235 ?_
                      exact g_retZ dX12_comesOn_236 rfl (by decide) (hQ 1 (by decide) _ hB1841 (FrM.a (FrM.a (FrM.a (FrM.c (FrM.a (FrM.c FrM.rf hFc1703 rfl) rfl rfl) hE127_1704 rfl) rfl rfl) rfl rfl) rfl rfl) (Or.inl ⟨rfl, ⟨hoh, by (clear hb hmh ht0 k3 k6 k7 gc1703_o; omega), by (clear hb hmh ht0 k3 k6 k7 k1700 gc1703_o; omega), fun p p0 p1 => i127_1_1704 p p0 (by (clear hb hmh ht0 k3 k6 k7 k1700 gc1703_o; omega))⟩, by have q := (((up_o (by decide)).trans ((up_o (by decide)).trans ((up_o (by decide)).trans ((congrFun (hE127_1704.2 35 rfl rfl) _).trans up_same)))) : (up (up (up H127_1704 37 1 (P 1 (a1 - 3))) 38 1 (P 1 (a1 - 2))) 39 1 0) 35 1 = (P 1 0)); (clear hb hmh ht0 k3 k6 k7 k1700 gc1703_o; omega), by have q := (((up_o (by decide)).trans ((up_o (by decide)).trans up_same)) : (up (up (up H127_1704 37 1 (P 1 (a1 - 3))) 38 1 (P 1 (a1 - 2))) 39 1 0) 37 1 = (P 1 (a1 - 3))); (clear hb hmh ht0 k3 k6 k7 k1700 gc1703_o; omega), by have q := (((up_o (by decide)).trans up_same) : (up (up (up H127_1704 37 1 (P 1 (a1 - 3))) 38 1 (P 1 (a1 - 2))) 39 1 0) 38 1 = (P 1 (a1 - 2))); (clear hb hmh ht0 k3 k6 k7 k1700 gc1703_o; omega), up_same, fun q q0 q1 => Eq.trans ((up_o (by decide)).trans ((up_o (by decide)).trans ((up_o (by decide)).trans rfl))) (i127_2_1704 q q0 (by (clear hb hmh ht0 k3 k6 k7 k1700 gc1703_o; omega)))⟩) (by subst hZ; exact hmz.un (fun j hj => ((up_o (by decide)).trans ((up_o (by decide)).trans ((up_o (by decide)).trans ((congrFun (hE127_1704.2 35 rfl rfl) _).trans ((up_k hj).trans rfl)))))) (fun j hj => ((up_o (by decide)).trans ((up_o (by decide)).trans ((up_k hj).trans ((congrFun (hE127_1704.2 37 rfl rfl) _).trans ((up_o (by decide)).trans rfl)))))) (fun j hj => ((up_o (by decide)).trans ((up_k hj).trans ((up_o (by decide)).trans ((congrFun (hE127_1704.2 38 rfl rfl) _).trans ((up_o (by decide)).trans rfl)))))) (fun j hj => ((up_k hj).trans ((up_o (by decide)).trans ((up_o (by decide)).trans ((congrFun (hE127_1704.2 39 rfl rfl) _).trans ((up_o (by decide)).trans rfl)))))) (fun j hj => Eq.trans ((up_o (by decide)).trans ((up_o (by decide)).trans ((up_o (by decide)).trans rfl))) (i127_3_1704 j hj)) ((show FrM ([], [35, 36, 37, 38, 39]) _ _ from (FrM.a (FrM.a (FrM.a (FrM.c (FrM.a FrM.rf rfl rfl) hE127_1704 rfl) rfl rfl) rfl rfl) rfl rfl)).1 59 rfl) ((show FrM ([], [35, 36, 37, 38, 39]) _ _ from (FrM.a (FrM.a (FrM.a (FrM.c (FrM.a FrM.rf rfl rfl) hE127_1704 rfl) rfl rfl) rfl rfl) rfl rfl)).1 60 rfl) ((show FrM ([], [35, 36, 37, 38, 39]) _ _ from (FrM.a (FrM.a (FrM.a (FrM.c (FrM.a FrM.rf rfl rfl) hE127_1704 rfl) rfl rfl) rfl rfl) rfl rfl)).1 61 rfl) ((show FrM ([], [35, 36, 37, 38, 39]) _ _ from (FrM.a (FrM.a (FrM.a (FrM.c (FrM.a FrM.rf rfl rfl) hE127_1704 rfl) rfl rfl) rfl rfl) rfl rfl)).1 92 rfl) (by have q := bl_35 (k := 0) hB; (clear hmh ht0 k3 k6 k7 k1700 gc1703_o; omega)) (b0_59 hbz).1))
                    · have r_gc1703_o := (gc1703_o.resolve_left (by (clear hb hmh ht0 k3 k6 k7 k1700 gc1703_o; omega)))
                      refine g_aload_n dX12_comesOn_138 rfl ?_
                      refine m_g0 rfl dX12_comesOn_139 ?_
                      refine g_iconst dX12_comesOn_142 ?_
                      refine g_iload dX12_comesOn_143 rfl ?_
                      refine g_iadd dX12_comesOn_145 ?_
                      refine m_l1 (z := (P 1 (1 + x127_4_1704))) dX12_comesOn_146 ⟨by (clear hb hmh ht0 k3 k6 k7 k1700 gc1703_o; omega), by (clear hb hmh ht0 k3 k6 k7 k1700 gc1703_o; omega)⟩ ((congrFun (hE127_1704.2 1 rfl rfl) _).trans ((up_o (by decide)).trans ((congrFun (hFc1703.2 1 rfl rfl) _).trans rfl))) ?_
                      have e5 : P 1 (1 + x127_4_1704) = T.1 (1 + x127_4_1704) := p_tx _ (by (clear hb hmh ht0 k3 k6 k7 k1700 gc1703_o; omega)) (by (clear hb hmh ht0 k3 k6 k1700 gc1703_o; omega))
                      refine g_istore (l1 := [(5, vI (P 1 (1 + x127_4_1704))), (0, vR 0), (1, vI a1), (3, vI x127_3_1704), (4, vI x127_4_1704)]) dX12_comesOn_147 (by decide) rfl ?_
                      refine g_iload dX12_comesOn_149 rfl ?_
                      refine g_aload_n dX12_comesOn_151 rfl ?_
                      refine m_g25 rfl dX12_comesOn_152 ?_
                      refine g_aload_n dX12_comesOn_155 rfl ?_
                      refine m_g13 (z := (P 0 13)) rfl dX12_comesOn_156 ((hE127_1704.1 13 rfl).trans ((up_o (by decide)).trans ((hFc1703.1 13 rfl).trans rfl))) ?_
                      refine m_l13 (z := (P 13 (P 0 13))) dX12_comesOn_159 ⟨by have q0 := b0_13 hB; (clear hb hmh ht0 k3 k6 k7 k1700 gc1703_o; omega), by have q0 := b0_13 hB; (clear hb hmh ht0 k3 k6 k7 k1700 gc1703_o; omega)⟩ ((congrFun (hE127_1704.2 13 rfl rfl) _).trans ((up_o (by decide)).trans ((congrFun (hFc1703.2 13 rfl rfl) _).trans rfl))) ?_
                      have f1842 := bl_1 (k := (1 + x127_4_1704)) hB
                      refine g_icmp_ge (tgt := 173) dX12_comesOn_160 (by decide) ⟨by have q0 := bl_1 (k := (1 + x127_4_1704)) hB; (clear hb hmh ht0 k3 k6 k7 k1700 gc1703_o; omega), by have q0 := bl_1 (k := (1 + x127_4_1704)) hB; (clear hb hmh ht0 k3 k6 k7 k1700 gc1703_o; omega)⟩ ⟨by have q0 := bl_13 (k := (P 0 13)) hB; (clear hb hmh ht0 k3 k6 k7 k1700 gc1703_o; omega), by have q0 := bl_13 (k := (P 0 13)) hB; (clear hb hmh ht0 k3 k6 k7 k1700 gc1703_o; omega)⟩ (fun k1843 => ?_) (fun k1843 => ?_)
                      · skip
                        refine g_iconst dX12_comesOn_173 ?_
                        exact g_retZ dX12_comesOn_174 rfl (by decide) (hQ 0 (by decide) _ hB127_1704 (FrM.c (FrM.a (FrM.c FrM.rf hFc1703 rfl) rfl rfl) hE127_1704 rfl) (Or.inr ⟨rfl, fun q => by have q2 := q.2.2.2 x127_4_1704 (by (clear hb hmh ht0 k3 k6 k7 k1700 gc1703_o; omega)) (by (clear hb hmh ht0 k3 k6 k7 k1700 gc1703_o; omega)); unfold oOk at q2; (clear hb hmh ht0 k3 k6 k7 k1700 gc1703_o; omega)⟩) (by subst hZ; exact hmz.un (fun j hj => ((congrFun (hE127_1704.2 35 rfl rfl) _).trans ((up_k hj).trans rfl))) (fun j hj => ((congrFun (hE127_1704.2 37 rfl rfl) _).trans ((up_o (by decide)).trans rfl))) (fun j hj => ((congrFun (hE127_1704.2 38 rfl rfl) _).trans ((up_o (by decide)).trans rfl))) (fun j hj => ((congrFun (hE127_1704.2 39 rfl rfl) _).trans ((up_o (by decide)).trans rfl))) (fun j hj => Eq.trans rfl (i127_3_1704 j hj)) ((show FrM ([], [35, 36]) _ _ from (FrM.c (FrM.a FrM.rf rfl rfl) hE127_1704 rfl)).1 59 rfl) ((show FrM ([], [35, 36]) _ _ from (FrM.c (FrM.a FrM.rf rfl rfl) hE127_1704 rfl)).1 60 rfl) ((show FrM ([], [35, 36]) _ _ from (FrM.c (FrM.a FrM.rf rfl rfl) hE127_1704 rfl)).1 61 rfl) ((show FrM ([], [35, 36]) _ _ from (FrM.c (FrM.a FrM.rf rfl rfl) hE127_1704 rfl)).1 92 rfl) (by have q := bl_35 (k := 0) hB; (clear hmh ht0 k3 k6 k7 k1700 gc1703_o; omega)) (b0_59 hbz).1))
                      · skip
                        refine g_iload_n dX12_comesOn_163 rfl ?_
                        refine g_iload dX12_comesOn_164 rfl ?_
                        refine g_ishr dX12_comesOn_166 ?_
                        refine g_nm (fun b1844 e_b1844 => ?_)
                        have h_b1844 := ishr_ir x127_3_1704 (P 1 (1 + x127_4_1704))
                        rw [← e_b1844] at h_b1844
                        have f_b1844_0 := bl_1 (k := (1 + x127_4_1704)) hB
                        refine g_iconst dX12_comesOn_167 ?_
                        refine g_iand dX12_comesOn_168 ?_
                        refine g_nm (fun b1845 e_b1845 => ?_)
                        have h_b1845 := iand_r (x := b1844) (y := 1) ⟨by (clear hb hmh ht0 k3 k6 k7 k1700 gc1703_o; omega), by (clear hb hmh ht0 k3 k6 k7 k1700 gc1703_o; omega)⟩
                        rw [← e_b1845] at h_b1845
                        have hi9 : b1845 = iand (ishr (hdF T (x127_4_1704).toNat) (T.1 (1 + x127_4_1704))) 1 := by rw [e_b1845, e_b1844, ← i127_0_1704, ← e5]
                        refine g_iconst dX12_comesOn_169 ?_
                        refine g_icmp_ne (tgt := 175) dX12_comesOn_170 (by decide) ⟨by (clear hb hmh ht0 k3 k6 k7 k1700 gc1703_o; omega), by (clear hb hmh ht0 k3 k6 k7 k1700 gc1703_o; omega)⟩ (by decide) (fun k1846 => ?_) (fun k1846 => ?_)
                        · have k1846n : b1845 ≤ 0 := by (clear hb hmh ht0 k3 k6 k7 k1700 gc1703_o; omega)
                          clear k1846
                          skip
                          refine g_iload_n dX12_comesOn_175 rfl ?_
                          refine g_iconst dX12_comesOn_176 ?_
                          refine g_iload dX12_comesOn_177 rfl ?_
                          refine g_ishl dX12_comesOn_179 ?_
                          refine g_nm (fun b1847 e_b1847 => ?_)
                          have h_b1847 : 1 ≤ (ishl 1 (P 1 (1 + x127_4_1704))) ∧ (ishl 1 (P 1 (1 + x127_4_1704))) ≤ 2048 := (ishl1 11 (by decide) (y := (P 1 (1 + x127_4_1704))) ⟨by have q0 := bl_1 (k := (1 + x127_4_1704)) hB; (clear hb hmh ht0 k3 k6 k7 k1700 gc1703_o; omega), by have q0 := bl_1 (k := (1 + x127_4_1704)) hB; (clear hb hmh ht0 k3 k6 k7 k1700 gc1703_o; omega)⟩).2
                          rw [← e_b1847] at h_b1847
                          refine g_ior dX12_comesOn_180 ?_
                          refine g_nm (fun b1848 e_b1848 => ?_)
                          have h_b1848 : 0 ≤ (ior x127_3_1704 b1847) ∧ (ior x127_3_1704 b1847) < 4096 := ior_b 12 (by decide) (x := x127_3_1704) (y := b1847) (show 0 ≤ x127_3_1704 ∧ x127_3_1704 < 4096 from ⟨by (clear hb hmh ht0 k3 k6 k7 k1700 gc1703_o; omega), by (clear hb hmh ht0 k3 k6 k7 k1700 gc1703_o; omega)⟩) (show 0 ≤ b1847 ∧ b1847 < 4096 from ⟨by (clear hb hmh ht0 k3 k6 k7 k1700 gc1703_o; omega), by (clear hb hmh ht0 k3 k6 k7 k1700 gc1703_o; omega)⟩)
                          rw [← e_b1848] at h_b1848
                          have hhd9 : b1848 = hdF T (x127_4_1704 + 1).toNat := by
                            rw [show (x127_4_1704 + 1).toNat = (x127_4_1704).toNat + 1 by (clear hb hmh ht0 k3 k6 k7 k1700 gc1703_o; omega)]
                            show _ = ior (hdF T (x127_4_1704).toNat) (ishl 1 (T.1 (1 + (((x127_4_1704).toNat : Nat) : Int))))
                            rw [show (((x127_4_1704).toNat : Nat) : Int) = x127_4_1704 by (clear hb hmh ht0 k3 k6 k7 k1700 gc1703_o; omega), ← i127_0_1704, ← e5, e_b1848, e_b1847]
                          have hol9 : OLI T M (x127_4_1704 + 1) := (i127_1_1704).go (show oOk T M x127_4_1704 from And.intro (by (clear hb hmh ht0 k3 k6 k7 k1700 gc1703_o; omega)) (by (clear hb hmh ht0 k3 k6 k7 k1700 gc1703_o; omega)))
                          refine g_istore_n (l1 := [(3, vI b1848), (5, vI (P 1 (1 + x127_4_1704))), (0, vR 0), (1, vI a1), (4, vI x127_4_1704)]) dX12_comesOn_181 (by decide) rfl ?_
                          refine g_aload_n dX12_comesOn_182 rfl ?_
                          refine m_g54 rfl dX12_comesOn_183 ?_
                          refine g_bipush dX12_comesOn_186 (by decide) ?_
                          refine g_iload dX12_comesOn_188 rfl ?_
                          refine g_iadd dX12_comesOn_190 ?_
                          refine g_iload dX12_comesOn_191 rfl ?_
                          refine m_s36 dX12_comesOn_193 ⟨by (clear hb hmh ht0 k3 k6 k7 k1700 gc1703_o; omega), by (clear hb hmh ht0 k3 k6 k7 k1700 gc1703_o; omega)⟩ ?_
                          have hB1849 := ba_36 (z := (P 1 (1 + x127_4_1704))) (k := (12 + x127_4_1704)) hB127_1704 ⟨by have q0 := bl_1 (k := (1 + x127_4_1704)) hB; (clear hb hmh ht0 k3 k6 k7 k1700 gc1703_o; omega), by have q0 := bl_1 (k := (1 + x127_4_1704)) hB; (clear hb hmh ht0 k3 k6 k7 k1700 gc1703_o; omega)⟩
                          have hA9 : ∀ q : Int, 0 ≤ q → q < x127_4_1704 + 1 → (up H127_1704 36 (12 + x127_4_1704) (P 1 (1 + x127_4_1704))) 36 (12 + q) = T.1 (1 + q) := by
                            intro q q0 q1
                            by_cases e : q = x127_4_1704
                            · rw [e]; exact Eq.trans up_same e5
                            · have hj : (12 + q) ≠ (12 + x127_4_1704) := by (clear hb hmh ht0 k3 k6 k7 k1700 gc1703_o; omega)
                              exact Eq.trans ((up_k hj).trans rfl) (i127_2_1704 q q0 (by (clear hb hmh ht0 k3 k6 k7 k1700 gc1703_o hj; omega)))
                          have hD9 : ∀ j : Int, j < 12 ∨ 24 ≤ j → (up H127_1704 36 (12 + x127_4_1704) (P 1 (1 + x127_4_1704))) 36 j = Z 36 j := by
                            intro j h0
                            have hj : j ≠ (12 + x127_4_1704) := by (clear hb hmh ht0 k3 k6 k1700 gc1703_o; omega)
                            exact Eq.trans ((up_k hj).trans rfl) (i127_3_1704 j h0)
                          refine g_iinc (l1 := [(4, vI (x127_4_1704 + 1)), (3, vI b1848), (5, vI (P 1 (1 + x127_4_1704))), (0, vR 0), (1, vI a1)]) dX12_comesOn_194 rfl (by decide) rfl ?_
                          refine g_goto (tgt := 127) dX12_comesOn_197 (by decide) ?_
                          refine g_forget (l1 := [(0, vR 0), (1, vI a1), (3, vI b1848), (4, vI (x127_4_1704 + 1))]) (by intro q hq; simp only [List.mem_cons, List.not_mem_nil, or_false] at hq ⊢; rcases hq with rfl | rfl | rfl | rfl <;> simp) ?_
                          exact ih127_1704 (x127_4_1704 + 1) ⟨by (clear hb hmh ht0 k3 k6 k7 k1700 gc1703_o; omega), by (omega)⟩ b1848 ⟨by (clear hb hmh ht0 k3 k6 k7 k1700 gc1703_o; omega), by (clear hb hmh ht0 k3 k6 k7 k1700 gc1703_o; omega)⟩ _ hB1849 (FrM.a (FrM.c FrM.rf hE127_1704 rfl) rfl rfl) (by first | exact hhd9 | rfl) (by first | exact hol9 | exact OLI.z) (by first | exact hA9 | (intro q q0 q1; exfalso; (first | (clear hb hmh ht0 k3 k6 k7 k1700 gc1703_o; omega) | (clear hb hmh ht0 k3 k6 k7 k1700; omega) | (clear hb hmh ht0 k3 k6 k7 gc1703_o; omega) | (clear hb hmh ht0 k3 k6 k1700 gc1703_o; omega) | (clear hb hmh ht0 k3 k7 k1700 gc1703_o; omega) | (clear hb hmh ht0 k6 k7 k1700 gc1703_o; omega) | (clear hb hmh k3 k6 k7 k1700 gc1703_o; omega) | (clear hb ht0 k3 k6 k7 k1700 gc1703_o; omega) | (clear hmh ht0 k3 k6 k7 k1700 gc1703_o; omega) | (clear hb hmh ht0 k3 k6 k7; omega) | (clear k3 ht0 hmh hb; omega) | omega))) (by first | exact hD9 | (intro j h0; rw [hZ]; exact up_o (by decide))) (by (clear hb hmh ht0 k3 k6 k7 k1700 gc1703_o; omega))
                        · skip
                          refine g_iconst dX12_comesOn_173 ?_
                          exact g_retZ dX12_comesOn_174 rfl (by decide) (hQ 0 (by decide) _ hB127_1704 (FrM.c (FrM.a (FrM.c FrM.rf hFc1703 rfl) rfl rfl) hE127_1704 rfl) (Or.inr ⟨rfl, fun q => by have q2 := q.2.2.2 x127_4_1704 (by (clear hb hmh ht0 k3 k6 k7 k1700 gc1703_o; omega)) (by (clear hb hmh ht0 k3 k6 k7 k1700 gc1703_o; omega)); unfold oOk at q2; (clear hb hmh ht0 k3 k6 k7 k1700 gc1703_o; omega)⟩) (by subst hZ; exact hmz.un (fun j hj => ((congrFun (hE127_1704.2 35 rfl rfl) _).trans ((up_k hj).trans rfl))) (fun j hj => ((congrFun (hE127_1704.2 37 rfl rfl) _).trans ((up_o (by decide)).trans rfl))) (fun j hj => ((congrFun (hE127_1704.2 38 rfl rfl) _).trans ((up_o (by decide)).trans rfl))) (fun j hj => ((congrFun (hE127_1704.2 39 rfl rfl) _).trans ((up_o (by decide)).trans rfl))) (fun j hj => Eq.trans rfl (i127_3_1704 j hj)) ((show FrM ([], [35, 36]) _ _ from (FrM.c (FrM.a FrM.rf rfl rfl) hE127_1704 rfl)).1 59 rfl) ((show FrM ([], [35, 36]) _ _ from (FrM.c (FrM.a FrM.rf rfl rfl) hE127_1704 rfl)).1 60 rfl) ((show FrM ([], [35, 36]) _ _ from (FrM.c (FrM.a FrM.rf rfl rfl) hE127_1704 rfl)).1 61 rfl) ((show FrM ([], [35, 36]) _ _ from (FrM.c (FrM.a FrM.rf rfl rfl) hE127_1704 rfl)).1 92 rfl) (by have q := bl_35 (k := 0) hB; (clear hmh ht0 k3 k6 k7 k1700 gc1703_o; omega)) (b0_59 hbz).1))
                  refine g_forget (l1 := [(0, vR 0), (1, vI a1), (3, vI 0), (4, vI 0)]) (by intro q hq; simp only [List.mem_cons, List.not_mem_nil, or_false] at hq ⊢; rcases hq with rfl | rfl | rfl | rfl <;> simp) ?_
                  exact L127_1704 _ 0 (by decide) 0 (by decide) _ hB1704 FrM.rf (by first | exact hhd9 | rfl) (by first | exact hol9 | exact OLI.z) (by first | exact hA9 | (intro q q0 q1; exfalso; (clear hb hmh ht0 k3 k6 k7 k1700 gc1703_o; omega))) (by first | exact hD9 | (intro j h0; rw [hZ]; exact up_o (by decide))) (Nat.lt_succ_self _)
                · refine g_iconst dX12_comesOn_102 ?_
                  exact g_retZ dX12_comesOn_103 rfl (by decide) (hQ 0 (by decide) _ hB FrM.rf (Or.inr ⟨rfl, fun q => by have q1 := q.2.1; have q2 := q.2.2.1; (clear hb hmh ht0 k3 k6 k7 k1700; omega)⟩) (z0))
            · refine g_iconst dX12_comesOn_57 ?_
              refine g_iload_n dX12_comesOn_58 rfl ?_
              refine g_imul dX12_comesOn_59 ?_
              refine g_aload_n dX12_comesOn_60 rfl ?_
              refine m_g0 rfl dX12_comesOn_61 ?_
              refine g_iload_n dX12_comesOn_64 rfl ?_
              refine m_l1 (z := (P 1 x50_3_7)) dX12_comesOn_65 ⟨by (clear hb hmh ht0 k3 k6 k7; omega), by (clear hb hmh ht0 k3 k6 k7; omega)⟩ rfl ?_
              refine g_iadd dX12_comesOn_66 ?_
              refine g_sipush dX12_comesOn_67 (by decide) ?_
              refine g_irem dX12_comesOn_70 ⟨(by decide), by decide⟩ ?_
              refine g_nm (fun b1850 e_b1850 => ?_)
              have h_b1850 := irem_b (x := ((5 * x50_2_7) + (P 1 x50_3_7))) (y := 251) ⟨by have q0 := bl_1 (k := x50_3_7) hB; (clear hb hmh ht0 k3 k6 k7; omega), by have q0 := bl_1 (k := x50_3_7) hB; (clear hb hmh ht0 k3 k6 k7; omega)⟩ ⟨by (clear hb hmh ht0 k3 k6 k7; omega), by (clear hb hmh ht0 k3 k6 k7; omega)⟩
              rw [← e_b1850] at h_b1850
              have f_b1850_0 := bl_1 (k := x50_3_7) hB
              have hz : b1850 = (5 * x50_2_7 + P 1 x50_3_7) % 251 := by rw [e_b1850, irem_p ⟨by have q := bl_1 (k := x50_3_7) hB; (clear hb hmh ht0 k3 k6 k7; omega), by have q := bl_1 (k := x50_3_7) hB; (clear hb hmh ht0 k3 k6 k7; omega)⟩ ⟨by decide, by decide⟩]
              have hck9 : b1850 = ckF T (x50_3_7 + 1).toNat := by
                rw [show (x50_3_7 + 1).toNat = (x50_3_7).toNat + 1 by (clear hb hmh ht0 k3 k6 k7; omega), hz, p_tx x50_3_7 (by (clear hb hmh ht0 k3 k6 k7; omega)) (by (clear hb hmh ht0 k3 k6 k7; omega))]
                show _ = (5 * ckF T (x50_3_7).toNat + T.1 (((x50_3_7).toNat : Nat) : Int)) % 251
                rw [← i50_0_7, show (((x50_3_7).toNat : Nat) : Int) = x50_3_7 by (clear hb hmh ht0 k3 k6 k7; omega)]
              refine g_istore_n (l1 := [(2, vI b1850), (0, vR 0), (1, vI a1), (3, vI x50_3_7)]) dX12_comesOn_71 (by decide) rfl ?_
              refine g_iinc (l1 := [(3, vI (x50_3_7 + 1)), (2, vI b1850), (0, vR 0), (1, vI a1)]) dX12_comesOn_72 rfl (by decide) rfl ?_
              refine g_goto (tgt := 50) dX12_comesOn_75 (by decide) ?_
              refine g_forget (l1 := [(0, vR 0), (1, vI a1), (2, vI b1850), (3, vI (x50_3_7 + 1))]) (by intro q hq; simp only [List.mem_cons, List.not_mem_nil, or_false] at hq ⊢; rcases hq with rfl | rfl | rfl | rfl <;> simp) ?_
              exact ih50_7 (x50_3_7 + 1) ⟨by (clear hb hmh ht0 k3 k6 k7; omega), by (omega)⟩ b1850 ⟨by (clear hb hmh ht0 k3 k6 k7; omega), by (clear hb hmh ht0 k3 k6 k7; omega)⟩ (by first | exact hck9 | rfl) (by (clear hb hmh ht0 k3 k6 k7; omega)) (by (clear hb hmh ht0 k3 k6 k7; omega))
          refine g_forget (l1 := [(0, vR 0), (1, vI a1), (2, vI 199), (3, vI 0)]) (by intro q hq; simp only [List.mem_cons, List.not_mem_nil, or_false] at hq ⊢; rcases hq with rfl | rfl | rfl | rfl <;> simp) ?_
          exact L50_7 _ 0 (by decide) 199 (by decide) (by first | exact hck9 | rfl) (by (clear hb hmh ht0 k3 k6; omega)) (Nat.lt_succ_self _)
        · refine g_iconst dX12_comesOn_42 ?_
          exact g_retZ dX12_comesOn_43 rfl (by decide) (hQ 0 (by decide) _ hB FrM.rf (Or.inr ⟨rfl, fun q => by have q1 := q.1; unfold oHd at q1; (clear hmh hb; omega)⟩) (z0))
/-! What the reference answers: X12_draw. -/
set_option maxRecDepth 100000 in
set_option maxHeartbeats 4000000 in
theorem f_X12_draw (G : GT) (P : PH) (A : PH) (a1 : Int) (h_a1 : 1 ≤ a1 ∧ a1 ≤ 2147483647) (hB : BdM P) (z0 : AM A P) (Q : Option PV → PH → Prop) (hQ : ∀ (r : Int) (_ : 0 ≤ r ∧ r ≤ 2147483646) (P1 : PH) (_ : BdM P1) (_ : FrM ([61], []) P P1) (_ : r < a1) (_ : r = drw (A 0 5) / 64 % a1) (_ : AM (up A 0 5 (drw (A 0 5))) P1), Q (some (vI r)) P1) : Ct WSM G 1 iX12_draw [vR 0, vI a1] P Q := by
  refine Ct.of (by decide) (l0 := [(0, vR 0), (1, vI a1)]) rfl (Nat.le_of_ble_eq_true rfl) ?_
  have hb := z0.b
  have q61 := b0_61 hB
  refine g_aload_n dX12_draw_0 rfl ?_
  refine g_ldc2 (z := 1103515245) dX12_draw_1 t_2148 (by decide) ?_
  refine g_aload_n dX12_draw_4 rfl ?_
  refine m_g61 (z := (P 0 61)) rfl dX12_draw_5 rfl ?_
  refine g_lmul dX12_draw_8 ?_
  refine g_ldc2 (z := 12345) dX12_draw_9 t_2149 (by decide) ?_
  refine g_ladd dX12_draw_12 ?_
  refine g_ldc2 (z := 2147483648) dX12_draw_13 t_2150 (by decide) ?_
  refine g_lrem dX12_draw_16 ⟨(by decide), by decide⟩ ?_
  refine g_nm (fun b1 e_b1 => ?_)
  have h_b1 := llrem_b (x := ((1103515245 * (P 0 61)) + 12345)) (y := 2147483648) ⟨by have q0 := b0_61 hB; (clear hb; omega), by have q0 := b0_61 hB; (clear hb; omega)⟩ ⟨by (clear hb; omega), by (clear hb; omega)⟩
  rw [← e_b1] at h_b1
  have hd9 : b1 = drw (A 0 5) := by rw [e_b1, llrem_p ⟨by (clear hb; omega), by (clear hb; omega)⟩ ⟨by decide, by decide⟩]; unfold drw; rw [← hb.2.2.2.2.2.1]
  refine m_p61 rfl dX12_draw_17 ?_
  have hB2 := bs_61 (z := b1) hB ⟨by (clear hb; omega), by (clear hb; omega)⟩
  refine g_aload_n dX12_draw_20 rfl ?_
  refine m_g61 (z := b1) rfl dX12_draw_21 up_same ?_
  refine g_ldc2 (z := 64) dX12_draw_24 t_2151 (by decide) ?_
  refine g_ldiv dX12_draw_27 ⟨(by decide), by decide⟩ ?_
  refine g_nm (fun b3 e_b3 => ?_)
  have h_b3 := lldiv_p (x := b1) (y := 64) ⟨by (clear hb; omega), by (clear hb; omega)⟩ ⟨by (clear hb; omega), by (clear hb; omega)⟩
  rw [← e_b3] at h_b3
  have hq9 : b3 = drw (A 0 5) / 64 := by rw [e_b3, lldiv_p ⟨by (clear hb; omega), by (clear hb; omega)⟩ ⟨by decide, by decide⟩, hd9]
  refine g_iload_n dX12_draw_28 rfl ?_
  refine g_i2l dX12_draw_29 ⟨by (clear hb; omega), by (clear hb; omega)⟩ ?_
  refine g_lrem dX12_draw_30 ⟨⟨by (clear hb; omega), by (clear hb; omega)⟩, by (clear hb; omega)⟩ ?_
  refine g_nm (fun b4 e_b4 => ?_)
  have h_b4 := llrem_b (x := b3) (y := a1) ⟨by (clear hb; omega), by (clear hb; omega)⟩ ⟨by (clear hb; omega), by (clear hb; omega)⟩
  rw [← e_b4] at h_b4
  have hr9 : b4 = drw (A 0 5) / 64 % a1 := by rw [e_b4, llrem_p ⟨by (clear hb; omega), by (clear hb; omega)⟩ ⟨by (clear hb; omega), by (clear hb; omega)⟩, hq9]
  refine g_l2i dX12_draw_31 ?_
  exact g_retI dX12_draw_32 rfl (hQ b4 ⟨by (clear hb; omega), by (clear hb; omega)⟩ _ hB2 (FrM.s FrM.rf rfl) (by (clear hb; omega)) (by (clear hb; omega)) (by rw [← hd9]; exact z0.sd up_same (FrM.s FrM.rf rfl)))
/-! What the reference answers: X12_exchanges. -/
set_option maxRecDepth 100000 in
set_option maxHeartbeats 4000000 in
theorem f_X12_exchanges (G : GT) (P : PH) (a1 : Int) (a2 : Int) (a3 : Int) (h_a1 : 0 ≤ a1 ∧ a1 ≤ 21) (h_a2 : 0 ≤ a2 ∧ a2 ≤ 11) (h_a3 : 0 ≤ a3 ∧ a3 ≤ 11) (hB : BdM P) (Q : Option PV → PH → Prop) (hQ : ∀ (P1 : PH) (_ : BdM P1) (_ : FrM ([], [36]) P P1) (_ : P1 36 ((12 * a1) + a2) = P 36 ((12 * a1) + a3)) (_ : P1 36 ((12 * a1) + a3) = P 36 ((12 * a1) + a2)) (_ : ∀ j : Int, j ≠ (12 * a1) + a2 → j ≠ (12 * a1) + a3 → P1 36 j = P 36 j), Q none P1) : Ct WSM G 1 iX12_exchanges [vR 0, vI a1, vI a2, vI a3] P Q := by
  refine Ct.of (by decide) (l0 := [(0, vR 0), (1, vI a1), (2, vI a2), (3, vI a3)]) rfl (Nat.le_of_ble_eq_true rfl) ?_
  refine g_aload_n dX12_exchanges_0 rfl ?_
  refine m_g54 rfl dX12_exchanges_1 ?_
  refine g_bipush dX12_exchanges_4 (by decide) ?_
  refine g_iload_n dX12_exchanges_6 rfl ?_
  refine g_imul dX12_exchanges_7 ?_
  refine g_iload_n dX12_exchanges_8 rfl ?_
  refine g_iadd dX12_exchanges_9 ?_
  refine m_l36 (z := (P 36 ((12 * a1) + a2))) dX12_exchanges_10 ⟨by omega, by omega⟩ rfl ?_
  refine g_istore (l1 := [(4, vI (P 36 ((12 * a1) + a2))), (0, vR 0), (1, vI a1), (2, vI a2), (3, vI a3)]) dX12_exchanges_11 (by decide) rfl ?_
  refine g_aload_n dX12_exchanges_13 rfl ?_
  refine m_g54 rfl dX12_exchanges_14 ?_
  refine g_bipush dX12_exchanges_17 (by decide) ?_
  refine g_iload_n dX12_exchanges_19 rfl ?_
  refine g_imul dX12_exchanges_20 ?_
  refine g_iload_n dX12_exchanges_21 rfl ?_
  refine g_iadd dX12_exchanges_22 ?_
  refine g_aload_n dX12_exchanges_23 rfl ?_
  refine m_g54 rfl dX12_exchanges_24 ?_
  refine g_bipush dX12_exchanges_27 (by decide) ?_
  refine g_iload_n dX12_exchanges_29 rfl ?_
  refine g_imul dX12_exchanges_30 ?_
  refine g_iload_n dX12_exchanges_31 rfl ?_
  refine g_iadd dX12_exchanges_32 ?_
  refine m_l36 (z := (P 36 ((12 * a1) + a3))) dX12_exchanges_33 ⟨by omega, by omega⟩ rfl ?_
  refine m_s36 dX12_exchanges_34 ⟨by omega, by omega⟩ ?_
  have hB1 := ba_36 (z := (P 36 ((12 * a1) + a3))) (k := ((12 * a1) + a2)) hB ⟨by have q0 := bl_36 (k := ((12 * a1) + a3)) hB; omega, by have q0 := bl_36 (k := ((12 * a1) + a3)) hB; omega⟩
  refine g_aload_n dX12_exchanges_35 rfl ?_
  refine m_g54 rfl dX12_exchanges_36 ?_
  refine g_bipush dX12_exchanges_39 (by decide) ?_
  refine g_iload_n dX12_exchanges_41 rfl ?_
  refine g_imul dX12_exchanges_42 ?_
  refine g_iload_n dX12_exchanges_43 rfl ?_
  refine g_iadd dX12_exchanges_44 ?_
  refine g_iload dX12_exchanges_45 rfl ?_
  refine m_s36 dX12_exchanges_47 ⟨by omega, by omega⟩ ?_
  have hB2 := ba_36 (z := (P 36 ((12 * a1) + a2))) (k := ((12 * a1) + a3)) hB1 ⟨by have q0 := bl_36 (k := ((12 * a1) + a2)) hB; omega, by have q0 := bl_36 (k := ((12 * a1) + a2)) hB; omega⟩
  exact g_retV dX12_exchanges_48 rfl (hQ _ hB2 (FrM.a (FrM.a FrM.rf rfl rfl) rfl rfl) ((Decidable.em (a2 = a3)).elim (fun e => by subst e; exact up_same) (fun e => (up_k (by omega)).trans up_same)) (up_same) (fun j hj1 hj2 => (up_k hj2).trans (up_k hj1)))
/-! What the reference answers: X12_best. -/
set_option maxRecDepth 100000 in
set_option maxHeartbeats 4000000 in
theorem f_X12_best (G : GT) (P : PH) (A : PH) (a1 : Int) (h_a1 : (-2147483648) ≤ a1 ∧ a1 ≤ 2147483647) (hB : BdM P) (p_st : P 0 74 ≤ 199999900) (v_okC : okC P) (v_MVw : MVw P) (v_RE : RE P) (z0 : AM A P) (Q : Option PV → PH → Prop) (hQ : ∀ (r : Int) (_ : (-2147483648) ≤ r ∧ r ≤ 2147483647) (P1 : PH) (_ : BdM P1) (_ : FrM ([62, 66, 74, 76, 78], [35, 36, 37, 38, 39, 40, 41, 42, 43, 44, 45, 49, 50, 58]) P P1) (_ : P1 0 74 ≤ P 0 74 + 14) (_ : MVw P1) (_ : RE P1) (_ : AM A P1), Q (some (vI r)) P1) : Ct WSM G 6 iX12_best [vR 0, vI a1] P Q := by
  refine Ct.of (by decide) (l0 := [(0, vR 0), (1, vI a1)]) rfl (Nat.le_of_ble_eq_true rfl) ?_
  refine g_aload_n dX12_best_0 rfl ?_
  refine m_g44 (z := (P 0 44)) rfl dX12_best_1 rfl ?_
  have f1 := b0_44 hB
  refine g_if_eq (tgt := 16) dX12_best_4 (by decide) ⟨by have q0 := b0_44 hB; omega, by have q0 := b0_44 hB; omega⟩ (fun k2 => ?_) (fun k2 => ?_)
  · refine g_iconst dX12_best_16 ?_
    exact g_retI dX12_best_17 rfl (hQ (-1) (by decide) _ hB FrM.rf (by have q0 := b0_74 hB; (clear k2; omega)) v_MVw v_RE (z0))
  · have k2n : 1 ≤ (P 0 44) := by have q0 := b0_44 hB; (omega)
    clear k2
    refine g_iload_n dX12_best_7 rfl ?_
    refine g_iconst dX12_best_8 ?_
    refine g_iconst dX12_best_9 ?_
    refine g_sI (av := [vI a1, vI 0, vI 1]) (st := []) (m_X12_is G P a1 0 1 ⟨by omega, by omega⟩ (by decide) (by decide) hB  _ (fun rc3 hc3 gc3_is => ⟨rc3, rfl, ?_⟩)) cf_X12_is t_1800 rfl (Nat.le_of_ble_eq_true rfl) (by decide) rfl dX12_best_10
    refine g_if_ne (tgt := 18) dX12_best_13 (by decide) ⟨by (clear gc3_is; omega), by (clear gc3_is; omega)⟩ (fun k4 => ?_) (fun k4 => ?_)
    · have k4n : 1 ≤ rc3 := by (clear gc3_is; omega)
      clear k4
      have r_gc3_is := (gc3_is.resolve_right (by (clear gc3_is; omega)))
      refine g_aload_n dX12_best_18 rfl ?_
      refine g_iconst dX12_best_19 ?_
      refine g_vV (av := [vI 0]) (o := 0) (st := []) (m_X12_arranges G P 0 (by decide) hB (by have q0 := b0_74 hB; (clear gc3_is; omega)) v_MVw v_RE _ (fun Pc5 hBc5 hFc5 gc5_st vc5_MV vc5_RE vc5_RLt => ⟨rfl, ?_⟩)) cf_X12_arranges t_1887 rfl (by decide) rfl rfl rfl (Nat.le_of_ble_eq_true rfl) (by decide) rfl dX12_best_20
      refine g_aload_n dX12_best_23 rfl ?_
      refine g_vV (av := []) (o := 0) (st := []) (m_X12_countsRows G Pc5  hBc5 (okC.fr (F := ([62, 66, 74], [41, 42, 43])) v_okC (FrM.c FrM.rf hFc5 rfl) rfl) _ (fun Pc6 hBc6 hFc6 => ⟨rfl, ?_⟩)) cf_X12_countsRows t_1895 rfl (by decide) rfl rfl rfl (Nat.le_of_ble_eq_true rfl) (by decide) rfl dX12_best_24
      refine g_iconst dX12_best_27 ?_
      refine g_istore_n (l1 := [(2, vI 0), (0, vR 0), (1, vI a1)]) dX12_best_28 (by decide) rfl ?_
      have L29_6 : ∀ (n29_6 : Nat) (x29_2_6 : Int) (h_x29_2_6 : 0 ≤ x29_2_6 ∧ x29_2_6 ≤ 11) (H29_6 : PH) (hB29_6 : BdM H29_6) (hE29_6 : FrM ([], [58]) Pc6 H29_6) (hm29_6 : ((12 - x29_2_6) : Int).toNat < n29_6), Go WSM G 6 iX12_best 29 [(0, vR 0), (1, vI a1), (2, vI x29_2_6)] [] H29_6 Q := by
        intro n29_6
        induction n29_6 with
        | zero => intro x29_2_6 h_x29_2_6 H29_6 hB29_6 hE29_6 hm29_6; exact absurd hm29_6 (Nat.not_lt_zero _)
        | succ n29_6 ih29_6 =>
        intro x29_2_6 h_x29_2_6 H29_6 hB29_6 hE29_6 hm29_6
        refine g_iload_n dX12_best_29 rfl ?_
        refine g_iconst dX12_best_30 ?_
        refine g_iadd dX12_best_31 ?_
        refine g_aload_n dX12_best_32 rfl ?_
        refine m_g53 rfl dX12_best_33 ?_
        refine g_iconst dX12_best_36 ?_
        refine m_l35 (z := (P 35 0)) dX12_best_37 (by decide) ((congrFun (hE29_6.2 35 rfl rfl) _).trans ((congrFun (hFc6.2 35 rfl rfl) _).trans ((congrFun (hFc5.2 35 rfl rfl) _).trans rfl))) ?_
        have f1207 := bl_35 (k := 0) hB
        refine g_icmp_ge (tgt := 69) dX12_best_38 (by decide) ⟨by (clear gc3_is; omega), by (clear gc3_is; omega)⟩ ⟨by have q0 := bl_35 (k := 0) hB; (clear gc3_is; omega), by have q0 := bl_35 (k := 0) hB; (clear gc3_is; omega)⟩ (fun k1208 => ?_) (fun k1208 => ?_)
        · skip
          refine g_aload_n dX12_best_69 rfl ?_
          refine g_iconst dX12_best_70 ?_
          refine g_aload_n dX12_best_71 rfl ?_
          refine m_g56 rfl dX12_best_72 ?_
          refine g_iconst dX12_best_75 ?_
          refine m_l38 (z := (P 38 0)) dX12_best_76 (by decide) ((congrFun (hE29_6.2 38 rfl rfl) _).trans ((congrFun (hFc6.2 38 rfl rfl) _).trans ((congrFun (hFc5.2 38 rfl rfl) _).trans rfl))) ?_
          have f1209 := bl_38 (k := 0) hB
          refine g_vV (av := [vI 0, vI (P 38 0)]) (o := 0) (st := []) (m_X12_plants G H29_6 0 (P 38 0) (by decide) ⟨by have q0 := bl_38 (k := 0) hB; (clear gc3_is; omega), by have q0 := bl_38 (k := 0) hB; (clear gc3_is; omega)⟩ hB29_6 (by have q0 := bl_38 (k := 0) hB; have q1 := (((hE29_6.1 74 rfl).trans ((hFc6.1 74 rfl).trans rfl)) : H29_6 0 74 = (Pc5 0 74)); have q2 := b0_74 hBc5; (clear gc3_is; omega)) ((MV.fr (F := ([], [44, 45, 58])) vc5_MV (FrM.c (FrM.c FrM.rf hFc6 rfl) hE29_6 rfl) rfl).w) (RE.fr (F := ([], [44, 45, 58])) vc5_RE (FrM.c (FrM.c FrM.rf hFc6 rfl) hE29_6 rfl) rfl) _ (fun Pc1210 hBc1210 hFc1210 gc1210_st vc1210_MV vc1210_RE vc1210_RLt => ⟨rfl, ?_⟩)) cf_X12_plants t_1998 rfl (by decide) rfl rfl rfl (Nat.le_of_ble_eq_true rfl) (by decide) rfl dX12_best_77
          have z1211 : H29_6 0 74 = (Pc5 0 74) := ((hE29_6.1 74 rfl).trans ((hFc6.1 74 rfl).trans rfl))
          refine g_aload_n dX12_best_80 rfl ?_
          refine g_iconst dX12_best_81 ?_
          refine g_vI (av := [vI 0]) (o := 0) (st := []) (m_X12_allTests G Pc1210 0 (by decide) hBc1210 (okC.fr (F := ([62, 66, 74, 76], [41, 42, 43, 44, 45, 58])) v_okC (FrM.c (FrM.c (FrM.c (FrM.c FrM.rf hFc5 rfl) hFc6 rfl) hE29_6 rfl) hFc1210 rfl) rfl) vc1210_MV _ (fun rc1212 hc1212 Pc1212 hBc1212 hFc1212 vc1212_MV => ⟨rc1212, rfl, ?_⟩)) cf_X12_allTests t_2002 rfl (by decide) rfl rfl rfl (Nat.le_of_ble_eq_true rfl) (by decide) rfl dX12_best_82
          refine g_istore_n (l1 := [(2, vI rc1212), (0, vR 0), (1, vI a1)]) dX12_best_85 (by decide) rfl ?_
          refine g_iconst dX12_best_86 ?_
          refine g_istore_n (l1 := [(3, vI (-1)), (2, vI rc1212), (0, vR 0), (1, vI a1)]) dX12_best_87 (by decide) rfl ?_
          refine g_iconst dX12_best_88 ?_
          refine g_istore (l1 := [(4, vI 0), (3, vI (-1)), (2, vI rc1212), (0, vR 0), (1, vI a1)]) dX12_best_89 (by decide) rfl ?_
          have L91_1212 : ∀ (n91_1212 : Nat) (x91_4_1212 : Int) (h_x91_4_1212 : 0 ≤ x91_4_1212 ∧ x91_4_1212 ≤ 11) (x91_3_1212 : Int) (h_x91_3_1212 : (-1) ≤ x91_3_1212 ∧ x91_3_1212 ≤ 11) (x91_2_1212 : Int) (h_x91_2_1212 : (-2147483648) ≤ x91_2_1212 ∧ x91_2_1212 ≤ 2147483647) (H91_1212 : PH) (hB91_1212 : BdM H91_1212) (hE91_1212 : FrM ([62, 66, 74, 76, 78], [35, 36, 37, 38, 39, 40, 41, 42, 43, 44, 49, 50]) Pc1212 H91_1212) (i91_0_1212 : H91_1212 0 74 ≤ P 0 74 + 2 + x91_4_1212) (i91_1_1212 : AM A H91_1212) (w91_MV_1212 : MV H91_1212) (w91_RE_1212 : RE H91_1212) (w91_MVw_1212 : MVw H91_1212) (w91_RLt_1212 : RLt H91_1212) (w91_q3_1212 : AM A H91_1212) (hm91_1212 : ((12 - x91_4_1212) : Int).toNat < n91_1212), Go WSM G 6 iX12_best 91 [(0, vR 0), (1, vI a1), (2, vI x91_2_1212), (3, vI x91_3_1212), (4, vI x91_4_1212)] [] H91_1212 Q := by
            intro n91_1212
            induction n91_1212 with
            | zero => intro x91_4_1212 h_x91_4_1212 x91_3_1212 h_x91_3_1212 x91_2_1212 h_x91_2_1212 H91_1212 hB91_1212 hE91_1212 i91_0_1212 i91_1_1212 w91_MV_1212 w91_RE_1212 w91_MVw_1212 w91_RLt_1212 w91_q3_1212 hm91_1212; exact absurd hm91_1212 (Nat.not_lt_zero _)
            | succ n91_1212 ih91_1212 =>
            intro x91_4_1212 h_x91_4_1212 x91_3_1212 h_x91_3_1212 x91_2_1212 h_x91_2_1212 H91_1212 hB91_1212 hE91_1212 i91_0_1212 i91_1_1212 w91_MV_1212 w91_RE_1212 w91_MVw_1212 w91_RLt_1212 w91_q3_1212 hm91_1212
            have iv1345 : AM A H91_1212 := i91_1_1212
            refine g_iload dX12_best_91 rfl ?_
            refine g_iconst dX12_best_93 ?_
            refine g_iadd dX12_best_94 ?_
            refine g_aload_n dX12_best_95 rfl ?_
            refine m_g53 rfl dX12_best_96 ?_
            refine g_iconst dX12_best_99 ?_
            refine m_l35 (z := (H91_1212 35 0)) dX12_best_100 (by decide) rfl ?_
            have f1346 := bl_35 (k := 0) hB91_1212
            refine g_icmp_ge (tgt := 173) dX12_best_101 (by decide) ⟨by (clear gc3_is; omega), by (clear gc3_is; omega)⟩ ⟨by have q0 := bl_35 (k := 0) hB91_1212; (clear gc3_is; omega), by have q0 := bl_35 (k := 0) hB91_1212; (clear gc3_is; omega)⟩ (fun k1347 => ?_) (fun k1347 => ?_)
            · skip
              refine g_iload_n dX12_best_173 rfl ?_
              refine g_if_ne (tgt := 181) dX12_best_174 (by decide) ⟨by (clear gc3_is; omega), by (clear gc3_is; omega)⟩ (fun k1348 => ?_) (fun k1348 => ?_)
              · have k1348n : 1 ≤ a1 := by (clear gc3_is; omega)
                clear k1348
                skip
                refine g_iload_n dX12_best_181 rfl ?_
                exact g_retI dX12_best_182 rfl (hQ x91_2_1212 ⟨by (clear gc3_is; omega), by (clear gc3_is; omega)⟩ _ hB91_1212 (FrM.c (FrM.c (FrM.c (FrM.c (FrM.c (FrM.c FrM.rf hFc5 rfl) hFc6 rfl) hE29_6 rfl) hFc1210 rfl) hFc1212 rfl) hE91_1212 rfl) (by have q0 := b0_74 hB91_1212; (clear gc3_is; omega)) w91_MVw_1212 w91_RE_1212 (iv1345))
              · skip
                refine g_iload_n dX12_best_177 rfl ?_
                refine g_goto (tgt := 182) dX12_best_178 (by decide) ?_
                exact g_retI dX12_best_182 rfl (hQ x91_3_1212 ⟨by (clear gc3_is; omega), by (clear gc3_is; omega)⟩ _ hB91_1212 (FrM.c (FrM.c (FrM.c (FrM.c (FrM.c (FrM.c FrM.rf hFc5 rfl) hFc6 rfl) hE29_6 rfl) hFc1210 rfl) hFc1212 rfl) hE91_1212 rfl) (by have q0 := b0_74 hB91_1212; (clear gc3_is; omega)) w91_MVw_1212 w91_RE_1212 (iv1345))
            · skip
              refine g_aload_n dX12_best_104 rfl ?_
              refine m_g91 rfl dX12_best_105 ?_
              refine g_iload dX12_best_108 rfl ?_
              refine m_l58 (z := (H29_6 58 x91_4_1212)) dX12_best_110 ⟨by (clear gc3_is; omega), by (clear gc3_is; omega)⟩ ((congrFun (hE91_1212.2 58 rfl rfl) _).trans ((congrFun (hFc1212.2 58 rfl rfl) _).trans ((congrFun (hFc1210.2 58 rfl rfl) _).trans rfl))) ?_
              have f1349 := bl_58 (k := x91_4_1212) hB29_6
              have J167_1359 : ∀ (x167_3_1359 : Int) (h_x167_3_1359 : (-1) ≤ x167_3_1359 ∧ x167_3_1359 ≤ 11) (x167_2_1359 : Int) (h_x167_2_1359 : (-2147483648) ≤ x167_2_1359 ∧ x167_2_1359 ≤ 2147483647) (H167_1359 : PH) (hB167_1359 : BdM H167_1359) (hE167_1359 : FrM ([62, 66, 74, 76, 78], [35, 36, 37, 38, 39, 40, 41, 42, 43, 44, 49, 50]) H91_1212 H167_1359) (i167_0_1359 : H167_1359 0 74 ≤ P 0 74 + 3 + x91_4_1212) (w167_MV_1359 : MV H167_1359) (w167_RE_1359 : RE H167_1359) (w167_MVw_1359 : MVw H167_1359) (w167_RLt_1359 : RLt H167_1359) (w167_q3_1359 : AM A H167_1359), Go WSM G 6 iX12_best 167 [(0, vR 0), (1, vI a1), (2, vI x167_2_1359), (3, vI x167_3_1359), (4, vI x91_4_1212)] [] H167_1359 Q := by
                intro x167_3_1359 h_x167_3_1359 x167_2_1359 h_x167_2_1359 H167_1359 hB167_1359 hE167_1359 i167_0_1359 w167_MV_1359 w167_RE_1359 w167_MVw_1359 w167_RLt_1359 w167_q3_1359
                refine g_iinc (l1 := [(4, vI (x91_4_1212 + 1)), (0, vR 0), (1, vI a1), (2, vI x167_2_1359), (3, vI x167_3_1359)]) dX12_best_167 rfl (by decide) rfl ?_
                refine g_goto (tgt := 91) dX12_best_170 (by decide) ?_
                refine g_forget (l1 := [(0, vR 0), (1, vI a1), (2, vI x167_2_1359), (3, vI x167_3_1359), (4, vI (x91_4_1212 + 1))]) (by intro q hq; simp only [List.mem_cons, List.not_mem_nil, or_false] at hq ⊢; rcases hq with rfl | rfl | rfl | rfl | rfl <;> simp) ?_
                exact ih91_1212 (x91_4_1212 + 1) ⟨by (clear gc3_is; omega), by (clear gc3_is; omega)⟩ x167_3_1359 ⟨by (clear gc3_is; omega), by (clear gc3_is; omega)⟩ x167_2_1359 ⟨by (clear gc3_is; omega), by (clear gc3_is; omega)⟩ _ hB167_1359 (FrM.c (FrM.c FrM.rf hE91_1212 rfl) hE167_1359 rfl) (by have q0 := b0_74 hB167_1359; (clear gc3_is; omega)) (w167_q3_1359) w167_MV_1359 w167_RE_1359 w167_MVw_1359 w167_RLt_1359 w167_q3_1359 (by (clear gc3_is; omega))
              refine g_if_ne (tgt := 117) dX12_best_111 (by decide) ⟨by have q0 := bl_58 (k := x91_4_1212) hB29_6; (clear gc3_is; omega), by have q0 := bl_58 (k := x91_4_1212) hB29_6; (clear gc3_is; omega)⟩ (fun k1361 => ?_) (fun k1361 => ?_)
              · have k1361n : 1 ≤ (H29_6 58 x91_4_1212) := by have q0 := bl_58 (k := x91_4_1212) hB29_6; (clear gc3_is; omega)
                clear k1361
                skip
                refine g_aload_n dX12_best_117 rfl ?_
                refine g_iconst dX12_best_118 ?_
                refine g_iconst dX12_best_119 ?_
                have hpm := iv1345
                have hbk := hB91_1212
                refine g_vV (av := [vI 1, vI 0]) (o := 0) (st := []) (f_X12_copies G H91_1212 1 0 (by decide) (by decide) hB91_1212 (by decide) _ (fun Pc1362 hBc1362 hFc1362 gc1362_o gc1362_cy => ⟨rfl, ?_⟩)) cf_X12_copies t_1859 rfl (by decide) rfl rfl rfl (Nat.le_of_ble_eq_true rfl) (by decide) rfl dX12_best_120
                have iv1363 : AM A Pc1362 := hpm.un1 hbk gc1362_cy hFc1362
                refine g_aload_n dX12_best_123 rfl ?_
                refine g_iconst dX12_best_124 ?_
                refine g_iload dX12_best_125 rfl ?_
                refine g_iload dX12_best_127 rfl ?_
                refine g_iconst dX12_best_129 ?_
                refine g_iadd dX12_best_130 ?_
                have hpm := iv1363
                have hbk := hBc1362
                refine g_vV (av := [vI 1, vI x91_4_1212, vI (x91_4_1212 + 1)]) (o := 0) (st := []) (f_X12_exchanges G Pc1362 1 x91_4_1212 (x91_4_1212 + 1) (by decide) ⟨by (clear gc3_is gc1362_o; omega), by (clear gc3_is gc1362_o; omega)⟩ ⟨by (clear gc3_is gc1362_o; omega), by (clear gc3_is gc1362_o; omega)⟩ hBc1362  _ (fun Pc1364 hBc1364 hFc1364 gc1364_x1 gc1364_x2 gc1364_xo => ⟨rfl, ?_⟩)) cf_X12_exchanges t_2103 rfl (by decide) rfl rfl rfl (Nat.le_of_ble_eq_true rfl) (by decide) rfl dX12_best_131
                have iv1365 : AM A Pc1364 := hpm.un2 hbk gc1364_xo ⟨by (clear gc3_is gc1362_o; omega), by (clear gc3_is gc1362_o; omega)⟩ ⟨by (clear gc3_is gc1362_o; omega), by (clear gc3_is gc1362_o; omega)⟩ hFc1364
                refine g_aload_n dX12_best_134 rfl ?_
                refine g_iconst dX12_best_135 ?_
                refine g_aload_n dX12_best_136 rfl ?_
                refine m_g56 rfl dX12_best_137 ?_
                refine g_iconst dX12_best_140 ?_
                refine m_l38 (z := (Pc1362 38 1)) dX12_best_141 (by decide) ((congrFun (hFc1364.2 38 rfl rfl) _).trans rfl) ?_
                have f1366 := bl_38 (k := 1) hBc1362
                refine g_vV (av := [vI 1, vI (Pc1362 38 1)]) (o := 0) (st := []) (m_X12_plants G Pc1364 1 (Pc1362 38 1) (by decide) ⟨by have q0 := bl_38 (k := 1) hBc1362; (clear gc3_is gc1362_o; omega), by have q0 := bl_38 (k := 1) hBc1362; (clear gc3_is gc1362_o; omega)⟩ hBc1364 (by have q0 := bl_38 (k := 1) hBc1362; have q1 := (((hFc1364.1 74 rfl).trans ((hFc1362.1 74 rfl).trans rfl)) : Pc1364 0 74 = (H91_1212 0 74)); have q2 := b0_74 hB91_1212; (clear gc3_is gc1362_o; omega)) (MVw.fr (F := ([], [35, 36, 37, 38, 39, 40])) w91_MVw_1212 (FrM.c (FrM.c FrM.rf hFc1362 rfl) hFc1364 rfl) rfl) (RE.fr (F := ([], [35, 36, 37, 38, 39, 40])) w91_RE_1212 (FrM.c (FrM.c FrM.rf hFc1362 rfl) hFc1364 rfl) rfl) _ (fun Pc1367 hBc1367 hFc1367 gc1367_st vc1367_MV vc1367_RE vc1367_RLt => ⟨rfl, ?_⟩)) cf_X12_plants t_1998 rfl (by decide) rfl rfl rfl (Nat.le_of_ble_eq_true rfl) (by decide) rfl dX12_best_142
                have z1368 : Pc1364 0 74 = (H91_1212 0 74) := ((hFc1364.1 74 rfl).trans ((hFc1362.1 74 rfl).trans rfl))
                refine g_aload_n dX12_best_145 rfl ?_
                refine g_iconst dX12_best_146 ?_
                refine g_vI (av := [vI 1]) (o := 0) (st := []) (m_X12_allTests G Pc1367 1 (by decide) hBc1367 (okC.fr (F := ([62, 66, 74, 76, 78], [35, 36, 37, 38, 39, 40, 41, 42, 43, 44, 45, 49, 50, 58])) v_okC (FrM.c (FrM.c (FrM.c (FrM.c (FrM.c (FrM.c (FrM.c (FrM.c (FrM.c FrM.rf hFc5 rfl) hFc6 rfl) hE29_6 rfl) hFc1210 rfl) hFc1212 rfl) hE91_1212 rfl) hFc1362 rfl) hFc1364 rfl) hFc1367 rfl) rfl) vc1367_MV _ (fun rc1369 hc1369 Pc1369 hBc1369 hFc1369 vc1369_MV => ⟨rc1369, rfl, ?_⟩)) cf_X12_allTests t_2002 rfl (by decide) rfl rfl rfl (Nat.le_of_ble_eq_true rfl) (by decide) rfl dX12_best_147
                refine g_istore (l1 := [(5, vI rc1369), (0, vR 0), (1, vI a1), (2, vI x91_2_1212), (3, vI x91_3_1212), (4, vI x91_4_1212)]) dX12_best_150 (by decide) rfl ?_
                refine g_iload dX12_best_152 rfl ?_
                refine g_iload_n dX12_best_154 rfl ?_
                refine g_icmp_lt (tgt := 161) dX12_best_155 (by decide) ⟨by (clear gc3_is gc1362_o; omega), by (clear gc3_is gc1362_o; omega)⟩ ⟨by (clear gc3_is gc1362_o; omega), by (clear gc3_is gc1362_o; omega)⟩ (fun k1370 => ?_) (fun k1370 => ?_)
                · have r_gc1362_o := (gc1362_o.resolve_left (by (clear gc3_is gc1362_o; omega)))
                  skip
                  refine g_iload dX12_best_161 rfl ?_
                  refine g_istore_n (l1 := [(2, vI rc1369), (5, vI rc1369), (0, vR 0), (1, vI a1), (3, vI x91_3_1212), (4, vI x91_4_1212)]) dX12_best_163 (by decide) rfl ?_
                  refine g_iload dX12_best_164 rfl ?_
                  refine g_istore_n (l1 := [(3, vI x91_4_1212), (2, vI rc1369), (5, vI rc1369), (0, vR 0), (1, vI a1), (4, vI x91_4_1212)]) dX12_best_166 (by decide) rfl ?_
                  refine g_forget (l1 := [(0, vR 0), (1, vI a1), (2, vI rc1369), (3, vI x91_4_1212), (4, vI x91_4_1212)]) (by intro q hq; simp only [List.mem_cons, List.not_mem_nil, or_false] at hq ⊢; rcases hq with rfl | rfl | rfl | rfl | rfl <;> simp) ?_
                  exact J167_1359 x91_4_1212 ⟨by (clear gc3_is gc1362_o; omega), by (clear gc3_is gc1362_o; omega)⟩ rc1369 ⟨by (clear gc3_is gc1362_o; omega), by (clear gc3_is gc1362_o; omega)⟩ _ hBc1369 (FrM.c (FrM.c (FrM.c (FrM.c FrM.rf hFc1362 rfl) hFc1364 rfl) hFc1367 rfl) hFc1369 rfl) (by have q0 := (((hFc1369.1 74 rfl).trans rfl) : Pc1369 0 74 = (Pc1367 0 74)); have q1 := b0_74 hBc1367; (clear gc3_is gc1362_o; omega)) vc1369_MV (RE.fr (F := ([78], [44, 49, 50])) vc1367_RE (FrM.c FrM.rf hFc1369 rfl) rfl) (vc1369_MV.w) (RLt.fr (F := ([78], [44, 49, 50])) vc1367_RLt (FrM.c FrM.rf hFc1369 rfl) rfl) (AM.fr (F := ([62, 66, 74, 76, 78], [41, 42, 43, 44, 49, 50])) iv1365 (FrM.c (FrM.c FrM.rf hFc1367 rfl) hFc1369 rfl) rfl)
                · have r_gc1362_o := (gc1362_o.resolve_left (by (clear gc3_is gc1362_o; omega)))
                  skip
                  refine g_goto (tgt := 167) dX12_best_158 (by decide) ?_
                  refine g_forget (l1 := [(0, vR 0), (1, vI a1), (2, vI x91_2_1212), (3, vI x91_3_1212), (4, vI x91_4_1212)]) (by intro q hq; simp only [List.mem_cons, List.not_mem_nil, or_false] at hq ⊢; rcases hq with rfl | rfl | rfl | rfl | rfl <;> simp) ?_
                  exact J167_1359 x91_3_1212 ⟨by (clear gc3_is gc1362_o; omega), by (clear gc3_is gc1362_o; omega)⟩ x91_2_1212 ⟨by (clear gc3_is gc1362_o; omega), by (clear gc3_is gc1362_o; omega)⟩ _ hBc1369 (FrM.c (FrM.c (FrM.c (FrM.c FrM.rf hFc1362 rfl) hFc1364 rfl) hFc1367 rfl) hFc1369 rfl) (by have q0 := (((hFc1369.1 74 rfl).trans rfl) : Pc1369 0 74 = (Pc1367 0 74)); have q1 := b0_74 hBc1367; (clear gc3_is gc1362_o; omega)) vc1369_MV (RE.fr (F := ([78], [44, 49, 50])) vc1367_RE (FrM.c FrM.rf hFc1369 rfl) rfl) (vc1369_MV.w) (RLt.fr (F := ([78], [44, 49, 50])) vc1367_RLt (FrM.c FrM.rf hFc1369 rfl) rfl) (AM.fr (F := ([62, 66, 74, 76, 78], [41, 42, 43, 44, 49, 50])) iv1365 (FrM.c (FrM.c FrM.rf hFc1367 rfl) hFc1369 rfl) rfl)
              · skip
                refine g_goto (tgt := 167) dX12_best_114 (by decide) ?_
                refine g_forget (l1 := [(0, vR 0), (1, vI a1), (2, vI x91_2_1212), (3, vI x91_3_1212), (4, vI x91_4_1212)]) (by intro q hq; simp only [List.mem_cons, List.not_mem_nil, or_false] at hq ⊢; rcases hq with rfl | rfl | rfl | rfl | rfl <;> simp) ?_
                exact J167_1359 x91_3_1212 ⟨by (clear gc3_is; omega), by (clear gc3_is; omega)⟩ x91_2_1212 ⟨by (clear gc3_is; omega), by (clear gc3_is; omega)⟩ _ hB91_1212 FrM.rf (by have q0 := b0_74 hB91_1212; (clear gc3_is; omega)) w91_MV_1212 w91_RE_1212 w91_MVw_1212 w91_RLt_1212 iv1345
          refine g_forget (l1 := [(0, vR 0), (1, vI a1), (2, vI rc1212), (3, vI (-1)), (4, vI 0)]) (by intro q hq; simp only [List.mem_cons, List.not_mem_nil, or_false] at hq ⊢; rcases hq with rfl | rfl | rfl | rfl | rfl <;> simp) ?_
          exact L91_1212 _ 0 (by decide) (-1) (by decide) rc1212 ⟨by (clear gc3_is; omega), by (clear gc3_is; omega)⟩ _ hBc1212 FrM.rf (by have q0 := (((hFc1212.1 74 rfl).trans rfl) : Pc1212 0 74 = (Pc1210 0 74)); have q1 := b0_74 hBc1210; (clear gc3_is; omega)) ((AM.fr (F := ([62, 66, 74, 76, 78], [41, 42, 43, 44, 45, 49, 50, 58])) z0 (FrM.c (FrM.c (FrM.c (FrM.c (FrM.c FrM.rf hFc5 rfl) hFc6 rfl) hE29_6 rfl) hFc1210 rfl) hFc1212 rfl) rfl)) vc1212_MV (RE.fr (F := ([78], [44, 49, 50])) vc1210_RE (FrM.c FrM.rf hFc1212 rfl) rfl) (vc1212_MV.w) (RLt.fr (F := ([78], [44, 49, 50])) vc1210_RLt (FrM.c FrM.rf hFc1212 rfl) rfl) (AM.fr (F := ([62, 66, 74, 76, 78], [41, 42, 43, 44, 45, 49, 50, 58])) z0 (FrM.c (FrM.c (FrM.c (FrM.c (FrM.c FrM.rf hFc5 rfl) hFc6 rfl) hE29_6 rfl) hFc1210 rfl) hFc1212 rfl) rfl) (Nat.lt_succ_self _)
        · skip
          refine g_aload_n dX12_best_41 rfl ?_
          refine m_g91 rfl dX12_best_42 ?_
          refine g_iload_n dX12_best_45 rfl ?_
          refine g_aload_n dX12_best_46 rfl ?_
          refine g_iload_n dX12_best_47 rfl ?_
          refine g_iload_n dX12_best_48 rfl ?_
          refine g_iconst dX12_best_49 ?_
          refine g_iadd dX12_best_50 ?_
          refine g_vI (av := [vI x29_2_6, vI (x29_2_6 + 1)]) (o := 0) (st := [vI x29_2_6, vR 58]) (m_X12_isSafe G H29_6 x29_2_6 (x29_2_6 + 1) ⟨by (clear gc3_is; omega), by (clear gc3_is; omega)⟩ ⟨by (clear gc3_is; omega), by (clear gc3_is; omega)⟩ hB29_6  _ (fun rc1371 hc1371 => ⟨rc1371, rfl, ?_⟩)) cf_X12_isSafe t_2089 rfl (by decide) rfl rfl rfl (Nat.le_of_ble_eq_true rfl) (by decide) rfl dX12_best_51
          refine g_if_eq (tgt := 61) dX12_best_54 (by decide) ⟨by (clear gc3_is; omega), by (clear gc3_is; omega)⟩ (fun k1372 => ?_) (fun k1372 => ?_)
          · skip
            refine g_iconst dX12_best_61 ?_
            refine m_s58 dX12_best_62 ⟨by (clear gc3_is; omega), by (clear gc3_is; omega)⟩ ?_
            have hB1373 := ba_58 (z := 0) (k := x29_2_6) hB29_6 (by decide)
            refine g_iinc (l1 := [(2, vI (x29_2_6 + 1)), (0, vR 0), (1, vI a1)]) dX12_best_63 rfl (by decide) rfl ?_
            refine g_goto (tgt := 29) dX12_best_66 (by decide) ?_
            refine g_forget (l1 := [(0, vR 0), (1, vI a1), (2, vI (x29_2_6 + 1))]) (by intro q hq; simp only [List.mem_cons, List.not_mem_nil, or_false] at hq ⊢; rcases hq with rfl | rfl | rfl <;> simp) ?_
            exact ih29_6 (x29_2_6 + 1) ⟨by (clear gc3_is; omega), by (clear gc3_is; omega)⟩ _ hB1373 (FrM.a (FrM.c FrM.rf hE29_6 rfl) rfl rfl) (by (clear gc3_is; omega))
          · have k1372n : 1 ≤ rc1371 := by (clear gc3_is; omega)
            clear k1372
            skip
            refine g_iconst dX12_best_57 ?_
            refine g_goto (tgt := 62) dX12_best_58 (by decide) ?_
            refine m_s58 dX12_best_62 ⟨by (clear gc3_is; omega), by (clear gc3_is; omega)⟩ ?_
            have hB1374 := ba_58 (z := 1) (k := x29_2_6) hB29_6 (by decide)
            refine g_iinc (l1 := [(2, vI (x29_2_6 + 1)), (0, vR 0), (1, vI a1)]) dX12_best_63 rfl (by decide) rfl ?_
            refine g_goto (tgt := 29) dX12_best_66 (by decide) ?_
            refine g_forget (l1 := [(0, vR 0), (1, vI a1), (2, vI (x29_2_6 + 1))]) (by intro q hq; simp only [List.mem_cons, List.not_mem_nil, or_false] at hq ⊢; rcases hq with rfl | rfl | rfl <;> simp) ?_
            exact ih29_6 (x29_2_6 + 1) ⟨by (clear gc3_is; omega), by (clear gc3_is; omega)⟩ _ hB1374 (FrM.a (FrM.c FrM.rf hE29_6 rfl) rfl rfl) (by (clear gc3_is; omega))
      refine g_forget (l1 := [(0, vR 0), (1, vI a1), (2, vI 0)]) (by intro q hq; simp only [List.mem_cons, List.not_mem_nil, or_false] at hq ⊢; rcases hq with rfl | rfl | rfl <;> simp) ?_
      exact L29_6 _ 0 (by decide) _ hBc6 FrM.rf (Nat.lt_succ_self _)
    · skip
      refine g_iconst dX12_best_16 ?_
      exact g_retI dX12_best_17 rfl (hQ (-1) (by decide) _ hB FrM.rf (by have q0 := b0_74 hB; (clear gc3_is k4; omega)) v_MVw v_RE (z0))
/-! What the reference answers: X12_has. -/
set_option maxRecDepth 100000 in
set_option maxHeartbeats 4000000 in
theorem f_X12_has (G : GT) (P : PH) (K : PH) (M : PH) (A : PH) (a1 : Int) (h_a1 : (-2147483648) ≤ a1 ∧ a1 ≤ 2147483647) (hB : BdM P) (p_m0 : M 0 0 = 0 → M 0 1 = 0) (z0 : MKB K P) (z1 : MMB M P) (z2 : MH M P) (z3 : MR M P) (z4 : AM A P) (Q : Option PV → PH → Prop) (hQ : ∀ (r : Int) (_ : (-2147483648) ≤ r ∧ r ≤ 2147483647) (_ : r = hasV K M A a1), Q (some (vI r)) P) : Ct WSM G 2 iX12_has [vR 0, vI a1] P Q := by
  refine Ct.of (by decide) (l0 := [(0, vR 0), (1, vI a1)]) rfl (Nat.le_of_ble_eq_true rfl) ?_
  have hb := z4.b
  have hk1 := z0.1
  have hk2 := z0.2.1
  have hmm := z1.1
  have hmh := z2
  unfold MH at hmh
  have hmr := z3
  unfold MR at hmr
  have h39 := m40_s (A 0 3)
  have q44 := b0_44 hB
  have q13 := b0_13 hB
  have q11 := bl_11 (k := P 0 13) hB
  refine g_iload_n dX12_has_0 rfl ?_
  by_cases k1 : a1 = 0
  · skip
    refine g_tswI (tgt := 60) 0 dX12_has_1 ⟨by (clear p_m0 hb hmh hmr h39; omega), by (clear p_m0 hb hmh hmr h39; omega)⟩ (by (clear p_m0 hb hmh hmr h39; omega)) (by (clear p_m0 hb hmh hmr h39; omega)) rfl (by decide) ?_
    refine g_aload_n dX12_has_60 rfl ?_
    refine m_g14 rfl dX12_has_61 ?_
    refine g_aload_n dX12_has_64 rfl ?_
    refine m_g13 (z := (P 0 13)) rfl dX12_has_65 rfl ?_
    refine m_l2 (z := (P 2 (P 0 13))) dX12_has_68 ⟨by have q0 := b0_13 hB; (clear p_m0 hb hmh hmr h39; omega), by have q0 := b0_13 hB; (clear p_m0 hb hmh hmr h39; omega)⟩ rfl ?_
    exact g_retI dX12_has_69 rfl (hQ (P 2 (P 0 13)) ⟨by have q0 := bl_2 (k := (P 0 13)) hB; (clear p_m0 hb hmh hmr h39; omega), by have q0 := bl_2 (k := (P 0 13)) hB; (clear p_m0 hb hmh hmr h39; omega)⟩ (by unfold hasV; (repeat (first | rw [if_pos (by (clear p_m0 hb hmh hmr h39; omega))] | rw [if_neg (by (first | (clear p_m0 hb hmh hmr h39; omega) | (clear p_m0 hb hmh hmr; omega) | (clear p_m0 hb hmh h39; omega) | (clear p_m0 hb hmr h39; omega) | (clear p_m0 hmh hmr h39; omega) | (clear hb hmh hmr h39; omega) | (clear p_m0 hb hmh; omega) | (clear p_m0; omega) | omega))])); (try (clear p_m0 hb hmh hmr h39; omega))))
  by_cases k2 : a1 = 1
  · skip
    refine g_tswI (tgt := 70) 1 dX12_has_1 ⟨by (clear p_m0 hb hmh hmr h39; omega), by (clear p_m0 hb hmh hmr h39; omega)⟩ (by (clear p_m0 hb hmh hmr h39; omega)) (by (clear p_m0 hb hmh hmr h39; omega)) rfl (by decide) ?_
    refine g_aload_n dX12_has_70 rfl ?_
    refine m_g17 rfl dX12_has_71 ?_
    refine g_aload_n dX12_has_74 rfl ?_
    refine m_g13 (z := (P 0 13)) rfl dX12_has_75 rfl ?_
    refine m_l5 (z := (P 5 (P 0 13))) dX12_has_78 ⟨by have q0 := b0_13 hB; (clear p_m0 hb hmh hmr h39; omega), by have q0 := b0_13 hB; (clear p_m0 hb hmh hmr h39; omega)⟩ rfl ?_
    exact g_retI dX12_has_79 rfl (hQ (P 5 (P 0 13)) ⟨by have q0 := bl_5 (k := (P 0 13)) hB; (clear p_m0 hb hmh hmr h39; omega), by have q0 := bl_5 (k := (P 0 13)) hB; (clear p_m0 hb hmh hmr h39; omega)⟩ (by unfold hasV; (repeat (first | rw [if_pos (by (clear p_m0 hb hmh hmr h39; omega))] | rw [if_neg (by (clear p_m0 hb hmh hmr h39; omega))])); (try (clear p_m0 hb hmh hmr h39; omega))))
  by_cases k3 : a1 = 2
  · skip
    refine g_tswI (tgt := 80) 2 dX12_has_1 ⟨by (clear p_m0 hb hmh hmr h39; omega), by (clear p_m0 hb hmh hmr h39; omega)⟩ (by (clear p_m0 hb hmh hmr h39; omega)) (by (clear p_m0 hb hmh hmr h39; omega)) rfl (by decide) ?_
    refine g_aload_n dX12_has_80 rfl ?_
    refine g_vI (av := []) (o := 0) (st := []) (m_X12_columns G P  hB  _ (fun rc4 hc4 gc4_c => ⟨rc4, rfl, ?_⟩)) cf_X12_columns t_1827 rfl (by decide) rfl rfl rfl (Nat.le_of_ble_eq_true rfl) (by decide) rfl dX12_has_81
    exact g_retI dX12_has_84 rfl (hQ rc4 ⟨by (clear p_m0 hb hmh hmr h39; omega), by (clear p_m0 hb hmh hmr h39; omega)⟩ (by unfold hasV; (repeat (first | rw [if_pos (by (clear p_m0 hb hmh hmr h39; omega))] | rw [if_neg (by (clear p_m0 hb hmh hmr h39; omega))])); (try (clear p_m0 hb hmh hmr h39; omega))))
  by_cases k5 : a1 = 3
  · skip
    refine g_tswI (tgt := 85) 3 dX12_has_1 ⟨by (clear p_m0 hb hmh hmr h39; omega), by (clear p_m0 hb hmh hmr h39; omega)⟩ (by (clear p_m0 hb hmh hmr h39; omega)) (by (clear p_m0 hb hmh hmr h39; omega)) rfl (by decide) ?_
    refine g_aload_n dX12_has_85 rfl ?_
    refine m_g44 (z := (P 0 44)) rfl dX12_has_86 rfl ?_
    have f6 := b0_44 hB
    refine g_if_eq (tgt := 99) dX12_has_89 (by decide) ⟨by have q0 := b0_44 hB; (clear p_m0 hb hmh hmr h39; omega), by have q0 := b0_44 hB; (clear p_m0 hb hmh hmr h39; omega)⟩ (fun k7 => ?_) (fun k7 => ?_)
    · skip
      refine g_iconst dX12_has_99 ?_
      exact g_retI dX12_has_100 rfl (hQ 0 (by decide) (by unfold hasV; (repeat (first | rw [if_pos (by (clear p_m0 hb hmh hmr h39 k7; omega))] | rw [if_neg (by (clear p_m0 hb hmh hmr h39 k7; omega))])); (try (omega))))
    · have k7n : 1 ≤ (P 0 44) := by have q0 := b0_44 hB; (clear p_m0 hb hmh hmr h39; omega)
      clear k7
      skip
      refine g_aload_n dX12_has_92 rfl ?_
      refine m_g52 (z := (P 0 52)) rfl dX12_has_93 rfl ?_
      refine g_goto (tgt := 100) dX12_has_96 (by decide) ?_
      exact g_retI dX12_has_100 rfl (hQ (P 0 52) ⟨by have q0 := b0_52 hB; (clear p_m0 hb hmh hmr h39; omega), by have q0 := b0_52 hB; (clear p_m0 hb hmh hmr h39; omega)⟩ (by unfold hasV; (repeat (first | rw [if_pos (by (clear p_m0 hb hmh hmr h39; omega))] | rw [if_neg (by (clear p_m0 hb hmh hmr h39; omega))])); (try (clear p_m0; omega))))
  by_cases k8 : a1 = 4
  · skip
    refine g_tswI (tgt := 101) 4 dX12_has_1 ⟨by (clear p_m0 hb hmh hmr h39; omega), by (clear p_m0 hb hmh hmr h39; omega)⟩ (by (clear p_m0 hb hmh hmr h39; omega)) (by (clear p_m0 hb hmh hmr h39; omega)) rfl (by decide) ?_
    refine g_aload_n dX12_has_101 rfl ?_
    refine m_g53 rfl dX12_has_102 ?_
    refine g_iconst dX12_has_105 ?_
    refine m_l35 (z := (P 35 0)) dX12_has_106 (by decide) rfl ?_
    exact g_retI dX12_has_107 rfl (hQ (P 35 0) ⟨by have q0 := bl_35 (k := 0) hB; (clear p_m0 hb hmh hmr h39; omega), by have q0 := bl_35 (k := 0) hB; (clear p_m0 hb hmh hmr h39; omega)⟩ (by unfold hasV; (repeat (first | rw [if_pos (by (clear p_m0 hb hmh hmr h39; omega))] | rw [if_neg (by (clear p_m0 hb hmh hmr h39; omega))])); (try (clear p_m0 hmh hmr h39; omega))))
  by_cases k9 : a1 = 5
  · skip
    refine g_tswI (tgt := 108) 5 dX12_has_1 ⟨by (clear p_m0 hb hmh hmr h39; omega), by (clear p_m0 hb hmh hmr h39; omega)⟩ (by (clear p_m0 hb hmh hmr h39; omega)) (by (clear p_m0 hb hmh hmr h39; omega)) rfl (by decide) ?_
    refine g_aload_n dX12_has_108 rfl ?_
    refine m_g55 rfl dX12_has_109 ?_
    refine g_iconst dX12_has_112 ?_
    refine m_l37 (z := (P 37 0)) dX12_has_113 (by decide) rfl ?_
    exact g_retI dX12_has_114 rfl (hQ (P 37 0) ⟨by have q0 := bl_37 (k := 0) hB; (clear p_m0 hb hmh hmr h39; omega), by have q0 := bl_37 (k := 0) hB; (clear p_m0 hb hmh hmr h39; omega)⟩ (by unfold hasV; (repeat (first | rw [if_pos (by (clear p_m0 hb hmh hmr h39; omega))] | rw [if_neg (by (clear p_m0 hb hmh hmr h39; omega))])); (try (clear p_m0 hmh hmr h39; omega))))
  by_cases k10 : a1 = 6
  · skip
    refine g_tswI (tgt := 115) 6 dX12_has_1 ⟨by (clear p_m0 hb hmh hmr h39; omega), by (clear p_m0 hb hmh hmr h39; omega)⟩ (by (clear p_m0 hb hmh hmr h39; omega)) (by (clear p_m0 hb hmh hmr h39; omega)) rfl (by decide) ?_
    refine g_aload_n dX12_has_115 rfl ?_
    refine m_g56 rfl dX12_has_116 ?_
    refine g_iconst dX12_has_119 ?_
    refine m_l38 (z := (P 38 0)) dX12_has_120 (by decide) rfl ?_
    exact g_retI dX12_has_121 rfl (hQ (P 38 0) ⟨by have q0 := bl_38 (k := 0) hB; (clear p_m0 hb hmh hmr h39; omega), by have q0 := bl_38 (k := 0) hB; (clear p_m0 hb hmh hmr h39; omega)⟩ (by unfold hasV; (repeat (first | rw [if_pos (by (clear p_m0 hb hmh hmr h39; omega))] | rw [if_neg (by (clear p_m0 hb hmh hmr h39; omega))])); (try (clear p_m0 hmh hmr h39; omega))))
  by_cases k11 : a1 = 7
  · skip
    refine g_tswI (tgt := 122) 7 dX12_has_1 ⟨by (clear p_m0 hb hmh hmr h39; omega), by (clear p_m0 hb hmh hmr h39; omega)⟩ (by (clear p_m0 hb hmh hmr h39; omega)) (by (clear p_m0 hb hmh hmr h39; omega)) rfl (by decide) ?_
    refine g_aload_n dX12_has_122 rfl ?_
    refine m_g57 rfl dX12_has_123 ?_
    refine g_iconst dX12_has_126 ?_
    refine m_l39 (z := (P 39 0)) dX12_has_127 (by decide) rfl ?_
    exact g_retI dX12_has_128 rfl (hQ (P 39 0) ⟨by have q0 := bl_39 (k := 0) hB; (clear p_m0 hb hmh hmr h39; omega), by have q0 := bl_39 (k := 0) hB; (clear p_m0 hb hmh hmr h39; omega)⟩ (by unfold hasV; (repeat (first | rw [if_pos (by (clear p_m0 hb hmh hmr h39; omega))] | rw [if_neg (by (clear p_m0 hb hmh hmr h39; omega))])); (try (clear p_m0 hmh hmr h39; omega))))
  by_cases k12 : a1 = 8
  · skip
    refine g_tswI (tgt := 129) 8 dX12_has_1 ⟨by (clear p_m0 hb hmh hmr h39; omega), by (clear p_m0 hb hmh hmr h39; omega)⟩ (by (clear p_m0 hb hmh hmr h39; omega)) (by (clear p_m0 hb hmh hmr h39; omega)) rfl (by decide) ?_
    refine g_aload_n dX12_has_129 rfl ?_
    refine m_g92 (z := (P 0 92)) rfl dX12_has_130 rfl ?_
    exact g_retI dX12_has_133 rfl (hQ (P 0 92) ⟨by have q0 := b0_92 hB; (clear p_m0 hb hmh hmr h39; omega), by have q0 := b0_92 hB; (clear p_m0 hb hmh hmr h39; omega)⟩ (by unfold hasV; (repeat (first | rw [if_pos (by (clear p_m0 hb hmh hmr h39; omega))] | rw [if_neg (by (clear p_m0 hb hmh hmr h39; omega))])); (try (clear p_m0 hmh hmr h39; omega))))
  by_cases k13 : a1 = 9
  · skip
    refine g_tswI (tgt := 134) 9 dX12_has_1 ⟨by (clear p_m0 hb hmh hmr h39; omega), by (clear p_m0 hb hmh hmr h39; omega)⟩ (by (clear p_m0 hb hmh hmr h39; omega)) (by (clear p_m0 hb hmh hmr h39; omega)) rfl (by decide) ?_
    refine g_aload_n dX12_has_134 rfl ?_
    refine m_g60 (z := (P 0 60)) rfl dX12_has_135 rfl ?_
    exact g_retI dX12_has_138 rfl (hQ (P 0 60) ⟨by have q0 := b0_60 hB; (clear p_m0 hb hmh hmr h39; omega), by have q0 := b0_60 hB; (clear p_m0 hb hmh hmr h39; omega)⟩ (by unfold hasV; (repeat (first | rw [if_pos (by (clear p_m0 hb hmh hmr h39; omega))] | rw [if_neg (by (clear p_m0 hb hmh hmr h39; omega))])); (try (clear p_m0 hmh hmr h39; omega))))
  by_cases k14 : a1 = 10
  · skip
    refine g_tswI (tgt := 139) 10 dX12_has_1 ⟨by (clear p_m0 hb hmh hmr h39; omega), by (clear p_m0 hb hmh hmr h39; omega)⟩ (by (clear p_m0 hb hmh hmr h39; omega)) (by (clear p_m0 hb hmh hmr h39; omega)) rfl (by decide) ?_
    refine g_aload_n dX12_has_139 rfl ?_
    refine m_g61 (z := (P 0 61)) rfl dX12_has_140 rfl ?_
    refine g_l2i dX12_has_143 ?_
    exact g_retI dX12_has_144 rfl (hQ (P 0 61) ⟨by have q0 := b0_61 hB; (clear p_m0 hb hmh hmr h39; omega), by have q0 := b0_61 hB; (clear p_m0 hb hmh hmr h39; omega)⟩ (by unfold hasV; (repeat (first | rw [if_pos (by (clear p_m0 hb hmh hmr h39; omega))] | rw [if_neg (by (clear p_m0 hb hmh hmr h39; omega))])); (try (clear p_m0 hmh hmr h39; omega))))
  refine g_tswO (tgt := 145) dX12_has_1 ⟨by (clear p_m0 hb hmh hmr h39; omega), by (clear p_m0 hb hmh hmr h39; omega)⟩ (by (clear p_m0 hb hmh hmr h39; omega)) (by decide) ?_
  refine g_iconst dX12_has_145 ?_
  exact g_retI dX12_has_146 rfl (hQ (-1) (by decide) (by unfold hasV; (repeat (first | rw [if_pos (by (first | (clear p_m0 hb hmh hmr h39; omega) | (clear p_m0 hb hmh hmr; omega) | (clear p_m0 hb hmh h39; omega) | (clear p_m0 hb hmr h39; omega) | (clear p_m0 hmh hmr h39; omega) | (clear hb hmh hmr h39; omega) | (clear p_m0 hb hmh; omega) | (clear p_m0; omega) | omega))] | rw [if_neg (by (clear p_m0 hb hmh hmr h39; omega))])); (try (first | (clear p_m0 hb hmh hmr h39; omega) | (clear p_m0 hb hmh hmr; omega) | (clear p_m0 hb hmh h39; omega) | (clear p_m0 hb hmr h39; omega) | (clear p_m0 hmh hmr h39; omega) | (clear hb hmh hmr h39; omega) | (clear p_m0 hb hmh; omega) | (clear p_m0; omega) | omega))))
/-! What the reference answers: X12_image. -/
set_option maxRecDepth 100000 in
set_option maxHeartbeats 4000000 in
theorem f_X12_image (G : GT) (P : PH) (A : PH) (hB : BdM P) (z0 : AM A P) (Q : Option PV → PH → Prop) (hQ : ∀ (r : Int) (_ : (-2147483648) ≤ r ∧ r ≤ 2147483647) (P1 : PH) (_ : BdM P1) (_ : FrM ([70], [46]) P P1) (_ : r = A 0 0 + 4), Q (some (vI r)) P1) : Ct WSM G 2 iX12_image [vR 0] P Q := by
  refine Ct.of (by decide) (l0 := [(0, vR 0)]) rfl (Nat.le_of_ble_eq_true rfl) ?_
  have hb := z0.b
  have q35 := bl_35 (k := 0) hB
  refine g_aload_n dX12_image_0 rfl ?_
  refine g_iconst dX12_image_1 ?_
  refine m_p70 rfl dX12_image_2 ?_
  have hB1 := bs_70 (z := 0) hB (by decide)
  refine g_aload_n dX12_image_5 rfl ?_
  refine g_aload_n dX12_image_6 rfl ?_
  refine m_g53 rfl dX12_image_7 ?_
  refine g_iconst dX12_image_10 ?_
  refine m_l35 (z := (P 35 0)) dX12_image_11 (by decide) ((up_o (by decide)).trans rfl) ?_
  have f2 := bl_35 (k := 0) hB
  refine g_vV (av := [vI (P 35 0)]) (o := 0) (st := []) (m_X12_writes G (up P 0 70 0) (P 35 0) ⟨by have q0 := bl_35 (k := 0) hB; (clear hb; omega), by have q0 := bl_35 (k := 0) hB; (clear hb; omega)⟩ hB1 (by have q0 := bl_35 (k := 0) hB; have q1 := (up_same : (up P 0 70 0) 0 70 = 0); (clear hb; omega)) _ (fun Pc3 hBc3 hFc3 gc3_o => ⟨rfl, ?_⟩)) cf_X12_writes t_1974 rfl (by decide) rfl rfl rfl (Nat.le_of_ble_eq_true rfl) (by decide) rfl dX12_image_12
  have z4 : (up P 0 70 0) 0 70 = 0 := up_same
  refine g_iconst dX12_image_15 ?_
  refine g_istore_n (l1 := [(1, vI 0), (0, vR 0)]) dX12_image_16 (by decide) rfl ?_
  have L17_4 : ∀ (n17_4 : Nat) (x17_1_4 : Int) (h_x17_1_4 : 0 ≤ x17_1_4 ∧ x17_1_4 ≤ 12) (H17_4 : PH) (hB17_4 : BdM H17_4) (hE17_4 : FrM ([70], [46]) Pc3 H17_4) (i17_0_4 : H17_4 0 70 = 1 + x17_1_4) (i17_1_4 : x17_1_4 ≤ A 0 0) (hm17_4 : ((13 - x17_1_4) : Int).toNat < n17_4), Go WSM G 2 iX12_image 17 [(0, vR 0), (1, vI x17_1_4)] [] H17_4 Q := by
    intro n17_4
    induction n17_4 with
    | zero => intro x17_1_4 h_x17_1_4 H17_4 hB17_4 hE17_4 i17_0_4 i17_1_4 hm17_4; exact absurd hm17_4 (Nat.not_lt_zero _)
    | succ n17_4 ih17_4 =>
    intro x17_1_4 h_x17_1_4 H17_4 hB17_4 hE17_4 i17_0_4 i17_1_4 hm17_4
    refine g_iload_n dX12_image_17 rfl ?_
    refine g_aload_n dX12_image_18 rfl ?_
    refine m_g53 rfl dX12_image_19 ?_
    refine g_iconst dX12_image_22 ?_
    refine m_l35 (z := (P 35 0)) dX12_image_23 (by decide) ((congrFun (hE17_4.2 35 rfl rfl) _).trans ((congrFun (hFc3.2 35 rfl rfl) _).trans ((up_o (by decide)).trans rfl))) ?_
    refine g_icmp_ge (tgt := 43) dX12_image_24 (by decide) ⟨by (clear hb; omega), by (clear hb; omega)⟩ ⟨by have q0 := bl_35 (k := 0) hB; (clear hb; omega), by have q0 := bl_35 (k := 0) hB; (clear hb; omega)⟩ (fun k798 => ?_) (fun k798 => ?_)
    · refine g_aload_n dX12_image_43 rfl ?_
      refine g_aload_n dX12_image_44 rfl ?_
      refine m_g55 rfl dX12_image_45 ?_
      refine g_iconst dX12_image_48 ?_
      refine m_l37 (z := (P 37 0)) dX12_image_49 (by decide) ((congrFun (hE17_4.2 37 rfl rfl) _).trans ((congrFun (hFc3.2 37 rfl rfl) _).trans ((up_o (by decide)).trans rfl))) ?_
      have f799 := bl_37 (k := 0) hB
      refine g_vV (av := [vI (P 37 0)]) (o := 0) (st := []) (m_X12_writes G H17_4 (P 37 0) ⟨by have q0 := bl_37 (k := 0) hB; (clear hb; omega), by have q0 := bl_37 (k := 0) hB; (clear hb; omega)⟩ hB17_4 (by have q0 := bl_37 (k := 0) hB; have q1 := b0_70 hB17_4; (clear hb; omega)) _ (fun Pc800 hBc800 hFc800 gc800_o => ⟨rfl, ?_⟩)) cf_X12_writes t_1974 rfl (by decide) rfl rfl rfl (Nat.le_of_ble_eq_true rfl) (by decide) rfl dX12_image_50
      refine g_aload_n dX12_image_53 rfl ?_
      refine g_aload_n dX12_image_54 rfl ?_
      refine m_g56 rfl dX12_image_55 ?_
      refine g_iconst dX12_image_58 ?_
      refine m_l38 (z := (P 38 0)) dX12_image_59 (by decide) ((congrFun (hFc800.2 38 rfl rfl) _).trans ((congrFun (hE17_4.2 38 rfl rfl) _).trans ((congrFun (hFc3.2 38 rfl rfl) _).trans ((up_o (by decide)).trans rfl)))) ?_
      have f801 := bl_38 (k := 0) hB
      refine g_vV (av := [vI (P 38 0)]) (o := 0) (st := []) (m_X12_writes G Pc800 (P 38 0) ⟨by have q0 := bl_38 (k := 0) hB; (clear hb; omega), by have q0 := bl_38 (k := 0) hB; (clear hb; omega)⟩ hBc800 (by have q0 := bl_38 (k := 0) hB; have q1 := b0_70 hBc800; (clear hb; omega)) _ (fun Pc802 hBc802 hFc802 gc802_o => ⟨rfl, ?_⟩)) cf_X12_writes t_1974 rfl (by decide) rfl rfl rfl (Nat.le_of_ble_eq_true rfl) (by decide) rfl dX12_image_60
      refine g_sipush dX12_image_63 (by decide) ?_
      refine g_istore_n (l1 := [(1, vI 199), (0, vR 0)]) dX12_image_66 (by decide) rfl ?_
      refine g_iconst dX12_image_67 ?_
      refine g_istore_n (l1 := [(2, vI 0), (1, vI 199), (0, vR 0)]) dX12_image_68 (by decide) rfl ?_
      have L69_802 : ∀ (n69_802 : Nat) (x69_2_802 : Int) (h_x69_2_802 : 0 ≤ x69_2_802 ∧ x69_2_802 ≤ 1800) (x69_1_802 : Int) (h_x69_1_802 : 0 ≤ x69_1_802 ∧ x69_1_802 ≤ 250) (hm69_802 : ((1801 - x69_2_802) : Int).toNat < n69_802), Go WSM G 2 iX12_image 69 [(0, vR 0), (1, vI x69_1_802), (2, vI x69_2_802)] [] Pc802 Q := by
        intro n69_802
        induction n69_802 with
        | zero => intro x69_2_802 h_x69_2_802 x69_1_802 h_x69_1_802 hm69_802; exact absurd hm69_802 (Nat.not_lt_zero _)
        | succ n69_802 ih69_802 =>
        intro x69_2_802 h_x69_2_802 x69_1_802 h_x69_1_802 hm69_802
        refine g_iload_n dX12_image_69 rfl ?_
        refine g_aload_n dX12_image_70 rfl ?_
        refine m_g70 (z := (Pc802 0 70)) rfl dX12_image_71 rfl ?_
        have f880 := b0_70 hBc802
        refine g_icmp_ge (tgt := 98) dX12_image_74 (by decide) ⟨by (clear hb; omega), by (clear hb; omega)⟩ ⟨by have q0 := b0_70 hBc802; (clear hb; omega), by have q0 := b0_70 hBc802; (clear hb; omega)⟩ (fun k881 => ?_) (fun k881 => ?_)
        · refine g_aload_n dX12_image_98 rfl ?_
          refine g_iload_n dX12_image_99 rfl ?_
          refine g_vV (av := [vI x69_1_802]) (o := 0) (st := []) (m_X12_writes G Pc802 x69_1_802 ⟨by (clear hb; omega), by (clear hb; omega)⟩ hBc802 (by have q0 := b0_70 hBc802; (clear hb; omega)) _ (fun Pc882 hBc882 hFc882 gc882_o => ⟨rfl, ?_⟩)) cf_X12_writes t_1974 rfl (by decide) rfl rfl rfl (Nat.le_of_ble_eq_true rfl) (by decide) rfl dX12_image_100
          refine g_aload_n dX12_image_103 rfl ?_
          refine m_g70 (z := (Pc882 0 70)) rfl dX12_image_104 rfl ?_
          exact g_retI dX12_image_107 rfl (hQ (Pc882 0 70) ⟨by have q0 := b0_70 hBc882; (clear hb; omega), by have q0 := b0_70 hBc882; (clear hb; omega)⟩ _ hBc882 (FrM.c (FrM.c (FrM.c (FrM.c (FrM.c (FrM.s FrM.rf rfl) hFc3 rfl) hE17_4 rfl) hFc800 rfl) hFc802 rfl) hFc882 rfl) (by have q0 := b0_70 hBc882; (omega)))
        · refine g_iconst dX12_image_77 ?_
          refine g_iload_n dX12_image_78 rfl ?_
          refine g_imul dX12_image_79 ?_
          refine g_aload_n dX12_image_80 rfl ?_
          refine m_g69 rfl dX12_image_81 ?_
          refine g_iload_n dX12_image_84 rfl ?_
          refine m_l46 (z := (Pc802 46 x69_2_802)) dX12_image_85 ⟨by (clear hb; omega), by (clear hb; omega)⟩ rfl ?_
          refine g_iadd dX12_image_86 ?_
          refine g_sipush dX12_image_87 (by decide) ?_
          refine g_irem dX12_image_90 ⟨(by decide), by decide⟩ ?_
          refine g_nm (fun b883 e_b883 => ?_)
          have h_b883 := irem_b (x := ((5 * x69_1_802) + (Pc802 46 x69_2_802))) (y := 251) ⟨by have q0 := bl_46 (k := x69_2_802) hBc802; (clear hb; omega), by have q0 := bl_46 (k := x69_2_802) hBc802; (clear hb; omega)⟩ ⟨by (clear hb; omega), by (clear hb; omega)⟩
          rw [← e_b883] at h_b883
          have f_b883_0 := bl_46 (k := x69_2_802) hBc802
          refine g_istore_n (l1 := [(1, vI b883), (0, vR 0), (2, vI x69_2_802)]) dX12_image_91 (by decide) rfl ?_
          refine g_iinc (l1 := [(2, vI (x69_2_802 + 1)), (1, vI b883), (0, vR 0)]) dX12_image_92 rfl (by decide) rfl ?_
          refine g_goto (tgt := 69) dX12_image_95 (by decide) ?_
          refine g_forget (l1 := [(0, vR 0), (1, vI b883), (2, vI (x69_2_802 + 1))]) (by intro q hq; simp only [List.mem_cons, List.not_mem_nil, or_false] at hq ⊢; rcases hq with rfl | rfl | rfl <;> simp) ?_
          exact ih69_802 (x69_2_802 + 1) ⟨by (clear hb; omega), by (clear hb; omega)⟩ b883 ⟨by (clear hb; omega), by (clear hb; omega)⟩ (by (clear hb; omega))
      refine g_forget (l1 := [(0, vR 0), (1, vI 199), (2, vI 0)]) (by intro q hq; simp only [List.mem_cons, List.not_mem_nil, or_false] at hq ⊢; rcases hq with rfl | rfl | rfl <;> simp) ?_
      exact L69_802 _ 0 (by decide) 199 (by decide) (Nat.lt_succ_self _)
    · refine g_aload_n dX12_image_27 rfl ?_
      refine g_aload_n dX12_image_28 rfl ?_
      refine m_g54 rfl dX12_image_29 ?_
      refine g_iload_n dX12_image_32 rfl ?_
      refine m_l36 (z := (P 36 x17_1_4)) dX12_image_33 ⟨by (clear hb; omega), by (clear hb; omega)⟩ ((congrFun (hE17_4.2 36 rfl rfl) _).trans ((congrFun (hFc3.2 36 rfl rfl) _).trans ((up_o (by decide)).trans rfl))) ?_
      have f884 := bl_36 (k := x17_1_4) hB
      refine g_vV (av := [vI (P 36 x17_1_4)]) (o := 0) (st := []) (m_X12_writes G H17_4 (P 36 x17_1_4) ⟨by have q0 := bl_36 (k := x17_1_4) hB; (clear hb; omega), by have q0 := bl_36 (k := x17_1_4) hB; (clear hb; omega)⟩ hB17_4 (by have q0 := bl_36 (k := x17_1_4) hB; have q1 := b0_70 hB17_4; (clear hb; omega)) _ (fun Pc885 hBc885 hFc885 gc885_o => ⟨rfl, ?_⟩)) cf_X12_writes t_1974 rfl (by decide) rfl rfl rfl (Nat.le_of_ble_eq_true rfl) (by decide) rfl dX12_image_34
      refine g_iinc (l1 := [(1, vI (x17_1_4 + 1)), (0, vR 0)]) dX12_image_37 rfl (by decide) rfl ?_
      refine g_goto (tgt := 17) dX12_image_40 (by decide) ?_
      refine g_forget (l1 := [(0, vR 0), (1, vI (x17_1_4 + 1))]) (by intro q hq; simp only [List.mem_cons, List.not_mem_nil, or_false] at hq ⊢; rcases hq with rfl | rfl <;> simp) ?_
      exact ih17_4 (x17_1_4 + 1) ⟨by (clear hb; omega), by (clear hb; omega)⟩ _ hBc885 (FrM.c (FrM.c FrM.rf hE17_4 rfl) hFc885 rfl) (by have q0 := b0_70 hBc885; (clear hb; omega)) (by (omega)) (by (clear hb; omega))
  refine g_forget (l1 := [(0, vR 0), (1, vI 0)]) (by intro q hq; simp only [List.mem_cons, List.not_mem_nil, or_false] at hq ⊢; rcases hq with rfl | rfl <;> simp) ?_
  exact L17_4 _ 0 (by decide) _ hBc3 FrM.rf (by have q0 := b0_70 hBc3; (clear hb; omega)) (by (omega)) (Nat.lt_succ_self _)
/-! What the reference answers: X12_isPlace. -/
set_option maxRecDepth 100000 in
set_option maxHeartbeats 4000000 in
theorem f_X12_isPlace (G : GT) (P : PH) (A : PH) (a1 : Int) (h_a1 : (-2147483648) ≤ a1 ∧ a1 ≤ 2147483647) (hB : BdM P) (p_im : P 0 44 = 1 ∨ A 0 0 ≤ 0) (z0 : AM A P) (Q : Option PV → PH → Prop) (hQ : ∀ (r : Int) (_ : 0 ≤ r ∧ r ≤ 1) (_ : r = 0 ∨ (P 0 44 ≠ 0 ∧ 0 ≤ a1 ∧ a1 < P 35 0)) (_ : (r = 1 ∧ 0 ≤ a1 ∧ a1 < A 0 0) ∨ (r = 0 ∧ (a1 < 0 ∨ A 0 0 ≤ a1))), Q (some (vI r)) P) : Ct WSM G 2 iX12_isPlace [vR 0, vI a1] P Q := by
  refine Ct.of (by decide) (l0 := [(0, vR 0), (1, vI a1)]) rfl (Nat.le_of_ble_eq_true rfl) ?_
  have hb := z0.b
  have q44 := b0_44 hB
  refine g_aload_n dX12_isPlace_0 rfl ?_
  refine m_g44 (z := (P 0 44)) rfl dX12_isPlace_1 rfl ?_
  have f1 := b0_44 hB
  refine g_if_eq (tgt := 27) dX12_isPlace_4 (by decide) ⟨by have q0 := b0_44 hB; (clear p_im hb; omega), by have q0 := b0_44 hB; (clear p_im hb; omega)⟩ (fun k2 => ?_) (fun k2 => ?_)
  · skip
    refine g_iconst dX12_isPlace_27 ?_
    exact g_retZ dX12_isPlace_28 rfl (by decide) (hQ 0 (by decide) (by have q0 := b0_44 hB; have q1 := bl_35 (k := 0) hB; (clear p_im hb k2; omega)) (by (omega)))
  · have k2n : 1 ≤ (P 0 44) := by have q0 := b0_44 hB; (clear p_im hb; omega)
    clear k2
    skip
    refine g_iload_n dX12_isPlace_7 rfl ?_
    refine g_iconst dX12_isPlace_8 ?_
    refine g_aload_n dX12_isPlace_9 rfl ?_
    refine m_g53 rfl dX12_isPlace_10 ?_
    refine g_iconst dX12_isPlace_13 ?_
    refine m_l35 (z := (P 35 0)) dX12_isPlace_14 (by decide) rfl ?_
    refine g_iconst dX12_isPlace_15 ?_
    refine g_isub dX12_isPlace_16 ?_
    have f3 := bl_35 (k := 0) hB
    refine g_sI (av := [vI a1, vI 0, vI ((P 35 0) - 1)]) (st := []) (m_X12_is G P a1 0 ((P 35 0) - 1) ⟨by (clear p_im hb; omega), by (clear p_im hb; omega)⟩ (by decide) ⟨by have q0 := bl_35 (k := 0) hB; (clear p_im hb; omega), by have q0 := bl_35 (k := 0) hB; (clear p_im hb; omega)⟩ hB  _ (fun rc4 hc4 gc4_is => ⟨rc4, rfl, ?_⟩)) cf_X12_is t_1800 rfl (Nat.le_of_ble_eq_true rfl) (by decide) rfl dX12_isPlace_17
    refine g_if_eq (tgt := 27) dX12_isPlace_20 (by decide) ⟨by (clear p_im hb gc4_is; omega), by (clear p_im hb gc4_is; omega)⟩ (fun k5 => ?_) (fun k5 => ?_)
    · skip
      skip
      refine g_iconst dX12_isPlace_27 ?_
      exact g_retZ dX12_isPlace_28 rfl (by decide) (hQ 0 (by decide) (by have q0 := b0_44 hB; have q1 := bl_35 (k := 0) hB; (clear p_im hb gc4_is k5; omega)) (by (omega)))
    · have k5n : 1 ≤ rc4 := by (clear p_im hb gc4_is; omega)
      clear k5
      have r_gc4_is := (gc4_is.resolve_right (by (clear p_im hb gc4_is; omega)))
      skip
      refine g_iconst dX12_isPlace_23 ?_
      refine g_goto (tgt := 28) dX12_isPlace_24 (by decide) ?_
      exact g_retZ dX12_isPlace_28 rfl (by decide) (hQ 1 (by decide) (by have q0 := b0_44 hB; have q1 := bl_35 (k := 0) hB; (clear p_im hb gc4_is; omega)) (by (clear p_im gc4_is; omega)))
/-! What the reference answers: X12_isRow. -/
set_option maxRecDepth 100000 in
set_option maxHeartbeats 4000000 in
theorem f_X12_isRow (G : GT) (P : PH) (M : PH) (a1 : Int) (h_a1 : (-2147483648) ≤ a1 ∧ a1 ≤ 2147483647) (hB : BdM P) (z0 : MH M P) (z1 : MR M P) (Q : Option PV → PH → Prop) (hQ : ∀ (r : Int) (_ : 0 ≤ r ∧ r ≤ 1) (_ : r = 0 ∨ (P 0 44 ≠ 0 ∧ 0 ≤ a1 ∧ a1 < P 0 52)) (_ : (r = 1 ∧ 0 < M 0 0 ∧ 0 ≤ a1 ∧ a1 < M 0 1) ∨ (r = 0 ∧ (M 0 0 ≤ 0 ∨ a1 < 0 ∨ M 0 1 ≤ a1))), Q (some (vI r)) P) : Ct WSM G 2 iX12_isRow [vR 0, vI a1] P Q := by
  refine Ct.of (by decide) (l0 := [(0, vR 0), (1, vI a1)]) rfl (Nat.le_of_ble_eq_true rfl) ?_
  have hmh := z0
  unfold MH at hmh
  have hmr := z1
  unfold MR at hmr
  have q44 := b0_44 hB
  have q52 := b0_52 hB
  refine g_aload_n dX12_isRow_0 rfl ?_
  refine m_g44 (z := (P 0 44)) rfl dX12_isRow_1 rfl ?_
  have f1 := b0_44 hB
  refine g_if_eq (tgt := 25) dX12_isRow_4 (by decide) ⟨by have q0 := b0_44 hB; (clear hmh hmr; omega), by have q0 := b0_44 hB; (clear hmh hmr; omega)⟩ (fun k2 => ?_) (fun k2 => ?_)
  · refine g_iconst dX12_isRow_25 ?_
    exact g_retZ dX12_isRow_26 rfl (by decide) (hQ 0 (by decide) (by have q0 := b0_44 hB; have q1 := b0_52 hB; (clear hmh hmr k2; omega)) (by (omega)))
  · have k2n : 1 ≤ (P 0 44) := by have q0 := b0_44 hB; (clear hmh hmr; omega)
    clear k2
    refine g_iload_n dX12_isRow_7 rfl ?_
    refine g_iconst dX12_isRow_8 ?_
    refine g_aload_n dX12_isRow_9 rfl ?_
    refine m_g52 (z := (P 0 52)) rfl dX12_isRow_10 rfl ?_
    refine g_iconst dX12_isRow_13 ?_
    refine g_isub dX12_isRow_14 ?_
    have f3 := b0_52 hB
    refine g_sI (av := [vI a1, vI 0, vI ((P 0 52) - 1)]) (st := []) (m_X12_is G P a1 0 ((P 0 52) - 1) ⟨by (clear hmh hmr; omega), by (clear hmh hmr; omega)⟩ (by decide) ⟨by have q0 := b0_52 hB; (clear hmh hmr; omega), by have q0 := b0_52 hB; (clear hmh hmr; omega)⟩ hB  _ (fun rc4 hc4 gc4_is => ⟨rc4, rfl, ?_⟩)) cf_X12_is t_1800 rfl (Nat.le_of_ble_eq_true rfl) (by decide) rfl dX12_isRow_15
    refine g_if_eq (tgt := 25) dX12_isRow_18 (by decide) ⟨by (clear hmh hmr gc4_is; omega), by (clear hmh hmr gc4_is; omega)⟩ (fun k5 => ?_) (fun k5 => ?_)
    · skip
      refine g_iconst dX12_isRow_25 ?_
      exact g_retZ dX12_isRow_26 rfl (by decide) (hQ 0 (by decide) (by have q0 := b0_44 hB; have q1 := b0_52 hB; (clear hmh hmr gc4_is k5; omega)) (by (omega)))
    · have k5n : 1 ≤ rc4 := by (clear hmh hmr gc4_is; omega)
      clear k5
      have r_gc4_is := (gc4_is.resolve_right (by (clear hmh hmr gc4_is; omega)))
      refine g_iconst dX12_isRow_21 ?_
      refine g_goto (tgt := 26) dX12_isRow_22 (by decide) ?_
      exact g_retZ dX12_isRow_26 rfl (by decide) (hQ 1 (by decide) (by have q0 := b0_44 hB; have q1 := b0_52 hB; (clear hmh hmr gc4_is; omega)) (by (omega)))
/-! What the reference answers: X12_lays. -/
set_option maxRecDepth 100000 in
set_option maxHeartbeats 4000000 in
theorem f_X12_lays (G : GT) (P : PH) (hB : BdM P) (p_pr : prdU P (P 0 13) (P 11 (P 0 13)).toNat ≤ 20000) (v_ZT : ZT P) (v_ZS : ZS P) (v_ZC : ZC P) (v_okC : okC P) (Q : Option PV → PH → Prop) (hQ : ∀ (P1 : PH) (_ : BdM P1) (_ : FrM ([52], [29, 30, 31, 32, 33, 34]) P P1) (_ : 1 ≤ P1 0 52) (_ : P1 0 52 = prdU P (P 0 13) (P 11 (P 0 13)).toNat), Q none P1) : Ct WSM G 4 iX12_lays [vR 0] P Q := by
  refine Ct.of (by decide) (l0 := [(0, vR 0)]) rfl (Nat.le_of_ble_eq_true rfl) ?_
  have q11 := bl_11 (k := P 0 13) hB
  refine g_aload_n dX12_lays_0 rfl ?_
  refine g_iconst dX12_lays_1 ?_
  refine m_p52 rfl dX12_lays_2 ?_
  have hB1 := bs_52 (z := 1) hB (by decide)
  refine g_iconst dX12_lays_5 ?_
  refine g_istore_n (l1 := [(1, vI 0), (0, vR 0)]) dX12_lays_6 (by decide) rfl ?_
  have L7_1 : ∀ (n7_1 : Nat) (x7_1_1 : Int) (h_x7_1_1 : 0 ≤ x7_1_1 ∧ x7_1_1 ≤ 4) (H7_1 : PH) (hB7_1 : BdM H7_1) (hE7_1 : FrM ([52], [29, 30, 31, 32, 33, 34]) (up P 0 52 1) H7_1) (i7_0_1 : H7_1 0 52 = prdU P (P 0 13) (x7_1_1).toNat) (i7_1_1 : 1 ≤ H7_1 0 52) (i7_2_1 : x7_1_1 ≤ P 11 (P 0 13)) (hm7_1 : ((5 - x7_1_1) : Int).toNat < n7_1), Go WSM G 4 iX12_lays 7 [(0, vR 0), (1, vI x7_1_1)] [] H7_1 Q := by
    intro n7_1
    induction n7_1 with
    | zero => intro x7_1_1 h_x7_1_1 H7_1 hB7_1 hE7_1 i7_0_1 i7_1_1 i7_2_1 hm7_1; exact absurd hm7_1 (Nat.not_lt_zero _)
    | succ n7_1 ih7_1 =>
    intro x7_1_1 h_x7_1_1 H7_1 hB7_1 hE7_1 i7_0_1 i7_1_1 i7_2_1 hm7_1
    refine g_iload_n dX12_lays_7 rfl ?_
    refine g_aload_n dX12_lays_8 rfl ?_
    refine g_vI (av := []) (o := 0) (st := [vI x7_1_1]) (m_X12_columns G H7_1  hB7_1  _ (fun rc8419 hc8419 gc8419_c => ⟨rc8419, rfl, ?_⟩)) cf_X12_columns t_1827 rfl (by decide) rfl rfl rfl (Nat.le_of_ble_eq_true rfl) (by decide) rfl dX12_lays_9
    have z8420 : H7_1 0 13 = (P 0 13) := ((hE7_1.1 13 rfl).trans ((up_k (by decide)).trans rfl))
    have hcl : rc8419 = P 11 (P 0 13) := by have q := gc8419_c; rw [show H7_1 0 13 = _ from ((hE7_1.1 13 rfl).trans ((up_k (by decide)).trans rfl)), show H7_1 11 (P 0 13) = _ from ((congrFun (hE7_1.2 11 rfl rfl) _).trans ((up_o (by decide)).trans rfl))] at q; exact q
    refine g_icmp_ge (tgt := 196) dX12_lays_12 (by decide) ⟨by omega, by omega⟩ ⟨by omega, by omega⟩ (fun k8421 => ?_) (fun k8421 => ?_)
    · exact g_retV dX12_lays_196 rfl (hQ _ hB7_1 (FrM.c (FrM.s FrM.rf rfl) hE7_1 rfl) (by have q0 := b0_52 hB7_1; omega) (by have q := i7_0_1; rw [show P 11 (P 0 13) = x7_1_1 by omega]; exact q))
    · refine g_iconst dX12_lays_15 ?_
      refine g_istore_n (l1 := [(2, vI 0), (0, vR 0), (1, vI x7_1_1)]) dX12_lays_16 (by decide) rfl ?_
      have L17_8421 : ∀ (n17_8421 : Nat) (x17_2_8421 : Int) (h_x17_2_8421 : 0 ≤ x17_2_8421 ∧ x17_2_8421 ≤ 4096) (H17_8421 : PH) (hB17_8421 : BdM H17_8421) (hE17_8421 : FrM ([], [34]) H7_1 H17_8421) (hm17_8421 : ((4097 - x17_2_8421) : Int).toNat < n17_8421), Go WSM G 4 iX12_lays 17 [(0, vR 0), (1, vI x7_1_1), (2, vI x17_2_8421)] [] H17_8421 Q := by
        intro n17_8421
        induction n17_8421 with
        | zero => intro x17_2_8421 h_x17_2_8421 H17_8421 hB17_8421 hE17_8421 hm17_8421; exact absurd hm17_8421 (Nat.not_lt_zero _)
        | succ n17_8421 ih17_8421 =>
        intro x17_2_8421 h_x17_2_8421 H17_8421 hB17_8421 hE17_8421 hm17_8421
        refine g_iload_n dX12_lays_17 rfl ?_
        refine g_sipush dX12_lays_18 (by decide) ?_
        refine g_icmp_ge (tgt := 37) dX12_lays_21 (by decide) ⟨by omega, by omega⟩ (by decide) (fun k10008 => ?_) (fun k10008 => ?_)
        · refine g_aload_n dX12_lays_37 rfl ?_
          refine m_g50 rfl dX12_lays_38 ?_
          refine g_iload_n dX12_lays_41 rfl ?_
          refine g_iconst dX12_lays_42 ?_
          refine m_s33 dX12_lays_43 ⟨by omega, by omega⟩ ?_
          have hB10009 := ba_33 (z := 0) (k := x7_1_1) hB17_8421 (by decide)
          refine g_iconst dX12_lays_44 ?_
          refine g_istore_n (l1 := [(2, vI 0), (0, vR 0), (1, vI x7_1_1)]) dX12_lays_45 (by decide) rfl ?_
          have L46_10009 : ∀ (n46_10009 : Nat) (x46_2_10009 : Int) (h_x46_2_10009 : 0 ≤ x46_2_10009 ∧ x46_2_10009 ≤ 2006) (H46_10009 : PH) (hB46_10009 : BdM H46_10009) (hE46_10009 : FrM ([], [29, 30, 31, 32, 33, 34]) (up H17_8421 33 x7_1_1 0) H46_10009) (i46_0_10009 : H46_10009 33 x7_1_1 ≤ x46_2_10009) (hm46_10009 : ((2007 - x46_2_10009) : Int).toNat < n46_10009), Go WSM G 4 iX12_lays 46 [(0, vR 0), (1, vI x7_1_1), (2, vI x46_2_10009)] [] H46_10009 Q := by
            intro n46_10009
            induction n46_10009 with
            | zero => intro x46_2_10009 h_x46_2_10009 H46_10009 hB46_10009 hE46_10009 i46_0_10009 hm46_10009; exact absurd hm46_10009 (Nat.not_lt_zero _)
            | succ n46_10009 ih46_10009 =>
            intro x46_2_10009 h_x46_2_10009 H46_10009 hB46_10009 hE46_10009 i46_0_10009 hm46_10009
            refine g_iload_n dX12_lays_46 rfl ?_
            refine g_aload_n dX12_lays_47 rfl ?_
            refine g_iload_n dX12_lays_48 rfl ?_
            refine g_vI (av := [vI x7_1_1]) (o := 0) (st := [vI x46_2_10009]) (m_X12_columnValues G H46_10009 x7_1_1 ⟨by omega, by omega⟩ hB46_10009 (by have q0 := (((congrFun (hE46_10009.2 11 rfl rfl) _).trans ((up_o (by decide)).trans ((congrFun (hE17_8421.2 11 rfl rfl) _).trans ((congrFun (hE7_1.2 11 rfl rfl) _).trans ((up_o (by decide)).trans rfl))))) : H46_10009 11 (H46_10009 0 13) = (P 11 (H46_10009 0 13))); have q1 := bl_11 (k := (H46_10009 0 13)) hB; have q2 := ((congrArg (H46_10009 11) ((hE46_10009.1 13 rfl).trans ((up_o (by decide)).trans ((hE17_8421.1 13 rfl).trans ((hE7_1.1 13 rfl).trans ((up_k (by decide)).trans rfl)))))).trans ((congrFun (hE46_10009.2 11 rfl rfl) _).trans ((up_o (by decide)).trans ((congrFun (hE17_8421.2 11 rfl rfl) _).trans ((congrFun (hE7_1.2 11 rfl rfl) _).trans ((up_o (by decide)).trans rfl))))) : H46_10009 11 (H46_10009 0 13) = (P 11 (P 0 13))); have q3 := bl_11 (k := (P 0 13)) hB; omega) (okC.fr (F := ([52], [29, 30, 31, 32, 33, 34])) v_okC (FrM.c (FrM.a (FrM.c (FrM.c (FrM.s FrM.rf rfl) hE7_1 rfl) hE17_8421 rfl) rfl rfl) hE46_10009 rfl) rfl) _ (fun rc10419 hc10419 gc10419_v => ⟨rc10419, rfl, ?_⟩)) cf_X12_columnValues t_1831 rfl (by decide) rfl rfl rfl (Nat.le_of_ble_eq_true rfl) (by decide) rfl dX12_lays_49
            have z10420 : H46_10009 0 13 = (P 0 13) := ((hE46_10009.1 13 rfl).trans ((up_o (by decide)).trans ((hE17_8421.1 13 rfl).trans ((hE7_1.1 13 rfl).trans ((up_k (by decide)).trans rfl)))))
            refine g_icmp_ge (tgt := 176) dX12_lays_52 (by decide) ⟨by omega, by omega⟩ ⟨by omega, by omega⟩ (fun k10421 => ?_) (fun k10421 => ?_)
            · refine g_aload_n dX12_lays_176 rfl ?_
              refine g_dup dX12_lays_177 rfl ?_
              have hpl := prdU_lt v_ZC (b := P 0 13) (c := x7_1_1) (b0_13 hB) ⟨by omega, by omega⟩ p_pr
              refine m_g52 (z := (H7_1 0 52)) rfl dX12_lays_178 ((hE46_10009.1 52 rfl).trans ((up_o (by decide)).trans ((hE17_8421.1 52 rfl).trans rfl))) ?_
              refine g_aload_n dX12_lays_181 rfl ?_
              refine g_iload_n dX12_lays_182 rfl ?_
              refine g_vI (av := [vI x7_1_1]) (o := 0) (st := [vI (H7_1 0 52), vR 0]) (m_X12_columnValues G H46_10009 x7_1_1 ⟨by omega, by omega⟩ hB46_10009 (by have q0 := (((congrFun (hE46_10009.2 11 rfl rfl) _).trans ((up_o (by decide)).trans ((congrFun (hE17_8421.2 11 rfl rfl) _).trans ((congrFun (hE7_1.2 11 rfl rfl) _).trans ((up_o (by decide)).trans rfl))))) : H46_10009 11 (H46_10009 0 13) = (P 11 (H46_10009 0 13))); have q1 := bl_11 (k := (H46_10009 0 13)) hB; have q2 := ((congrArg (H46_10009 11) ((hE46_10009.1 13 rfl).trans ((up_o (by decide)).trans ((hE17_8421.1 13 rfl).trans ((hE7_1.1 13 rfl).trans ((up_k (by decide)).trans rfl)))))).trans ((congrFun (hE46_10009.2 11 rfl rfl) _).trans ((up_o (by decide)).trans ((congrFun (hE17_8421.2 11 rfl rfl) _).trans ((congrFun (hE7_1.2 11 rfl rfl) _).trans ((up_o (by decide)).trans rfl))))) : H46_10009 11 (H46_10009 0 13) = (P 11 (P 0 13))); have q3 := bl_11 (k := (P 0 13)) hB; omega) (okC.fr (F := ([52], [29, 30, 31, 32, 33, 34])) v_okC (FrM.c (FrM.a (FrM.c (FrM.c (FrM.s FrM.rf rfl) hE7_1 rfl) hE17_8421 rfl) rfl rfl) hE46_10009 rfl) rfl) _ (fun rc10422 hc10422 gc10422_v => ⟨rc10422, rfl, ?_⟩)) cf_X12_columnValues t_1831 rfl (by decide) rfl rfl rfl (Nat.le_of_ble_eq_true rfl) (by decide) rfl dX12_lays_183
              have z10423 : H46_10009 0 13 = (P 0 13) := ((hE46_10009.1 13 rfl).trans ((up_o (by decide)).trans ((hE17_8421.1 13 rfl).trans ((hE7_1.1 13 rfl).trans ((up_k (by decide)).trans rfl)))))
              have hcv : rc10422 = vals P (P 0 13) (P 12 (4 * P 0 13 + x7_1_1)) := by have q := gc10422_v; rw [show H46_10009 0 13 = _ from ((hE46_10009.1 13 rfl).trans ((up_o (by decide)).trans ((hE17_8421.1 13 rfl).trans ((hE7_1.1 13 rfl).trans ((up_k (by decide)).trans rfl))))), show H46_10009 12 (4 * P 0 13 + x7_1_1) = _ from ((congrFun (hE46_10009.2 12 rfl rfl) _).trans ((up_o (by decide)).trans ((congrFun (hE17_8421.2 12 rfl rfl) _).trans ((congrFun (hE7_1.2 12 rfl rfl) _).trans ((up_o (by decide)).trans rfl))))), vals_eq (P := P) (fun _ => ((congrFun (hE46_10009.2 3 rfl rfl) _).trans ((up_o (by decide)).trans ((congrFun (hE17_8421.2 3 rfl rfl) _).trans ((congrFun (hE7_1.2 3 rfl rfl) _).trans ((up_o (by decide)).trans rfl))))))] at q; exact q
              refine g_imul dX12_lays_186 ?_
              refine g_nm (fun w10424 e_w10424 => ?_)
              have hrm8 : w10424 = prdU P (P 0 13) (x7_1_1 + 1).toNat := by rw [e_w10424, hpl.1, ← hcv]; congr 1
              have hrm7 : 1 ≤ w10424 ∧ w10424 ≤ 20000 := by rw [hrm8]; exact hpl.2
              refine m_p52 rfl dX12_lays_187 ?_
              have hB10425 := bs_52 (z := w10424) hB46_10009 ⟨by omega, by omega⟩
              refine g_iinc (l1 := [(1, vI (x7_1_1 + 1)), (0, vR 0), (2, vI x46_2_10009)]) dX12_lays_190 rfl (by decide) rfl ?_
              refine g_goto (tgt := 7) dX12_lays_193 (by decide) ?_
              refine g_forget (l1 := [(0, vR 0), (1, vI (x7_1_1 + 1))]) (by intro q hq; simp only [List.mem_cons, List.not_mem_nil, or_false] at hq ⊢; rcases hq with rfl | rfl <;> simp) ?_
              exact ih7_1 (x7_1_1 + 1) ⟨by omega, by omega⟩ _ hB10425 (FrM.s (FrM.c (FrM.a (FrM.c (FrM.c FrM.rf hE7_1 rfl) hE17_8421 rfl) rfl rfl) hE46_10009 rfl) rfl) (by first | exact (up_same).trans hrm8 | exact up_same) (by have q0 := (up_same : (up H46_10009 0 52 w10424) 0 52 = w10424); omega) (by omega) (by omega)
            · refine g_iconst dX12_lays_55 ?_
              refine g_istore_n (l1 := [(3, vI 0), (0, vR 0), (1, vI x7_1_1), (2, vI x46_2_10009)]) dX12_lays_56 (by decide) rfl ?_
              refine g_iconst dX12_lays_57 ?_
              refine g_istore (l1 := [(4, vI 0), (3, vI 0), (0, vR 0), (1, vI x7_1_1), (2, vI x46_2_10009)]) dX12_lays_58 (by decide) rfl ?_
              have L60_10425 : ∀ (n60_10425 : Nat) (x60_4_10425 : Int) (h_x60_4_10425 : 0 ≤ x60_4_10425 ∧ x60_4_10425 ≤ 12) (x60_3_10425 : Int) (h_x60_3_10425 : 0 ≤ x60_3_10425 ∧ x60_3_10425 ≤ 4095) (H60_10425 : PH) (hB60_10425 : BdM H60_10425) (hE60_10425 : FrM ([], [29, 30]) H46_10009 H60_10425) (hm60_10425 : ((13 - x60_4_10425) : Int).toNat < n60_10425), Go WSM G 4 iX12_lays 60 [(0, vR 0), (1, vI x7_1_1), (2, vI x46_2_10009), (3, vI x60_3_10425), (4, vI x60_4_10425)] [] H60_10425 Q := by
                intro n60_10425
                induction n60_10425 with
                | zero => intro x60_4_10425 h_x60_4_10425 x60_3_10425 h_x60_3_10425 H60_10425 hB60_10425 hE60_10425 hm60_10425; exact absurd hm60_10425 (Nat.not_lt_zero _)
                | succ n60_10425 ih60_10425 =>
                intro x60_4_10425 h_x60_4_10425 x60_3_10425 h_x60_3_10425 H60_10425 hB60_10425 hE60_10425 hm60_10425
                refine g_iload dX12_lays_60 rfl ?_
                refine g_aload_n dX12_lays_62 rfl ?_
                refine m_g25 rfl dX12_lays_63 ?_
                refine g_aload_n dX12_lays_66 rfl ?_
                refine m_g13 (z := (P 0 13)) rfl dX12_lays_67 ((hE60_10425.1 13 rfl).trans ((hE46_10009.1 13 rfl).trans ((up_o (by decide)).trans ((hE17_8421.1 13 rfl).trans ((hE7_1.1 13 rfl).trans ((up_k (by decide)).trans rfl)))))) ?_
                refine m_l13 (z := (P 13 (P 0 13))) dX12_lays_70 ⟨by have q0 := b0_13 hB; omega, by have q0 := b0_13 hB; omega⟩ ((congrFun (hE60_10425.2 13 rfl rfl) _).trans ((congrFun (hE46_10009.2 13 rfl rfl) _).trans ((up_o (by decide)).trans ((congrFun (hE17_8421.2 13 rfl rfl) _).trans ((congrFun (hE7_1.2 13 rfl rfl) _).trans ((up_o (by decide)).trans rfl)))))) ?_
                have f10503 := bl_13 (k := (P 0 13)) hB
                refine g_icmp_ge (tgt := 102) dX12_lays_71 (by decide) ⟨by omega, by omega⟩ ⟨by have q0 := bl_13 (k := (P 0 13)) hB; omega, by have q0 := bl_13 (k := (P 0 13)) hB; omega⟩ (fun k10504 => ?_) (fun k10504 => ?_)
                · refine g_aload_n dX12_lays_102 rfl ?_
                  refine m_g51 rfl dX12_lays_103 ?_
                  refine g_iload_n dX12_lays_106 rfl ?_
                  refine m_l34 (z := (H46_10009 34 x60_3_10425)) dX12_lays_107 ⟨by omega, by omega⟩ ((congrFun (hE60_10425.2 34 rfl rfl) _).trans rfl) ?_
                  refine g_iconst dX12_lays_108 ?_
                  have f10505 := bl_34 (k := x60_3_10425) hB46_10009
                  have J152_10510 : ∀ (H152_10510 : PH) (hB152_10510 : BdM H152_10510) (hE152_10510 : FrM ([], [32, 33, 34]) H60_10425 H152_10510) (i152_0_10510 : 0 ≤ H152_10510 34 x60_3_10425) (i152_1_10510 : H152_10510 33 x7_1_1 ≤ x46_2_10009 + 1), Go WSM G 4 iX12_lays 152 [(0, vR 0), (1, vI x7_1_1), (2, vI x46_2_10009), (3, vI x60_3_10425)] [] H152_10510 Q := by
                    intro H152_10510 hB152_10510 hE152_10510 i152_0_10510 i152_1_10510
                    refine g_aload_n dX12_lays_152 rfl ?_
                    refine m_g48 rfl dX12_lays_153 ?_
                    refine g_sipush dX12_lays_156 (by decide) ?_
                    refine g_iload_n dX12_lays_159 rfl ?_
                    refine g_imul dX12_lays_160 ?_
                    refine g_iload_n dX12_lays_161 rfl ?_
                    refine g_iadd dX12_lays_162 ?_
                    refine g_aload_n dX12_lays_163 rfl ?_
                    refine m_g51 rfl dX12_lays_164 ?_
                    refine g_iload_n dX12_lays_167 rfl ?_
                    refine m_l34 (z := (H152_10510 34 x60_3_10425)) dX12_lays_168 ⟨by omega, by omega⟩ rfl ?_
                    refine m_s31 dX12_lays_169 ⟨by omega, by omega⟩ ?_
                    have hB10512 := ba_31 (z := (H152_10510 34 x60_3_10425)) (k := ((2010 * x7_1_1) + x46_2_10009)) hB152_10510 ⟨by have q0 := bl_34 (k := x60_3_10425) hB152_10510; omega, by have q0 := bl_34 (k := x60_3_10425) hB152_10510; omega⟩
                    refine g_iinc (l1 := [(2, vI (x46_2_10009 + 1)), (0, vR 0), (1, vI x7_1_1), (3, vI x60_3_10425)]) dX12_lays_170 rfl (by decide) rfl ?_
                    refine g_goto (tgt := 46) dX12_lays_173 (by decide) ?_
                    refine g_forget (l1 := [(0, vR 0), (1, vI x7_1_1), (2, vI (x46_2_10009 + 1))]) (by intro q hq; simp only [List.mem_cons, List.not_mem_nil, or_false] at hq ⊢; rcases hq with rfl | rfl | rfl <;> simp) ?_
                    exact ih46_10009 (x46_2_10009 + 1) ⟨by omega, by omega⟩ _ hB10512 (FrM.a (FrM.c (FrM.c (FrM.c FrM.rf hE46_10009 rfl) hE60_10425 rfl) hE152_10510 rfl) rfl rfl) (by have q0 := (((up_o (by decide)).trans rfl) : (up H152_10510 31 ((2010 * x7_1_1) + x46_2_10009) (H152_10510 34 x60_3_10425)) 33 x7_1_1 = (H152_10510 33 x7_1_1)); have q1 := bl_33 (k := x7_1_1) hB152_10510; omega) (by omega)
                  refine g_icmp_ne (tgt := 152) dX12_lays_109 (by decide) ⟨by have q0 := bl_34 (k := x60_3_10425) hB46_10009; omega, by have q0 := bl_34 (k := x60_3_10425) hB46_10009; omega⟩ (by decide) (fun k10513 => ?_) (fun k10513 => ?_)
                  · have k10513n : 0 ≤ (H46_10009 34 x60_3_10425) := by have q0 := bl_34 (k := x60_3_10425) hB46_10009; omega
                    clear k10513
                    refine g_forget (l1 := [(0, vR 0), (1, vI x7_1_1), (2, vI x46_2_10009), (3, vI x60_3_10425)]) (by intro q hq; simp only [List.mem_cons, List.not_mem_nil, or_false] at hq ⊢; rcases hq with rfl | rfl | rfl | rfl <;> simp) ?_
                    exact J152_10510 _ hB60_10425 FrM.rf (by have q0 := (((congrFun (hE60_10425.2 34 rfl rfl) _).trans rfl) : H60_10425 34 x60_3_10425 = (H46_10009 34 x60_3_10425)); have q1 := bl_34 (k := x60_3_10425) hB46_10009; omega) (by have q0 := (((congrFun (hE60_10425.2 33 rfl rfl) _).trans rfl) : H60_10425 33 x7_1_1 = (H46_10009 33 x7_1_1)); have q1 := bl_33 (k := x7_1_1) hB46_10009; omega)
                  · refine g_aload_n dX12_lays_112 rfl ?_
                    refine m_g51 rfl dX12_lays_113 ?_
                    refine g_iload_n dX12_lays_116 rfl ?_
                    refine g_aload_n dX12_lays_117 rfl ?_
                    refine m_g50 rfl dX12_lays_118 ?_
                    refine g_iload_n dX12_lays_121 rfl ?_
                    refine m_l33 (z := (H46_10009 33 x7_1_1)) dX12_lays_122 ⟨by omega, by omega⟩ ((congrFun (hE60_10425.2 33 rfl rfl) _).trans rfl) ?_
                    refine m_s34 dX12_lays_123 ⟨by omega, by omega⟩ ?_
                    have hB10514 := ba_34 (z := (H46_10009 33 x7_1_1)) (k := x60_3_10425) hB60_10425 ⟨by have q0 := bl_33 (k := x7_1_1) hB46_10009; omega, by have q0 := bl_33 (k := x7_1_1) hB46_10009; omega⟩
                    refine g_aload_n dX12_lays_124 rfl ?_
                    refine m_g49 rfl dX12_lays_125 ?_
                    refine g_sipush dX12_lays_128 (by decide) ?_
                    refine g_iload_n dX12_lays_131 rfl ?_
                    refine g_imul dX12_lays_132 ?_
                    refine g_aload_n dX12_lays_133 rfl ?_
                    refine m_g50 rfl dX12_lays_134 ?_
                    refine g_iload_n dX12_lays_137 rfl ?_
                    refine m_l33 (z := (H46_10009 33 x7_1_1)) dX12_lays_138 ⟨by omega, by omega⟩ ((up_o (by decide)).trans ((congrFun (hE60_10425.2 33 rfl rfl) _).trans rfl)) ?_
                    refine g_iadd dX12_lays_139 ?_
                    refine g_iload_n dX12_lays_140 rfl ?_
                    refine m_s32 dX12_lays_141 ⟨by have q0 := bl_33 (k := x7_1_1) hB46_10009; omega, by have q0 := bl_33 (k := x7_1_1) hB46_10009; omega⟩ ?_
                    have hB10515 := ba_32 (z := x60_3_10425) (k := ((2010 * x7_1_1) + (H46_10009 33 x7_1_1))) hB10514 ⟨by omega, by omega⟩
                    refine g_aload_n dX12_lays_142 rfl ?_
                    refine m_g50 rfl dX12_lays_143 ?_
                    refine g_iload_n dX12_lays_146 rfl ?_
                    refine g_dup2 dX12_lays_147 rfl rfl ?_
                    refine m_l33 (z := (H46_10009 33 x7_1_1)) dX12_lays_148 ⟨by omega, by omega⟩ ((up_o (by decide)).trans ((up_o (by decide)).trans ((congrFun (hE60_10425.2 33 rfl rfl) _).trans rfl))) ?_
                    refine g_iconst dX12_lays_149 ?_
                    refine g_iadd dX12_lays_150 ?_
                    refine m_s33 dX12_lays_151 ⟨by omega, by omega⟩ ?_
                    have hB10516 := ba_33 (z := ((H46_10009 33 x7_1_1) + 1)) (k := x7_1_1) hB10515 ⟨by have q0 := bl_33 (k := x7_1_1) hB46_10009; omega, by have q0 := bl_33 (k := x7_1_1) hB46_10009; omega⟩
                    refine g_forget (l1 := [(0, vR 0), (1, vI x7_1_1), (2, vI x46_2_10009), (3, vI x60_3_10425)]) (by intro q hq; simp only [List.mem_cons, List.not_mem_nil, or_false] at hq ⊢; rcases hq with rfl | rfl | rfl | rfl <;> simp) ?_
                    exact J152_10510 _ hB10516 (FrM.a (FrM.a (FrM.a FrM.rf rfl rfl) rfl rfl) rfl rfl) (by have q0 := (((up_o (by decide)).trans ((up_o (by decide)).trans up_same)) : (up (up (up H60_10425 34 x60_3_10425 (H46_10009 33 x7_1_1)) 32 ((2010 * x7_1_1) + (H46_10009 33 x7_1_1)) x60_3_10425) 33 x7_1_1 ((H46_10009 33 x7_1_1) + 1)) 34 x60_3_10425 = (H46_10009 33 x7_1_1)); have q1 := bl_33 (k := x7_1_1) hB46_10009; omega) (by have q0 := (up_same : (up (up (up H60_10425 34 x60_3_10425 (H46_10009 33 x7_1_1)) 32 ((2010 * x7_1_1) + (H46_10009 33 x7_1_1)) x60_3_10425) 33 x7_1_1 ((H46_10009 33 x7_1_1) + 1)) 33 x7_1_1 = ((H46_10009 33 x7_1_1) + 1)); have q1 := bl_33 (k := x7_1_1) hB46_10009; omega)
                · refine g_iload_n dX12_lays_74 rfl ?_
                  refine g_aload_n dX12_lays_75 rfl ?_
                  refine g_iload dX12_lays_76 rfl ?_
                  refine g_iload_n dX12_lays_78 rfl ?_
                  refine g_iload_n dX12_lays_79 rfl ?_
                  refine g_vI (av := [vI x60_4_10425, vI x7_1_1, vI x46_2_10009]) (o := 0) (st := [vI x60_3_10425]) (m_X12_isFitting G H60_10425 x60_4_10425 x7_1_1 x46_2_10009 ⟨by omega, by omega⟩ ⟨by omega, by omega⟩ ⟨by omega, by omega⟩ hB60_10425 (by have q0 := (((congrFun (hE60_10425.2 13 rfl rfl) _).trans ((congrFun (hE46_10009.2 13 rfl rfl) _).trans ((up_o (by decide)).trans ((congrFun (hE17_8421.2 13 rfl rfl) _).trans ((congrFun (hE7_1.2 13 rfl rfl) _).trans ((up_o (by decide)).trans rfl)))))) : H60_10425 13 (H60_10425 0 13) = (P 13 (H60_10425 0 13))); have q1 := bl_13 (k := (H60_10425 0 13)) hB; have q2 := ((congrArg (H60_10425 13) ((hE60_10425.1 13 rfl).trans ((hE46_10009.1 13 rfl).trans ((up_o (by decide)).trans ((hE17_8421.1 13 rfl).trans ((hE7_1.1 13 rfl).trans ((up_k (by decide)).trans rfl))))))).trans ((congrFun (hE60_10425.2 13 rfl rfl) _).trans ((congrFun (hE46_10009.2 13 rfl rfl) _).trans ((up_o (by decide)).trans ((congrFun (hE17_8421.2 13 rfl rfl) _).trans ((congrFun (hE7_1.2 13 rfl rfl) _).trans ((up_o (by decide)).trans rfl)))))) : H60_10425 13 (H60_10425 0 13) = (P 13 (P 0 13))); have q3 := bl_13 (k := (P 0 13)) hB; omega) (by have q0 := (((congrFun (hE60_10425.2 11 rfl rfl) _).trans ((congrFun (hE46_10009.2 11 rfl rfl) _).trans ((up_o (by decide)).trans ((congrFun (hE17_8421.2 11 rfl rfl) _).trans ((congrFun (hE7_1.2 11 rfl rfl) _).trans ((up_o (by decide)).trans rfl)))))) : H60_10425 11 (H60_10425 0 13) = (P 11 (H60_10425 0 13))); have q1 := bl_11 (k := (H60_10425 0 13)) hB; have q2 := ((congrArg (H60_10425 11) ((hE60_10425.1 13 rfl).trans ((hE46_10009.1 13 rfl).trans ((up_o (by decide)).trans ((hE17_8421.1 13 rfl).trans ((hE7_1.1 13 rfl).trans ((up_k (by decide)).trans rfl))))))).trans ((congrFun (hE60_10425.2 11 rfl rfl) _).trans ((congrFun (hE46_10009.2 11 rfl rfl) _).trans ((up_o (by decide)).trans ((congrFun (hE17_8421.2 11 rfl rfl) _).trans ((congrFun (hE7_1.2 11 rfl rfl) _).trans ((up_o (by decide)).trans rfl)))))) : H60_10425 11 (H60_10425 0 13) = (P 11 (P 0 13))); have q3 := bl_11 (k := (P 0 13)) hB; omega) (ZT.fr (F := ([52], [29, 30, 31, 32, 33, 34])) v_ZT (FrM.c (FrM.c (FrM.a (FrM.c (FrM.c (FrM.s FrM.rf rfl) hE7_1 rfl) hE17_8421 rfl) rfl rfl) hE46_10009 rfl) hE60_10425 rfl) rfl) (ZS.fr (F := ([52], [29, 30, 31, 32, 33, 34])) v_ZS (FrM.c (FrM.c (FrM.a (FrM.c (FrM.c (FrM.s FrM.rf rfl) hE7_1 rfl) hE17_8421 rfl) rfl rfl) hE46_10009 rfl) hE60_10425 rfl) rfl) _ (fun rc10517 hc10517 Pc10517 hBc10517 hFc10517 => ⟨rc10517, rfl, ?_⟩)) cf_X12_isFitting t_1835 rfl (by decide) rfl rfl rfl (Nat.le_of_ble_eq_true rfl) (by decide) rfl dX12_lays_80
                  refine g_if_eq (tgt := 93) dX12_lays_83 (by decide) ⟨by omega, by omega⟩ (fun k10518 => ?_) (fun k10518 => ?_)
                  · refine g_iconst dX12_lays_93 ?_
                    refine g_ior dX12_lays_94 ?_
                    refine g_nm (fun b10519 e_b10519 => ?_)
                    have h_b10519 : 0 ≤ (ior x60_3_10425 0) ∧ (ior x60_3_10425 0) < 4096 := ior_b 12 (by decide) (x := x60_3_10425) (y := 0) (show 0 ≤ x60_3_10425 ∧ x60_3_10425 < 4096 from ⟨by omega, by omega⟩) (show 0 ≤ 0 ∧ 0 < 4096 from ⟨by omega, by omega⟩)
                    rw [← e_b10519] at h_b10519
                    refine g_istore_n (l1 := [(3, vI b10519), (0, vR 0), (1, vI x7_1_1), (2, vI x46_2_10009), (4, vI x60_4_10425)]) dX12_lays_95 (by decide) rfl ?_
                    refine g_iinc (l1 := [(4, vI (x60_4_10425 + 1)), (3, vI b10519), (0, vR 0), (1, vI x7_1_1), (2, vI x46_2_10009)]) dX12_lays_96 rfl (by decide) rfl ?_
                    refine g_goto (tgt := 60) dX12_lays_99 (by decide) ?_
                    refine g_forget (l1 := [(0, vR 0), (1, vI x7_1_1), (2, vI x46_2_10009), (3, vI b10519), (4, vI (x60_4_10425 + 1))]) (by intro q hq; simp only [List.mem_cons, List.not_mem_nil, or_false] at hq ⊢; rcases hq with rfl | rfl | rfl | rfl | rfl <;> simp) ?_
                    exact ih60_10425 (x60_4_10425 + 1) ⟨by omega, by omega⟩ b10519 ⟨by omega, by omega⟩ _ hBc10517 (FrM.c (FrM.c FrM.rf hE60_10425 rfl) hFc10517 rfl) (by omega)
                  · have k10518n : 1 ≤ rc10517 := by omega
                    clear k10518
                    refine g_iconst dX12_lays_86 ?_
                    refine g_iload dX12_lays_87 rfl ?_
                    refine g_ishl dX12_lays_89 ?_
                    refine g_nm (fun b10520 e_b10520 => ?_)
                    have h_b10520 : 1 ≤ (ishl 1 x60_4_10425) ∧ (ishl 1 x60_4_10425) ≤ 2048 := (ishl1 11 (by decide) (y := x60_4_10425) ⟨by omega, by omega⟩).2
                    rw [← e_b10520] at h_b10520
                    refine g_goto (tgt := 94) dX12_lays_90 (by decide) ?_
                    refine g_ior dX12_lays_94 ?_
                    refine g_nm (fun b10521 e_b10521 => ?_)
                    have h_b10521 : 0 ≤ (ior x60_3_10425 b10520) ∧ (ior x60_3_10425 b10520) < 4096 := ior_b 12 (by decide) (x := x60_3_10425) (y := b10520) (show 0 ≤ x60_3_10425 ∧ x60_3_10425 < 4096 from ⟨by omega, by omega⟩) (show 0 ≤ b10520 ∧ b10520 < 4096 from ⟨by omega, by omega⟩)
                    rw [← e_b10521] at h_b10521
                    refine g_istore_n (l1 := [(3, vI b10521), (0, vR 0), (1, vI x7_1_1), (2, vI x46_2_10009), (4, vI x60_4_10425)]) dX12_lays_95 (by decide) rfl ?_
                    refine g_iinc (l1 := [(4, vI (x60_4_10425 + 1)), (3, vI b10521), (0, vR 0), (1, vI x7_1_1), (2, vI x46_2_10009)]) dX12_lays_96 rfl (by decide) rfl ?_
                    refine g_goto (tgt := 60) dX12_lays_99 (by decide) ?_
                    refine g_forget (l1 := [(0, vR 0), (1, vI x7_1_1), (2, vI x46_2_10009), (3, vI b10521), (4, vI (x60_4_10425 + 1))]) (by intro q hq; simp only [List.mem_cons, List.not_mem_nil, or_false] at hq ⊢; rcases hq with rfl | rfl | rfl | rfl | rfl <;> simp) ?_
                    exact ih60_10425 (x60_4_10425 + 1) ⟨by omega, by omega⟩ b10521 ⟨by omega, by omega⟩ _ hBc10517 (FrM.c (FrM.c FrM.rf hE60_10425 rfl) hFc10517 rfl) (by omega)
              refine g_forget (l1 := [(0, vR 0), (1, vI x7_1_1), (2, vI x46_2_10009), (3, vI 0), (4, vI 0)]) (by intro q hq; simp only [List.mem_cons, List.not_mem_nil, or_false] at hq ⊢; rcases hq with rfl | rfl | rfl | rfl | rfl <;> simp) ?_
              exact L60_10425 _ 0 (by decide) 0 (by decide) _ hB46_10009 FrM.rf (Nat.lt_succ_self _)
          refine g_forget (l1 := [(0, vR 0), (1, vI x7_1_1), (2, vI 0)]) (by intro q hq; simp only [List.mem_cons, List.not_mem_nil, or_false] at hq ⊢; rcases hq with rfl | rfl | rfl <;> simp) ?_
          exact L46_10009 _ 0 (by decide) _ hB10009 FrM.rf (by have q0 := (up_same : (up H17_8421 33 x7_1_1 0) 33 x7_1_1 = 0); omega) (Nat.lt_succ_self _)
        · refine g_aload_n dX12_lays_24 rfl ?_
          refine m_g51 rfl dX12_lays_25 ?_
          refine g_iload_n dX12_lays_28 rfl ?_
          refine g_iconst dX12_lays_29 ?_
          refine m_s34 dX12_lays_30 ⟨by omega, by omega⟩ ?_
          have hB10522 := ba_34 (z := (-1)) (k := x17_2_8421) hB17_8421 (by decide)
          refine g_iinc (l1 := [(2, vI (x17_2_8421 + 1)), (0, vR 0), (1, vI x7_1_1)]) dX12_lays_31 rfl (by decide) rfl ?_
          refine g_goto (tgt := 17) dX12_lays_34 (by decide) ?_
          refine g_forget (l1 := [(0, vR 0), (1, vI x7_1_1), (2, vI (x17_2_8421 + 1))]) (by intro q hq; simp only [List.mem_cons, List.not_mem_nil, or_false] at hq ⊢; rcases hq with rfl | rfl | rfl <;> simp) ?_
          exact ih17_8421 (x17_2_8421 + 1) ⟨by omega, by omega⟩ _ hB10522 (FrM.a (FrM.c FrM.rf hE17_8421 rfl) rfl rfl) (by omega)
      refine g_forget (l1 := [(0, vR 0), (1, vI x7_1_1), (2, vI 0)]) (by intro q hq; simp only [List.mem_cons, List.not_mem_nil, or_false] at hq ⊢; rcases hq with rfl | rfl | rfl <;> simp) ?_
      exact L17_8421 _ 0 (by decide) _ hB7_1 FrM.rf (Nat.lt_succ_self _)
  refine g_forget (l1 := [(0, vR 0), (1, vI 0)]) (by intro q hq; simp only [List.mem_cons, List.not_mem_nil, or_false] at hq ⊢; rcases hq with rfl | rfl <;> simp) ?_
  exact L7_1 _ 0 (by decide) _ hB1 FrM.rf (by first | exact (up_same).trans hrm8 | exact up_same) (by have q0 := (up_same : (up P 0 52 1) 0 52 = 1); omega) (by omega) (Nat.lt_succ_self _)
/-! What the reference answers: X12_lettersOf. -/
set_option maxRecDepth 100000 in
set_option maxHeartbeats 4000000 in
theorem f_X12_lettersOf (G : GT) (P : PH) (g : Nat → Int) (L : Nat) (a1 : Int) (h_a1 : (-9223372036854775808) ≤ a1 ∧ a1 ≤ 9223372036854775807) (hB : BdM P) (p_L : L ≤ 6) (p_g : ∀ i : Nat, i < L → 1 ≤ g i ∧ g i ≤ 26) (p_w : a1 = e56 g L) (Q : Option PV → PH → Prop) (hQ : ∀ (r : Int) (_ : 0 ≤ r ∧ r ≤ 8) (_ : r = (L : Int)), Q (some (vI r)) P) : Ct WSM G 1 iX12_lettersOf [vL a1] P Q := by
  refine Ct.of (by decide) (l0 := [(0, vL a1)]) rfl (Nat.le_of_ble_eq_true rfl) ?_
  have hw56 := e56_r (g := g) (k := L) p_L p_g
  refine g_iconst dX12_lettersOf_0 ?_
  refine g_istore_n (l1 := [(2, vI 0), (0, vL a1)]) dX12_lettersOf_1 (by decide) rfl ?_
  refine g_lload_n dX12_lettersOf_2 rfl ?_
  refine g_lstore_n (l1 := [(3, vL a1), (2, vI 0), (0, vL a1)]) dX12_lettersOf_3 (by decide) rfl ?_
  have L4_0 : ∀ (n4_0 : Nat) (x4_3_0 : Int) (h_x4_3_0 : (-9223372036854775808) ≤ x4_3_0 ∧ x4_3_0 ≤ 9223372036854775807) (x4_2_0 : Int) (h_x4_2_0 : 0 ≤ x4_2_0 ∧ x4_2_0 ≤ 8) (i4_0_0 : (x4_2_0 = 0 ∧ x4_3_0 < 9223372036854775808) ∨ (x4_2_0 = 1 ∧ x4_3_0 < 36028797018963968) ∨ (x4_2_0 = 2 ∧ x4_3_0 < 140737488355328) ∨ (x4_2_0 = 3 ∧ x4_3_0 < 549755813888) ∨ (x4_2_0 = 4 ∧ x4_3_0 < 2147483648) ∨ (x4_2_0 = 5 ∧ x4_3_0 < 8388608) ∨ (x4_2_0 = 6 ∧ x4_3_0 < 32768) ∨ (x4_2_0 = 7 ∧ x4_3_0 < 128) ∨ (x4_2_0 = 8 ∧ x4_3_0 ≤ 0) ∨ (x4_2_0 = 0 ∧ x4_3_0 ≤ 0)) (i4_1_0 : x4_3_0 = e56 g (L - (x4_2_0).toNat)) (i4_2_0 : x4_2_0 ≤ (L : Int)) (hm4_0 : (x4_3_0 : Int).toNat < n4_0), Go WSM G 1 iX12_lettersOf 4 [(2, vI x4_2_0), (3, vL x4_3_0)] [] P Q := by
    intro n4_0
    induction n4_0 with
    | zero => intro x4_3_0 h_x4_3_0 x4_2_0 h_x4_2_0 i4_0_0 i4_1_0 i4_2_0 hm4_0; exact absurd hm4_0 (Nat.not_lt_zero _)
    | succ n4_0 ih4_0 =>
    intro x4_3_0 h_x4_3_0 x4_2_0 h_x4_2_0 i4_0_0 i4_1_0 i4_2_0 hm4_0
    refine g_lload_n dX12_lettersOf_4 rfl ?_
    refine g_lconst (z := 0) dX12_lettersOf_5 (by decide) ?_
    refine g_lcmp dX12_lettersOf_6 ⟨by (omega), by (omega)⟩ (by decide) ?_
    refine g_nm (fun b14 e_b14 => ?_)
    have h_b14 := lcmpv_b x4_3_0 0
    have h0_b14 := lcmpv_0 (x := x4_3_0) (y := 0)
    have h1_b14 := lcmpv_lt (x := x4_3_0) (y := 0)
    have h2_b14 := lcmpv_gt (x := x4_3_0) (y := 0)
    rw [← e_b14] at h_b14 h0_b14 h1_b14 h2_b14
    refine g_if_le (tgt := 21) dX12_lettersOf_7 (by decide) ⟨by (omega), by (omega)⟩ (fun k15 => ?_) (fun k15 => ?_)
    · skip
      have hb9 := (e56_b (g := g) (L - (x4_2_0).toNat) (fun i hi => p_g i (by (clear i4_0_0 h0_b14 h1_b14 h2_b14 k15; omega)))).2
      refine g_iload_n dX12_lettersOf_21 rfl ?_
      exact g_retI dX12_lettersOf_22 rfl (hQ x4_2_0 ⟨by (omega), by (omega)⟩ (by (omega)))
    · skip
      have hl9 : x4_2_0 < (L : Int) := by
        rcases (show x4_2_0 < (L : Int) ∨ L - (x4_2_0).toNat = 0 by (clear i4_0_0 h0_b14 h1_b14 h2_b14 k15; omega)) with h | h
        · exact h
        · exfalso
          have q := i4_1_0
          rw [h] at q
          have q2 : e56 g 0 = 0 := rfl
          (omega)
      have hq9 : x4_3_0 = e56 g ((L - (x4_2_0 + 1).toNat) + 1) := by
        rw [i4_1_0]
        congr 1
        (clear i4_0_0 h0_b14 h1_b14 h2_b14 k15; omega)
      have hd9 := (e56_dn (g := g) (n := L - (x4_2_0 + 1).toNat) (p_g _ (by (clear i4_0_0 h0_b14 h1_b14 h2_b14 k15; omega)))).1
      refine g_iinc (l1 := [(2, vI (x4_2_0 + 1)), (3, vL x4_3_0)]) dX12_lettersOf_10 rfl (by decide) rfl ?_
      refine g_lload_n dX12_lettersOf_13 rfl ?_
      refine g_bipush dX12_lettersOf_14 (by decide) ?_
      refine g_lshr dX12_lettersOf_16 ?_
      refine g_nm (fun b16 e_b16 => ?_)
      have h_b16 : (llshr x4_3_0 8) = x4_3_0 / 256 := llshr_c 8 (by decide) (x := x4_3_0) ⟨by (omega), by (omega)⟩
      rw [← e_b16] at h_b16
      refine g_lstore_n (l1 := [(3, vL b16), (2, vI (x4_2_0 + 1))]) dX12_lettersOf_17 (by decide) rfl ?_
      refine g_goto (tgt := 4) dX12_lettersOf_18 (by decide) ?_
      refine g_forget (l1 := [(2, vI (x4_2_0 + 1)), (3, vL b16)]) (by intro q hq; simp only [List.mem_cons, List.not_mem_nil, or_false] at hq ⊢; rcases hq with rfl | rfl <;> simp) ?_
      exact ih4_0 b16 ⟨by (omega), by (omega)⟩ (x4_2_0 + 1) ⟨by (omega), by (omega)⟩ (by (omega)) (by first | (clear i4_0_0 h0_b14 h1_b14 h2_b14 k15; omega) | exact p_w) (by (clear i4_0_0 h0_b14 h1_b14 h2_b14 k15; omega)) (by (omega))
  refine g_forget (l1 := [(2, vI 0), (3, vL a1)]) (by intro q hq; simp only [List.mem_cons, List.not_mem_nil, or_false] at hq ⊢; rcases hq with rfl | rfl <;> simp) ?_
  exact L4_0 _ a1 ⟨by (omega), by (omega)⟩ 0 (by decide) (by (omega)) (by first | (first | (clear g; omega) | omega) | exact p_w) (by (omega)) (Nat.lt_succ_self _)
/-! What the reference answers: X12_letter. -/
set_option maxRecDepth 100000 in
set_option maxHeartbeats 4000000 in
theorem f_X12_letter (G : GT) (P : PH) (K : PH) (a1 : Int) (a2 : Int) (a3 : Int) (h_a1 : (-2147483648) ≤ a1 ∧ a1 ≤ 2147483647) (h_a2 : (-2147483648) ≤ a2 ∧ a2 ≤ 2147483647) (h_a3 : (-2147483648) ≤ a3 ∧ a3 ≤ 2147483647) (hB : BdM P) (p_aw : AW K) (z0 : MKB K P) (Q : Option PV → PH → Prop) (hQ : ∀ (r : Int) (_ : (-2147483648) ≤ r ∧ r ≤ 2147483647) (_ : r = ltr K a1 a2 a3), Q (some (vI r)) P) : Ct WSM G 2 iX12_letter [vR 0, vI a1, vI a2, vI a3] P Q := by
  refine Ct.of (by decide) (l0 := [(0, vR 0), (1, vI a1), (2, vI a2), (3, vI a3)]) rfl (Nat.le_of_ble_eq_true rfl) ?_
  have hb := z0.b
  have haw := p_aw.1
  have hls := ltr_s K a1 a2 a3
  refine g_iload_n dX12_letter_0 rfl ?_
  refine g_iconst dX12_letter_1 ?_
  refine g_iconst dX12_letter_2 ?_
  refine g_sI (av := [vI a3, vI 0, vI 5]) (st := []) (m_X12_is G P a3 0 5 ⟨by (clear hb hls; omega), by (clear hb hls; omega)⟩ (by decide) (by decide) hB  _ (fun rc1 hc1 gc1_is => ⟨rc1, rfl, ?_⟩)) cf_X12_is t_1800 rfl (Nat.le_of_ble_eq_true rfl) (by decide) rfl dX12_letter_3
  refine g_if_eq (tgt := 53) dX12_letter_6 (by decide) ⟨by (clear hb hls gc1_is; omega), by (clear hb hls gc1_is; omega)⟩ (fun k2 => ?_) (fun k2 => ?_)
  · skip
    skip
    refine g_iconst dX12_letter_53 ?_
    exact g_retI dX12_letter_54 rfl (hQ (-1) (by decide) (by (omega)))
  · have k2n : 1 ≤ rc1 := by (clear hb hls gc1_is; omega)
    clear k2
    have r_gc1_is := (gc1_is.resolve_right (by (clear hb hls gc1_is; omega)))
    skip
    refine g_iload_n dX12_letter_9 rfl ?_
    refine g_iconst dX12_letter_10 ?_
    refine g_iconst dX12_letter_11 ?_
    refine g_sI (av := [vI a1, vI 0, vI 1]) (st := []) (m_X12_is G P a1 0 1 ⟨by (clear hb hls gc1_is; omega), by (clear hb hls gc1_is; omega)⟩ (by decide) (by decide) hB  _ (fun rc3 hc3 gc3_is => ⟨rc3, rfl, ?_⟩)) cf_X12_is t_1800 rfl (Nat.le_of_ble_eq_true rfl) (by decide) rfl dX12_letter_12
    refine g_if_eq (tgt := 53) dX12_letter_15 (by decide) ⟨by (clear hb hls gc1_is gc3_is; omega), by (clear hb hls gc1_is gc3_is; omega)⟩ (fun k4 => ?_) (fun k4 => ?_)
    · skip
      skip
      skip
      refine g_iconst dX12_letter_53 ?_
      exact g_retI dX12_letter_54 rfl (hQ (-1) (by decide) (by (clear hb; omega)))
    · have k4n : 1 ≤ rc3 := by (clear hb hls gc1_is gc3_is; omega)
      clear k4
      have r_gc3_is := (gc3_is.resolve_right (by (clear hb hls gc1_is gc3_is; omega)))
      skip
      skip
      refine g_iload_n dX12_letter_18 rfl ?_
      refine g_iconst dX12_letter_19 ?_
      refine g_iload_n dX12_letter_20 rfl ?_
      refine g_if_ne (tgt := 36) dX12_letter_21 (by decide) ⟨by (clear hb hls gc1_is gc3_is; omega), by (clear hb hls gc1_is gc3_is; omega)⟩ (fun k5 => ?_) (fun k5 => ?_)
      · have k5n : 1 ≤ a1 := by (clear hb hls gc1_is gc3_is; omega)
        clear k5
        skip
        skip
        skip
        refine g_aload_n dX12_letter_36 rfl ?_
        refine m_g17 rfl dX12_letter_37 ?_
        refine g_aload_n dX12_letter_40 rfl ?_
        refine m_g13 (z := (P 0 13)) rfl dX12_letter_41 rfl ?_
        refine m_l5 (z := (P 5 (P 0 13))) dX12_letter_44 ⟨by have q0 := b0_13 hB; (clear hb hls gc1_is gc3_is; omega), by have q0 := b0_13 hB; (clear hb hls gc1_is gc3_is; omega)⟩ rfl ?_
        refine g_iconst dX12_letter_45 ?_
        refine g_isub dX12_letter_46 ?_
        have f6 := bl_5 (k := (P 0 13)) hB
        refine g_sI (av := [vI a2, vI 0, vI ((P 5 (P 0 13)) - 1)]) (st := []) (m_X12_is G P a2 0 ((P 5 (P 0 13)) - 1) ⟨by (clear hb hls gc1_is gc3_is; omega), by (clear hb hls gc1_is gc3_is; omega)⟩ (by decide) ⟨by have q0 := bl_5 (k := (P 0 13)) hB; (clear hb hls gc1_is gc3_is; omega), by have q0 := bl_5 (k := (P 0 13)) hB; (clear hb hls gc1_is gc3_is; omega)⟩ hB  _ (fun rc7 hc7 gc7_is => ⟨rc7, rfl, ?_⟩)) cf_X12_is t_1800 rfl (Nat.le_of_ble_eq_true rfl) (by decide) rfl dX12_letter_47
        refine g_if_ne (tgt := 55) dX12_letter_50 (by decide) ⟨by (clear hb hls gc1_is gc3_is gc7_is; omega), by (clear hb hls gc1_is gc3_is gc7_is; omega)⟩ (fun k8 => ?_) (fun k8 => ?_)
        · have k8n : 1 ≤ rc7 := by (clear hb hls gc1_is gc3_is gc7_is; omega)
          clear k8
          have r_gc7_is := (gc7_is.resolve_right (by (clear hb hls gc1_is gc3_is gc7_is; omega)))
          skip
          skip
          skip
          refine g_iload_n dX12_letter_55 rfl ?_
          refine g_if_ne (tgt := 75) dX12_letter_56 (by decide) ⟨by (clear hb hls gc1_is gc3_is gc7_is; omega), by (clear hb hls gc1_is gc3_is gc7_is; omega)⟩ (fun k9 => ?_) (fun k9 => by exfalso; (clear hb hls gc1_is gc3_is gc7_is; omega))
          skip
          skip
          skip
          skip
          refine g_aload_n dX12_letter_75 rfl ?_
          refine m_g35 rfl dX12_letter_76 ?_
          refine g_bipush dX12_letter_79 (by decide) ?_
          refine g_aload_n dX12_letter_81 rfl ?_
          refine m_g13 (z := (P 0 13)) rfl dX12_letter_82 rfl ?_
          refine g_imul dX12_letter_85 ?_
          refine g_iload_n dX12_letter_86 rfl ?_
          refine g_iadd dX12_letter_87 ?_
          refine m_l23 (z := (P 23 ((24 * (P 0 13)) + a2))) dX12_letter_88 ⟨by have q0 := b0_13 hB; (clear hb hls gc1_is gc3_is gc7_is k9; omega), by have q0 := b0_13 hB; (clear hb hls gc1_is gc3_is gc7_is k9; omega)⟩ rfl ?_
          refine g_lstore (l1 := [(4, vL (P 23 ((24 * (P 0 13)) + a2))), (0, vR 0), (1, vI a1), (2, vI a2), (3, vI a3)]) dX12_letter_89 (by decide) rfl ?_
          obtain ⟨g9, L9, hL1, hL6, hg9, hv9, hw9⟩ : NW (if a1 = 0 then K 1 a2 else K 4 a2) (P 23 ((24 * (P 0 13)) + a2)) := by first | (rw [if_pos (by (first | (clear hb hls gc1_is gc3_is gc7_is k9; omega) | (clear hb hls gc1_is gc3_is gc7_is; omega) | (clear hb hls gc1_is gc3_is k9; omega) | (clear hb hls gc1_is gc7_is k9; omega) | (clear hb hls gc3_is gc7_is k9; omega) | (clear hb gc1_is gc3_is gc7_is k9; omega) | (clear hls gc1_is gc3_is gc7_is k9; omega) | (clear hb hls gc1_is gc3_is; omega) | (clear hls hb; omega) | omega))]; exact (z0.k (by (first | (clear hb hls gc1_is gc3_is gc7_is k9; omega) | (clear hb hls gc1_is gc3_is gc7_is; omega) | (clear hb hls gc1_is gc3_is k9; omega) | (clear hb hls gc1_is gc7_is k9; omega) | (clear hb hls gc3_is gc7_is k9; omega) | (clear hb gc1_is gc3_is gc7_is k9; omega) | (clear hls gc1_is gc3_is gc7_is k9; omega) | (clear hb hls gc1_is gc3_is; omega) | (clear hls hb; omega) | omega)) (by (first | (clear hb hls gc1_is gc3_is gc7_is k9; omega) | (clear hb hls gc1_is gc3_is gc7_is; omega) | (clear hb hls gc1_is gc3_is k9; omega) | (clear hb hls gc1_is gc7_is k9; omega) | (clear hb hls gc3_is gc7_is k9; omega) | (clear hb gc1_is gc3_is gc7_is k9; omega) | (clear hls gc1_is gc3_is gc7_is k9; omega) | (clear hb hls gc1_is gc3_is; omega) | (clear hls hb; omega) | omega))).1) | (rw [if_neg (by (clear hb hls gc1_is gc3_is gc7_is k9; omega))]; exact z0.c (by (clear hb hls gc1_is gc3_is gc7_is k9; omega)) (by (clear hls gc1_is gc3_is gc7_is k9; omega)))
          have hlt := lt_g hL6 hg9 (k := a3) ⟨by (clear hb hls gc1_is gc3_is gc7_is k9; omega), by (clear hb hls gc1_is gc3_is gc7_is k9; omega)⟩
          rw [← hv9] at hlt
          have hlt2 : (a3 < (L9 : Int) ∧ ltr K a1 a2 a3 = g9 a3.toNat) ∨ ((L9 : Int) ≤ a3 ∧ ltr K a1 a2 a3 = 0) := by
            by_cases e0 : a1 = 0
            · rw [if_pos e0] at hlt; (clear hb hls gc1_is gc3_is gc7_is k9 hlt; omega)
            · rw [if_neg e0] at hlt; (omega)
          clear hlt hls
          refine g_lload dX12_letter_91 rfl ?_
          have f10 := bl_23 (k := ((24 * (P 0 13)) + a2)) hB
          refine g_sI (av := [vL (P 23 ((24 * (P 0 13)) + a2))]) (st := []) (f_X12_lettersOf G P (g9) (L9) (P 23 ((24 * (P 0 13)) + a2)) ⟨by have q0 := bl_23 (k := ((24 * (P 0 13)) + a2)) hB; (clear hb gc1_is gc3_is gc7_is k9 hlt2; omega), by have q0 := bl_23 (k := ((24 * (P 0 13)) + a2)) hB; (clear hb gc1_is gc3_is gc7_is k9 hlt2; omega)⟩ hB (hL6) (hg9) (hw9) _ (fun rc11 hc11 gc11_n => ⟨rc11, rfl, ?_⟩)) cf_X12_lettersOf t_1871 rfl (Nat.le_of_ble_eq_true rfl) (by decide) rfl dX12_letter_93
          refine g_istore (l1 := [(6, vI rc11), (4, vL (P 23 ((24 * (P 0 13)) + a2))), (0, vR 0), (1, vI a1), (2, vI a2), (3, vI a3)]) dX12_letter_96 (by decide) rfl ?_
          refine g_iload_n dX12_letter_98 rfl ?_
          refine g_iload dX12_letter_99 rfl ?_
          refine g_icmp_lt (tgt := 108) dX12_letter_101 (by decide) ⟨by (clear hb gc1_is gc3_is gc7_is k9 hlt2; omega), by (clear hb gc1_is gc3_is gc7_is k9 hlt2; omega)⟩ ⟨by (clear hb gc1_is gc3_is gc7_is k9 hlt2; omega), by (clear hb gc1_is gc3_is gc7_is k9 hlt2; omega)⟩ (fun k12 => ?_) (fun k12 => ?_)
          · skip
            skip
            skip
            skip
            refine g_lload dX12_letter_108 rfl ?_
            refine g_bipush dX12_letter_110 (by decide) ?_
            refine g_iload dX12_letter_112 rfl ?_
            refine g_iconst dX12_letter_114 ?_
            refine g_isub dX12_letter_115 ?_
            refine g_iload_n dX12_letter_116 rfl ?_
            refine g_isub dX12_letter_117 ?_
            refine g_imul dX12_letter_118 ?_
            refine g_lshr dX12_letter_119 ?_
            refine g_nm (fun b13 e_b13 => ?_)
            have h_b13 := llshr_ir (P 23 ((24 * (P 0 13)) + a2)) (8 * ((rc11 - 1) - a3))
            rw [← e_b13] at h_b13
            have hs9 : b13 = e56 g9 (a3.toNat + 1) := by rw [e_b13, show (((8 * ((rc11 - 1) - a3))) : Int) = ((8 * (L9 - 1 - a3.toNat) : Nat) : Int) by (clear hb gc1_is gc3_is gc7_is k9 hlt2; omega), llshr_8 _ (by (clear hb gc1_is gc3_is gc7_is k9 hlt2 k12; omega)) ⟨by have q := e56_r hL6 hg9; (clear hb gc1_is gc3_is gc7_is k9 hlt2 k12; omega), by have q := e56_r hL6 hg9; (clear hb gc1_is gc3_is gc7_is k9 hlt2 k12; omega)⟩, hw9, e56_sh hg9 _ (by (clear hb gc1_is gc3_is gc7_is k9 hlt2 k12; omega))]; congr 1; (clear hb gc1_is gc3_is gc7_is k9 hlt2; omega)
            have hs8 := e56_r (g := g9) (k := a3.toNat + 1) (by (clear hb gc1_is gc3_is gc7_is k9 hlt2 k12; omega)) (fun i hi => hg9 i (by (clear hb gc1_is gc3_is gc7_is k9 hlt2; omega)))
            have h_b9 : 0 ≤ b13 ∧ b13 ≤ 281474976710655 := by (clear hb gc1_is gc3_is gc7_is k9 hlt2 k12; omega)
            refine g_ldc2 (z := 255) dX12_letter_120 t_1874 (by decide) ?_
            refine g_land dX12_letter_123 ?_
            refine g_nm (fun b14 e_b14 => ?_)
            have h_b14 := lland_r (x := b13) (y := 255) ⟨by (clear hb gc1_is gc3_is gc7_is k9 hlt2 k12; omega), by (clear hb gc1_is gc3_is gc7_is k9 hlt2 k12; omega)⟩
            rw [← e_b14] at h_b14
            have hd9 := (e56_dn (g := g9) (n := a3.toNat) (hg9 _ (by (clear hb gc1_is gc3_is gc7_is k9 hlt2; omega)))).2
            have hl9 : b14 = 96 + g9 a3.toNat := by rw [e_b14, lland_255 (by (clear hb gc1_is gc3_is gc7_is k9 hlt2 k12; omega))]; (clear hb gc1_is gc3_is gc7_is k9 hlt2 k12; omega)
            have hgb9 := hg9 a3.toNat (by (clear hb gc1_is gc3_is gc7_is k9 hlt2; omega))
            refine g_l2i dX12_letter_124 ?_
            refine g_bipush dX12_letter_125 (by decide) ?_
            refine g_isub dX12_letter_127 ?_
            refine g_iconst dX12_letter_128 ?_
            refine g_iadd dX12_letter_129 ?_
            exact g_retI dX12_letter_130 rfl (hQ ((b14 - 97) + 1) ⟨by (clear hb gc1_is gc3_is gc7_is k9 hlt2 k12; omega), by (clear hb gc1_is gc3_is gc7_is k9 hlt2 k12; omega)⟩ (by (clear hb gc1_is gc3_is gc7_is k9; omega)))
          · skip
            skip
            skip
            skip
            refine g_iconst dX12_letter_104 ?_
            refine g_goto (tgt := 130) dX12_letter_105 (by decide) ?_
            exact g_retI dX12_letter_130 rfl (hQ 0 (by decide) (by (clear hb gc1_is gc3_is gc7_is k9; omega)))
        · skip
          skip
          skip
          skip
          refine g_iconst dX12_letter_53 ?_
          exact g_retI dX12_letter_54 rfl (hQ (-1) (by decide) (by (omega)))
      · skip
        skip
        skip
        refine g_aload_n dX12_letter_24 rfl ?_
        refine m_g14 rfl dX12_letter_25 ?_
        refine g_aload_n dX12_letter_28 rfl ?_
        refine m_g13 (z := (P 0 13)) rfl dX12_letter_29 rfl ?_
        refine m_l2 (z := (P 2 (P 0 13))) dX12_letter_32 ⟨by have q0 := b0_13 hB; (clear hb hls gc1_is gc3_is k5; omega), by have q0 := b0_13 hB; (clear hb hls gc1_is gc3_is k5; omega)⟩ rfl ?_
        refine g_goto (tgt := 45) dX12_letter_33 (by decide) ?_
        refine g_iconst dX12_letter_45 ?_
        refine g_isub dX12_letter_46 ?_
        have f15 := bl_2 (k := (P 0 13)) hB
        refine g_sI (av := [vI a2, vI 0, vI ((P 2 (P 0 13)) - 1)]) (st := []) (m_X12_is G P a2 0 ((P 2 (P 0 13)) - 1) ⟨by (clear hb hls gc1_is gc3_is k5; omega), by (clear hb hls gc1_is gc3_is k5; omega)⟩ (by decide) ⟨by have q0 := bl_2 (k := (P 0 13)) hB; (clear hb hls gc1_is gc3_is k5; omega), by have q0 := bl_2 (k := (P 0 13)) hB; (clear hb hls gc1_is gc3_is k5; omega)⟩ hB  _ (fun rc16 hc16 gc16_is => ⟨rc16, rfl, ?_⟩)) cf_X12_is t_1800 rfl (Nat.le_of_ble_eq_true rfl) (by decide) rfl dX12_letter_47
        refine g_if_ne (tgt := 55) dX12_letter_50 (by decide) ⟨by (clear hb hls gc1_is gc3_is k5 gc16_is; omega), by (clear hb hls gc1_is gc3_is k5 gc16_is; omega)⟩ (fun k17 => ?_) (fun k17 => ?_)
        · have k17n : 1 ≤ rc16 := by (clear hb hls gc1_is gc3_is k5 gc16_is; omega)
          clear k17
          have r_gc16_is := (gc16_is.resolve_right (by (clear hb hls gc1_is gc3_is k5 gc16_is; omega)))
          skip
          skip
          skip
          refine g_iload_n dX12_letter_55 rfl ?_
          refine g_if_ne (tgt := 75) dX12_letter_56 (by decide) ⟨by (clear hb hls gc1_is gc3_is k5 gc16_is; omega), by (clear hb hls gc1_is gc3_is k5 gc16_is; omega)⟩ (fun k18 => by exfalso; (clear hb hls gc1_is gc3_is gc16_is; omega)) (fun k18 => ?_)
          skip
          skip
          skip
          skip
          refine g_aload_n dX12_letter_59 rfl ?_
          refine m_g34 rfl dX12_letter_60 ?_
          refine g_iconst dX12_letter_63 ?_
          refine g_aload_n dX12_letter_64 rfl ?_
          refine m_g13 (z := (P 0 13)) rfl dX12_letter_65 rfl ?_
          refine g_imul dX12_letter_68 ?_
          refine g_iload_n dX12_letter_69 rfl ?_
          refine g_iadd dX12_letter_70 ?_
          refine m_l22 (z := (P 22 ((4 * (P 0 13)) + a2))) dX12_letter_71 ⟨by have q0 := b0_13 hB; (clear hb hls gc1_is gc3_is k5 gc16_is k18; omega), by have q0 := b0_13 hB; (clear hb hls gc1_is gc3_is k5 gc16_is k18; omega)⟩ rfl ?_
          refine g_goto (tgt := 89) dX12_letter_72 (by decide) ?_
          refine g_lstore (l1 := [(4, vL (P 22 ((4 * (P 0 13)) + a2))), (0, vR 0), (1, vI a1), (2, vI a2), (3, vI a3)]) dX12_letter_89 (by decide) rfl ?_
          obtain ⟨g9, L9, hL1, hL6, hg9, hv9, hw9⟩ : NW (if a1 = 0 then K 1 a2 else K 4 a2) (P 22 ((4 * (P 0 13)) + a2)) := by first | (rw [if_pos (by (clear hb hls gc1_is gc3_is k5 gc16_is; omega))]; exact (z0.k (by (clear hb hls gc1_is gc3_is k5 gc16_is k18; omega)) (by (clear hls gc1_is gc3_is k5 gc16_is k18; omega))).1) | (rw [if_neg (by (first | (clear hb hls gc1_is gc3_is k5 gc16_is k18; omega) | (clear hb hls gc1_is gc3_is k5 gc16_is; omega) | (clear hb hls gc1_is gc3_is k5 k18; omega) | (clear hb hls gc1_is gc3_is gc16_is k18; omega) | (clear hb hls gc1_is k5 gc16_is k18; omega) | (clear hb hls gc3_is k5 gc16_is k18; omega) | (clear hb gc1_is gc3_is k5 gc16_is k18; omega) | (clear hls gc1_is gc3_is k5 gc16_is k18; omega) | (clear hb hls gc1_is gc3_is k5; omega) | (clear gc1_is hls hb; omega) | omega))]; exact z0.c (by (first | (clear hb hls gc1_is gc3_is k5 gc16_is k18; omega) | (clear hb hls gc1_is gc3_is k5 gc16_is; omega) | (clear hb hls gc1_is gc3_is k5 k18; omega) | (clear hb hls gc1_is gc3_is gc16_is k18; omega) | (clear hb hls gc1_is k5 gc16_is k18; omega) | (clear hb hls gc3_is k5 gc16_is k18; omega) | (clear hb gc1_is gc3_is k5 gc16_is k18; omega) | (clear hls gc1_is gc3_is k5 gc16_is k18; omega) | (clear hb hls gc1_is gc3_is k5; omega) | (clear gc1_is hls hb; omega) | omega)) (by (first | (clear hb hls gc1_is gc3_is k5 gc16_is k18; omega) | (clear hb hls gc1_is gc3_is k5 gc16_is; omega) | (clear hb hls gc1_is gc3_is k5 k18; omega) | (clear hb hls gc1_is gc3_is gc16_is k18; omega) | (clear hb hls gc1_is k5 gc16_is k18; omega) | (clear hb hls gc3_is k5 gc16_is k18; omega) | (clear hb gc1_is gc3_is k5 gc16_is k18; omega) | (clear hls gc1_is gc3_is k5 gc16_is k18; omega) | (clear hb hls gc1_is gc3_is k5; omega) | (clear gc1_is hls hb; omega) | omega)))
          have hlt := lt_g hL6 hg9 (k := a3) ⟨by (clear hb hls gc1_is gc3_is k5 gc16_is k18; omega), by (clear hb hls gc1_is gc3_is k5 gc16_is k18; omega)⟩
          rw [← hv9] at hlt
          have hlt2 : (a3 < (L9 : Int) ∧ ltr K a1 a2 a3 = g9 a3.toNat) ∨ ((L9 : Int) ≤ a3 ∧ ltr K a1 a2 a3 = 0) := by
            by_cases e0 : a1 = 0
            · rw [if_pos e0] at hlt; (omega)
            · rw [if_neg e0] at hlt; (clear hb hls gc1_is gc3_is k5 gc16_is hlt; omega)
          clear hlt hls
          refine g_lload dX12_letter_91 rfl ?_
          have f19 := bl_22 (k := ((4 * (P 0 13)) + a2)) hB
          refine g_sI (av := [vL (P 22 ((4 * (P 0 13)) + a2))]) (st := []) (f_X12_lettersOf G P (g9) (L9) (P 22 ((4 * (P 0 13)) + a2)) ⟨by have q0 := bl_22 (k := ((4 * (P 0 13)) + a2)) hB; (clear hb gc1_is gc3_is k5 gc16_is k18 hlt2; omega), by have q0 := bl_22 (k := ((4 * (P 0 13)) + a2)) hB; (clear hb gc1_is gc3_is k5 gc16_is k18 hlt2; omega)⟩ hB (hL6) (hg9) (hw9) _ (fun rc20 hc20 gc20_n => ⟨rc20, rfl, ?_⟩)) cf_X12_lettersOf t_1871 rfl (Nat.le_of_ble_eq_true rfl) (by decide) rfl dX12_letter_93
          refine g_istore (l1 := [(6, vI rc20), (4, vL (P 22 ((4 * (P 0 13)) + a2))), (0, vR 0), (1, vI a1), (2, vI a2), (3, vI a3)]) dX12_letter_96 (by decide) rfl ?_
          refine g_iload_n dX12_letter_98 rfl ?_
          refine g_iload dX12_letter_99 rfl ?_
          refine g_icmp_lt (tgt := 108) dX12_letter_101 (by decide) ⟨by (clear hb gc1_is gc3_is k5 gc16_is k18 hlt2; omega), by (clear hb gc1_is gc3_is k5 gc16_is k18 hlt2; omega)⟩ ⟨by (clear hb gc1_is gc3_is k5 gc16_is k18 hlt2; omega), by (clear hb gc1_is gc3_is k5 gc16_is k18 hlt2; omega)⟩ (fun k21 => ?_) (fun k21 => ?_)
          · skip
            skip
            skip
            skip
            refine g_lload dX12_letter_108 rfl ?_
            refine g_bipush dX12_letter_110 (by decide) ?_
            refine g_iload dX12_letter_112 rfl ?_
            refine g_iconst dX12_letter_114 ?_
            refine g_isub dX12_letter_115 ?_
            refine g_iload_n dX12_letter_116 rfl ?_
            refine g_isub dX12_letter_117 ?_
            refine g_imul dX12_letter_118 ?_
            refine g_lshr dX12_letter_119 ?_
            refine g_nm (fun b22 e_b22 => ?_)
            have h_b22 := llshr_ir (P 22 ((4 * (P 0 13)) + a2)) (8 * ((rc20 - 1) - a3))
            rw [← e_b22] at h_b22
            have hs9 : b22 = e56 g9 (a3.toNat + 1) := by rw [e_b22, show (((8 * ((rc20 - 1) - a3))) : Int) = ((8 * (L9 - 1 - a3.toNat) : Nat) : Int) by (clear hb gc1_is gc3_is k5 gc16_is k18 hlt2; omega), llshr_8 _ (by (clear hb gc1_is gc3_is k5 gc16_is k18 hlt2 k21; omega)) ⟨by have q := e56_r hL6 hg9; (clear hb gc1_is gc3_is k5 gc16_is k18 hlt2 k21; omega), by have q := e56_r hL6 hg9; (clear hb gc1_is gc3_is k5 gc16_is k18 hlt2 k21; omega)⟩, hw9, e56_sh hg9 _ (by (clear hb gc1_is gc3_is k5 gc16_is k18 hlt2 k21; omega))]; congr 1; (clear hb gc1_is gc3_is k5 gc16_is k18 hlt2; omega)
            have hs8 := e56_r (g := g9) (k := a3.toNat + 1) (by (clear hb gc1_is gc3_is k5 gc16_is k18 hlt2 k21; omega)) (fun i hi => hg9 i (by (clear hb gc1_is gc3_is k5 gc16_is k18 hlt2; omega)))
            have h_b9 : 0 ≤ b22 ∧ b22 ≤ 281474976710655 := by (clear hb gc1_is gc3_is k5 gc16_is k18 hlt2 k21; omega)
            refine g_ldc2 (z := 255) dX12_letter_120 t_1874 (by decide) ?_
            refine g_land dX12_letter_123 ?_
            refine g_nm (fun b23 e_b23 => ?_)
            have h_b23 := lland_r (x := b22) (y := 255) ⟨by (clear hb gc1_is gc3_is k5 gc16_is k18 hlt2 k21; omega), by (clear hb gc1_is gc3_is k5 gc16_is k18 hlt2 k21; omega)⟩
            rw [← e_b23] at h_b23
            have hd9 := (e56_dn (g := g9) (n := a3.toNat) (hg9 _ (by (clear hb gc1_is gc3_is k5 gc16_is k18 hlt2; omega)))).2
            have hl9 : b23 = 96 + g9 a3.toNat := by rw [e_b23, lland_255 (by (clear hb gc1_is gc3_is k5 gc16_is k18 hlt2 k21; omega))]; (clear hb gc1_is gc3_is k5 gc16_is k18 hlt2 k21; omega)
            have hgb9 := hg9 a3.toNat (by (clear hb gc1_is gc3_is k5 gc16_is k18 hlt2; omega))
            refine g_l2i dX12_letter_124 ?_
            refine g_bipush dX12_letter_125 (by decide) ?_
            refine g_isub dX12_letter_127 ?_
            refine g_iconst dX12_letter_128 ?_
            refine g_iadd dX12_letter_129 ?_
            exact g_retI dX12_letter_130 rfl (hQ ((b23 - 97) + 1) ⟨by (clear hb gc1_is gc3_is k5 gc16_is k18 hlt2 k21; omega), by (clear hb gc1_is gc3_is k5 gc16_is k18 hlt2 k21; omega)⟩ (by (clear hb gc1_is gc3_is k5 gc16_is k18; omega)))
          · skip
            skip
            skip
            skip
            refine g_iconst dX12_letter_104 ?_
            refine g_goto (tgt := 130) dX12_letter_105 (by decide) ?_
            exact g_retI dX12_letter_130 rfl (hQ 0 (by decide) (by (clear hb gc1_is gc3_is k5 gc16_is k18; omega)))
        · skip
          skip
          skip
          skip
          refine g_iconst dX12_letter_53 ?_
          exact g_retI dX12_letter_54 rfl (hQ (-1) (by decide) (by (omega)))
/-! What the reference answers: X12_on. -/
set_option maxRecDepth 100000 in
set_option maxHeartbeats 4000000 in
theorem f_X12_on (G : GT) (P : PH) (T : TT) (A : PH) (M : PH) (hB : BdM P) (z0 : CM T P) (z1 : AM A P) (z2 : MH M P) (z3 : MMB M P) (Q : Option PV → PH → Prop) (hQ : ∀ (r : Int) (_ : 0 ≤ r ∧ r ≤ 1) (P1 : PH) (_ : BdM P1) (_ : FrM ([1, 60], [28, 35, 36, 37, 38, 39, 40]) P P1) (_ : P1 0 1 = 0) (_ : (r = 1 ∧ onOk T M) ∨ (r = 0 ∧ ¬ onOk T M)) (_ : AM (aOn T M A) P1), Q (some (vI r)) P1) : Ct WSM G 3 iX12_on [vR 0] P Q := by
  refine Ct.of (by decide) (l0 := [(0, vR 0)]) rfl (Nat.le_of_ble_eq_true rfl) ?_
  have hb := z1.b
  refine g_aload_n dX12_on_0 rfl ?_
  refine m_g1 (z := (P 0 1)) rfl dX12_on_1 rfl ?_
  refine g_istore_n (l1 := [(1, vI (P 0 1)), (0, vR 0)]) dX12_on_4 (by decide) rfl ?_
  refine g_aload_n dX12_on_5 rfl ?_
  refine g_iconst dX12_on_6 ?_
  refine m_p1 rfl dX12_on_7 ?_
  have hB1 := bs_1 (z := 0) hB (by decide)
  refine g_aload_n dX12_on_10 rfl ?_
  refine g_iload_n dX12_on_11 rfl ?_
  have f2 := b0_1 hB
  refine g_vI (av := [vI (P 0 1)]) (o := 0) (st := []) (f_X12_comesOn G (up P 0 1 0) (T) (A) (M) (P 0 1) ⟨by have q0 := b0_1 hB; (clear hb; omega), by have q0 := b0_1 hB; (clear hb; omega)⟩ hB1 (z0.1) (fun i i0 i1 => (((up_o (by decide)).trans rfl)).trans (z0.2 i i0 i1)) ((AM.fr (F := ([1], [])) z1 (FrM.s FrM.rf rfl) rfl)) ((MH.fr (F := ([1], [])) z2 (FrM.s FrM.rf rfl) rfl)) ((MMB.fr (F := ([1], [])) z3 (FrM.s FrM.rf rfl) rfl)) _ (fun rc3 hc3 Pc3 hBc3 hFc3 gc3_c ec3_0 => ⟨rc3, rfl, ?_⟩)) cf_X12_comesOn t_2184 rfl (by decide) rfl rfl rfl (Nat.le_of_ble_eq_true rfl) (by decide) rfl dX12_on_12
  have hco := gc3_c
  refine g_if_ne (tgt := 32) dX12_on_15 (by decide) ⟨by (clear hb gc3_c hco; omega), by (clear hb gc3_c hco; omega)⟩ (fun k4 => ?_) (fun k4 => ?_)
  · have k4n : 1 ≤ rc3 := by (clear hb gc3_c hco; omega)
    clear k4
    have r_hco := (hco.resolve_right (by (clear hb gc3_c hco; omega)))
    have r_gc3_c := (gc3_c.resolve_right (by (clear hb gc3_c hco; omega)))
    refine g_aload_n dX12_on_32 rfl ?_
    refine g_iconst dX12_on_33 ?_
    refine g_iconst dX12_on_34 ?_
    have hpm := ec3_0
    have hbk := hBc3
    refine g_vV (av := [vI 0, vI 1]) (o := 0) (st := []) (f_X12_copies G Pc3 0 1 (by decide) (by decide) hBc3 (by decide) _ (fun Pc5 hBc5 hFc5 gc5_o gc5_cy => ⟨rfl, ?_⟩)) cf_X12_copies t_1859 rfl (by decide) rfl rfl rfl (Nat.le_of_ble_eq_true rfl) (by decide) rfl dX12_on_35
    have hcy := gc5_cy
    have hfk := hFc5
    refine g_aload_n dX12_on_38 rfl ?_
    refine g_iconst dX12_on_39 ?_
    refine m_p60 rfl dX12_on_40 ?_
    have hB6 := bs_60 (z := 0) hBc5 (by decide)
    refine g_iconst dX12_on_43 ?_
    exact g_retZ dX12_on_44 rfl (by decide) (hQ 1 (by decide) _ hB6 (FrM.s (FrM.c (FrM.c (FrM.s FrM.rf rfl) hFc3 rfl) hFc5 rfl) rfl) (by have q0 := (((up_k (by decide)).trans ((hFc5.1 1 rfl).trans ((hFc3.1 1 rfl).trans up_same))) : (up Pc5 0 60 0) 0 1 = 0); (clear hb gc3_c hco gc5_o; omega)) (hco.elim (fun h => Or.inl ⟨rfl, h.2.1⟩) (fun h => by exfalso; (clear hb gc3_c hco gc5_o; omega))) (hco.elim (fun h => by obtain ⟨c0, c1, c2, c3, c4, c5, c6⟩ := h; rw [aOn_y c1]; exact hpm.ld ((up_o (by decide)).trans (hcy.1.1.trans c2)) ((up_o (by decide)).trans (hcy.1.2.1.trans c3)) ((up_o (by decide)).trans (hcy.1.2.2.1.trans c4)) ((up_o (by decide)).trans (hcy.1.2.2.2.trans c5)) up_same (fun p p0 p1 => (up_o (by decide)).trans (by have q := hcy.2.1 p p0 (by have w := c1.1; unfold oHd at w; have v := bl_13 (k := P 0 13) hB; have v2 := z3.b.2.1; (clear hb gc3_c hco gc5_o; omega)); rw [show 12 * 0 + p = p by (clear hb gc3_c hco gc5_o; omega), show 12 * 1 + p = 12 + p by (clear hb gc3_c hco gc5_o; omega)] at q; exact q.trans (c6 p p0 p1))) ((up_k (by decide)).trans (hfk.1 61 rfl)) ((up_k (by decide)).trans (hfk.1 92 rfl))) (fun h => by exfalso; (clear hb gc3_c hco gc5_o; omega))))
  · skip
    skip
    refine g_aload_n dX12_on_18 rfl ?_
    refine g_iconst dX12_on_19 ?_
    refine g_vI (av := [vI 5]) (o := 0) (st := []) (m_X12_refuses G Pc3 5 (by decide) hBc3  _ (fun rc7 hc7 Pc7 hBc7 hFc7 => ⟨rc7, rfl, ?_⟩)) cf_X12_refuses t_1667 rfl (by decide) rfl rfl rfl (Nat.le_of_ble_eq_true rfl) (by decide) rfl dX12_on_20
    refine g_if_lt (tgt := 30) dX12_on_23 (by decide) ⟨by (clear hb gc3_c hco k4; omega), by (clear hb gc3_c hco k4; omega)⟩ (fun k8 => ?_) (fun k8 => by exfalso; (clear hb gc3_c hco k4; omega))
    skip
    skip
    refine g_iconst dX12_on_30 ?_
    exact g_retZ dX12_on_31 rfl (by decide) (hQ 0 (by decide) _ hBc7 (FrM.c (FrM.c (FrM.s FrM.rf rfl) hFc3 rfl) hFc7 rfl) (by have q0 := (((hFc7.1 1 rfl).trans ((hFc3.1 1 rfl).trans up_same)) : Pc7 0 1 = 0); (clear hb gc3_c hco k4 k8; omega)) (hco.elim (fun h => by exfalso; (clear hb gc3_c hco k8; omega)) (fun h => Or.inr ⟨rfl, h.2⟩)) (hco.elim (fun h => by exfalso; (clear hb gc3_c hco k8; omega)) (fun h => by rw [aOn_n h.2]; exact (AM.fr (F := ([], [28])) ec3_0 (FrM.c FrM.rf hFc7 rfl) rfl))))
/-! What the reference answers: X12_runs. -/
set_option maxRecDepth 100000 in
set_option maxHeartbeats 4000000 in
theorem f_X12_runs (G : GT) (P : PH) (A : PH) (a1 : Int) (h_a1 : 0 ≤ a1 ∧ a1 ≤ 2147483647) (hB : BdM P) (p_st : P 0 74 ≤ 199999999) (v_okC : okC P) (v_MVw : MVw P) (v_RE : RE P) (z0 : AM A P) (Q : Option PV → PH → Prop) (hQ : ∀ (r : Int) (_ : (-1) ≤ r ∧ r ≤ 11) (P1 : PH) (_ : BdM P1) (_ : FrM ([62, 66, 74, 76, 78], [39, 40, 41, 42, 43, 44, 49, 50]) P P1) (_ : P1 0 74 = P 0 74 + 1) (_ : MVw P1) (_ : RE P1) (_ : AM (up A 0 3 (A 0 3 + 1)) P1), Q (some (vI r)) P1) : Ct WSM G 5 iX12_runs [vR 0, vI a1] P Q := by
  refine Ct.of (by decide) (l0 := [(0, vR 0), (1, vI a1)]) rfl (Nat.le_of_ble_eq_true rfl) ?_
  have hb := z0.b
  have hm4 := m40_s (A 0 3)
  have hm5 := m40_1 (A 0 3)
  refine g_aload_n dX12_runs_0 rfl ?_
  refine g_iconst dX12_runs_1 ?_
  refine g_aload_n dX12_runs_2 rfl ?_
  refine m_g56 rfl dX12_runs_3 ?_
  refine g_iconst dX12_runs_6 ?_
  refine m_l38 (z := (P 38 0)) dX12_runs_7 (by decide) rfl ?_
  have f1 := bl_38 (k := 0) hB
  refine g_vV (av := [vI 0, vI (P 38 0)]) (o := 0) (st := []) (m_X12_plants G P 0 (P 38 0) (by decide) ⟨by have q0 := bl_38 (k := 0) hB; (clear hb hm4 hm5; omega), by have q0 := bl_38 (k := 0) hB; (clear hb hm4 hm5; omega)⟩ hB (by have q0 := bl_38 (k := 0) hB; have q1 := b0_74 hB; (clear hb hm4 hm5; omega)) v_MVw v_RE _ (fun Pc2 hBc2 hFc2 gc2_st vc2_MV vc2_RE vc2_RLt => ⟨rfl, ?_⟩)) cf_X12_plants t_1998 rfl (by decide) rfl rfl rfl (Nat.le_of_ble_eq_true rfl) (by decide) rfl dX12_runs_8
  refine g_aload_n dX12_runs_11 rfl ?_
  refine g_aload_n dX12_runs_12 rfl ?_
  refine m_g55 rfl dX12_runs_13 ?_
  refine g_iconst dX12_runs_16 ?_
  refine m_l37 (z := (P 37 0)) dX12_runs_17 (by decide) ((congrFun (hFc2.2 37 rfl rfl) _).trans rfl) ?_
  have f3 := bl_37 (k := 0) hB
  refine g_vI (av := [vI (P 37 0)]) (o := 0) (st := []) (m_X12_openBy G Pc2 (P 37 0) ⟨by have q0 := bl_37 (k := 0) hB; (clear hb hm4 hm5; omega), by have q0 := bl_37 (k := 0) hB; (clear hb hm4 hm5; omega)⟩ hBc2  _ (fun rc4 hc4 => ⟨rc4, rfl, ?_⟩)) cf_X12_openBy t_1923 rfl (by decide) rfl rfl rfl (Nat.le_of_ble_eq_true rfl) (by decide) rfl dX12_runs_18
  refine g_istore_n (l1 := [(2, vI rc4), (0, vR 0), (1, vI a1)]) dX12_runs_21 (by decide) rfl ?_
  refine g_aload_n dX12_runs_22 rfl ?_
  refine g_iload_n dX12_runs_23 rfl ?_
  refine g_vI (av := [vI a1]) (o := 0) (st := []) (m_X12_fitting G Pc2 a1 ⟨by (clear hb hm4 hm5; omega), by (clear hb hm4 hm5; omega)⟩ hBc2 (okC.fr (F := ([62, 66, 74, 76], [41, 42, 43])) v_okC (FrM.c FrM.rf hFc2 rfl) rfl) _ (fun rc5 hc5 Pc5 hBc5 hFc5 => ⟨rc5, rfl, ?_⟩)) cf_X12_fitting t_1899 rfl (by decide) rfl rfl rfl (Nat.le_of_ble_eq_true rfl) (by decide) rfl dX12_runs_24
  refine g_iload_n dX12_runs_27 rfl ?_
  refine g_iand dX12_runs_28 ?_
  refine g_nm (fun b6 e_b6 => ?_)
  have h_b6 := iand_l (x := rc5) (y := rc4) ⟨by (clear hb hm4 hm5; omega), by (clear hb hm4 hm5; omega)⟩
  rw [← e_b6] at h_b6
  refine g_sI (av := [vI b6]) (st := []) (m_X12_lowest G Pc5 b6 ⟨by (clear hb hm4 hm5; omega), by (clear hb hm4 hm5; omega)⟩ hBc5  _ (fun rc7 hc7 gc7_l gc7_b => ⟨rc7, rfl, ?_⟩)) cf_X12_lowest t_1927 rfl (Nat.le_of_ble_eq_true rfl) (by decide) rfl dX12_runs_29
  refine g_istore_n (l1 := [(3, vI rc7), (2, vI rc4), (0, vR 0), (1, vI a1)]) dX12_runs_32 (by decide) rfl ?_
  refine g_aload_n dX12_runs_33 rfl ?_
  refine g_iload_n dX12_runs_34 rfl ?_
  refine g_iload_n dX12_runs_35 rfl ?_
  refine g_vI (av := [vI a1, vI rc4]) (o := 0) (st := []) (m_X12_testsFor G Pc5 a1 rc4 ⟨by (clear hb hm4 hm5 gc7_l gc7_b; omega), by (clear hb hm4 hm5 gc7_l gc7_b; omega)⟩ ⟨by (clear hb hm4 hm5 gc7_l gc7_b; omega), by (clear hb hm4 hm5 gc7_l gc7_b; omega)⟩ hBc5 (okC.fr (F := ([62, 66, 74, 76], [41, 42, 43, 44])) v_okC (FrM.c (FrM.c FrM.rf hFc2 rfl) hFc5 rfl) rfl) (MV.fr (F := ([], [44])) vc2_MV (FrM.c FrM.rf hFc5 rfl) rfl) _ (fun rc8 hc8 Pc8 hBc8 hFc8 vc8_MV => ⟨rc8, rfl, ?_⟩)) cf_X12_testsFor t_2006 rfl (by decide) rfl rfl rfl (Nat.le_of_ble_eq_true rfl) (by decide) rfl dX12_runs_36
  refine g_istore (l1 := [(4, vI rc8), (3, vI rc7), (2, vI rc4), (0, vR 0), (1, vI a1)]) dX12_runs_39 (by decide) rfl ?_
  refine g_aload_n dX12_runs_41 rfl ?_
  refine m_g57 rfl dX12_runs_42 ?_
  refine g_iconst dX12_runs_45 ?_
  refine m_l39 (z := (P 39 0)) dX12_runs_46 (by decide) ((congrFun (hFc8.2 39 rfl rfl) _).trans ((congrFun (hFc5.2 39 rfl rfl) _).trans ((congrFun (hFc2.2 39 rfl rfl) _).trans rfl))) ?_
  refine g_bipush dX12_runs_47 (by decide) ?_
  have f9 := bl_39 (k := 0) hB
  have J94_55 : ∀ (H94_55 : PH) (hB94_55 : BdM H94_55) (hE94_55 : FrM ([], [39, 40]) Pc8 H94_55) (i94_0_55 : H94_55 39 0 ≤ 39) (i94_1_55 : H94_55 39 0 + 1 = m40 (A 0 3 + 1)) (i94_2_55 : ∀ j : Int, j ≠ 0 → H94_55 39 j = P 39 j), Go WSM G 5 iX12_runs 94 [(0, vR 0), (1, vI a1), (3, vI rc7), (4, vI rc8)] [] H94_55 Q := by
    intro H94_55 hB94_55 hE94_55 i94_0_55 i94_1_55 i94_2_55
    have hi94 := i94_1_55
    refine g_iconst dX12_runs_94 ?_
    refine g_aload_n dX12_runs_95 rfl ?_
    refine m_g57 rfl dX12_runs_96 ?_
    refine g_iconst dX12_runs_99 ?_
    refine m_l39 (z := (H94_55 39 0)) dX12_runs_100 (by decide) rfl ?_
    refine g_imul dX12_runs_101 ?_
    refine g_istore (l1 := [(5, vI (3 * (H94_55 39 0))), (0, vR 0), (1, vI a1), (3, vI rc7), (4, vI rc8)]) dX12_runs_102 (by decide) rfl ?_
    refine g_aload_n dX12_runs_104 rfl ?_
    refine m_g58 rfl dX12_runs_105 ?_
    refine g_iload dX12_runs_108 rfl ?_
    refine g_iload_n dX12_runs_110 rfl ?_
    refine m_s40 dX12_runs_111 ⟨by have q0 := bl_39 (k := 0) hB94_55; (clear hb hm4 hm5 gc7_l gc7_b; omega), by have q0 := bl_39 (k := 0) hB94_55; (clear hb hm4 hm5 gc7_l gc7_b; omega)⟩ ?_
    have hB57 := ba_40 (z := a1) (k := (3 * (H94_55 39 0))) hB94_55 ⟨by (clear hb hm4 hm5 gc7_l gc7_b; omega), by (clear hb hm4 hm5 gc7_l gc7_b; omega)⟩
    refine g_aload_n dX12_runs_112 rfl ?_
    refine m_g58 rfl dX12_runs_113 ?_
    refine g_iload dX12_runs_116 rfl ?_
    refine g_iconst dX12_runs_118 ?_
    refine g_iadd dX12_runs_119 ?_
    refine g_iload_n dX12_runs_120 rfl ?_
    refine g_iconst dX12_runs_121 ?_
    refine g_icmp_ne (tgt := 129) dX12_runs_122 (by decide) ⟨by (clear hb hm4 hm5 gc7_l gc7_b; omega), by (clear hb hm4 hm5 gc7_l gc7_b; omega)⟩ (by decide) (fun k58 => ?_) (fun k58 => ?_)
    · have k58n : 0 ≤ rc7 := by (clear hb hm4 hm5 gc7_l gc7_b; omega)
      clear k58
      have r_gc7_b := (gc7_b.resolve_left (by (clear hb hm4 hm5 gc7_l gc7_b; omega)))
      have r_gc7_l := (gc7_l.resolve_left (by (clear hb hm4 hm5 gc7_l gc7_b; omega)))
      skip
      skip
      refine g_aload_n dX12_runs_129 rfl ?_
      refine m_g54 rfl dX12_runs_130 ?_
      refine g_iload_n dX12_runs_133 rfl ?_
      refine m_l36 (z := (P 36 rc7)) dX12_runs_134 ⟨by (clear hb hm4 hm5 gc7_l gc7_b; omega), by (clear hb hm4 hm5 gc7_l gc7_b; omega)⟩ ((up_o (by decide)).trans ((congrFun (hE94_55.2 36 rfl rfl) _).trans ((congrFun (hFc8.2 36 rfl rfl) _).trans ((congrFun (hFc5.2 36 rfl rfl) _).trans ((congrFun (hFc2.2 36 rfl rfl) _).trans rfl))))) ?_
      refine m_s40 dX12_runs_135 ⟨by have q0 := bl_39 (k := 0) hB94_55; (clear hb hm4 hm5 gc7_l gc7_b; omega), by have q0 := bl_39 (k := 0) hB94_55; (clear hb hm4 hm5 gc7_l gc7_b; omega)⟩ ?_
      have hB59 := ba_40 (z := (P 36 rc7)) (k := ((3 * (H94_55 39 0)) + 1)) hB57 ⟨by have q0 := bl_36 (k := rc7) hB; (clear hb hm4 hm5 gc7_l gc7_b; omega), by have q0 := bl_36 (k := rc7) hB; (clear hb hm4 hm5 gc7_l gc7_b; omega)⟩
      refine g_aload_n dX12_runs_136 rfl ?_
      refine m_g58 rfl dX12_runs_137 ?_
      refine g_iload dX12_runs_140 rfl ?_
      refine g_iconst dX12_runs_142 ?_
      refine g_iadd dX12_runs_143 ?_
      refine g_iload dX12_runs_144 rfl ?_
      refine m_s40 dX12_runs_146 ⟨by have q0 := bl_39 (k := 0) hB94_55; (clear hb hm4 hm5 gc7_l gc7_b; omega), by have q0 := bl_39 (k := 0) hB94_55; (clear hb hm4 hm5 gc7_l gc7_b; omega)⟩ ?_
      have hB60 := ba_40 (z := rc8) (k := ((3 * (H94_55 39 0)) + 2)) hB59 ⟨by (clear hb hm4 hm5 gc7_l gc7_b; omega), by (clear hb hm4 hm5 gc7_l gc7_b; omega)⟩
      refine g_aload_n dX12_runs_147 rfl ?_
      refine m_g57 rfl dX12_runs_148 ?_
      refine g_iconst dX12_runs_151 ?_
      refine g_dup2 dX12_runs_152 rfl rfl ?_
      refine m_l39 (z := (H94_55 39 0)) dX12_runs_153 (by decide) ((up_o (by decide)).trans ((up_o (by decide)).trans ((up_o (by decide)).trans rfl))) ?_
      refine g_iconst dX12_runs_154 ?_
      refine g_iadd dX12_runs_155 ?_
      refine m_s39 dX12_runs_156 (by decide) ?_
      have hB61 := ba_39 (z := ((H94_55 39 0) + 1)) (k := 0) hB60 ⟨by have q0 := bl_39 (k := 0) hB94_55; (clear hb hm4 hm5 gc7_l gc7_b; omega), by have q0 := bl_39 (k := 0) hB94_55; (clear hb hm4 hm5 gc7_l gc7_b; omega)⟩
      refine g_iload_n dX12_runs_157 rfl ?_
      exact g_retI dX12_runs_158 rfl (hQ rc7 ⟨by (clear hb hm4 hm5 gc7_l gc7_b; omega), by (clear hb hm4 hm5 gc7_l gc7_b; omega)⟩ _ hB61 (FrM.a (FrM.a (FrM.a (FrM.a (FrM.c (FrM.c (FrM.c (FrM.c FrM.rf hFc2 rfl) hFc5 rfl) hFc8 rfl) hE94_55 rfl) rfl rfl) rfl rfl) rfl rfl) rfl rfl) (by have q0 := (((up_o (by decide)).trans ((up_o (by decide)).trans ((up_o (by decide)).trans ((up_o (by decide)).trans ((hE94_55.1 74 rfl).trans ((hFc8.1 74 rfl).trans ((hFc5.1 74 rfl).trans rfl))))))) : (up (up (up (up H94_55 40 (3 * (H94_55 39 0)) a1) 40 ((3 * (H94_55 39 0)) + 1) (P 36 rc7)) 40 ((3 * (H94_55 39 0)) + 2) rc8) 39 0 ((H94_55 39 0) + 1)) 0 74 = (Pc2 0 74)); have q1 := b0_74 hBc2; (clear hb hm4 hm5 gc7_l gc7_b; omega)) ((MV.fr (F := ([], [39, 40])) vc8_MV (FrM.a (FrM.a (FrM.a (FrM.a (FrM.c FrM.rf hE94_55 rfl) rfl rfl) rfl rfl) rfl rfl) rfl rfl) rfl).w) (RE.fr (F := ([78], [39, 40, 44, 49, 50])) vc2_RE (FrM.a (FrM.a (FrM.a (FrM.a (FrM.c (FrM.c (FrM.c FrM.rf hFc5 rfl) hFc8 rfl) hE94_55 rfl) rfl rfl) rfl rfl) rfl rfl) rfl rfl) rfl) (AM.sc z0 (Or.inl rfl) (by have e : up A 0 3 (A 0 3 + 1) 0 3 = A 0 3 + 1 := up_same; rw [e]; have q := (up_same : (up (up (up (up H94_55 40 (3 * (H94_55 39 0)) a1) 40 ((3 * (H94_55 39 0)) + 1) (P 36 rc7)) 40 ((3 * (H94_55 39 0)) + 2) rc8) 39 0 ((H94_55 39 0) + 1)) 39 0 = ((H94_55 39 0) + 1)); (clear hb hm4 hm5 gc7_l gc7_b; omega)) (by have e : up A 0 3 (A 0 3 + 1) 0 5 = A 0 5 := up_k (by decide); rw [e]; have q := (((up_o (by decide)).trans ((up_o (by decide)).trans ((up_o (by decide)).trans ((up_o (by decide)).trans ((hE94_55.1 61 rfl).trans ((hFc8.1 61 rfl).trans ((hFc5.1 61 rfl).trans ((hFc2.1 61 rfl).trans rfl)))))))) : (up (up (up (up H94_55 40 (3 * (H94_55 39 0)) a1) 40 ((3 * (H94_55 39 0)) + 1) (P 36 rc7)) 40 ((3 * (H94_55 39 0)) + 2) rc8) 39 0 ((H94_55 39 0) + 1)) 0 61 = (P 0 61)); (clear hm4 hm5 gc7_l gc7_b; omega)) (by have e : up A 0 3 (A 0 3 + 1) 0 6 = A 0 6 := up_k (by decide); rw [e]; have q := (((up_o (by decide)).trans ((up_o (by decide)).trans ((up_o (by decide)).trans ((up_o (by decide)).trans ((hE94_55.1 92 rfl).trans ((hFc8.1 92 rfl).trans ((hFc5.1 92 rfl).trans ((hFc2.1 92 rfl).trans rfl)))))))) : (up (up (up (up H94_55 40 (3 * (H94_55 39 0)) a1) 40 ((3 * (H94_55 39 0)) + 1) (P 36 rc7)) 40 ((3 * (H94_55 39 0)) + 2) rc8) 39 0 ((H94_55 39 0) + 1)) 0 92 = (P 0 92)); (clear hm4 hm5 gc7_l gc7_b; omega)) ((up_o (by decide)).trans ((up_o (by decide)).trans ((up_o (by decide)).trans ((up_o (by decide)).trans ((hE94_55.1 59 rfl).trans ((hFc8.1 59 rfl).trans ((hFc5.1 59 rfl).trans ((hFc2.1 59 rfl).trans rfl)))))))) ((up_o (by decide)).trans ((up_o (by decide)).trans ((up_o (by decide)).trans ((up_o (by decide)).trans ((hE94_55.1 60 rfl).trans ((hFc8.1 60 rfl).trans ((hFc5.1 60 rfl).trans ((hFc2.1 60 rfl).trans rfl)))))))) (fun j => ((up_o (by decide)).trans ((up_o (by decide)).trans ((up_o (by decide)).trans ((up_o (by decide)).trans ((congrFun (hE94_55.2 35 rfl rfl) _).trans ((congrFun (hFc8.2 35 rfl rfl) _).trans ((congrFun (hFc5.2 35 rfl rfl) _).trans ((congrFun (hFc2.2 35 rfl rfl) _).trans rfl))))))))) (fun j => ((up_o (by decide)).trans ((up_o (by decide)).trans ((up_o (by decide)).trans ((up_o (by decide)).trans ((congrFun (hE94_55.2 36 rfl rfl) _).trans ((congrFun (hFc8.2 36 rfl rfl) _).trans ((congrFun (hFc5.2 36 rfl rfl) _).trans ((congrFun (hFc2.2 36 rfl rfl) _).trans rfl))))))))) (fun j => ((up_o (by decide)).trans ((up_o (by decide)).trans ((up_o (by decide)).trans ((up_o (by decide)).trans ((congrFun (hE94_55.2 37 rfl rfl) _).trans ((congrFun (hFc8.2 37 rfl rfl) _).trans ((congrFun (hFc5.2 37 rfl rfl) _).trans ((congrFun (hFc2.2 37 rfl rfl) _).trans rfl))))))))) (fun j => ((up_o (by decide)).trans ((up_o (by decide)).trans ((up_o (by decide)).trans ((up_o (by decide)).trans ((congrFun (hE94_55.2 38 rfl rfl) _).trans ((congrFun (hFc8.2 38 rfl rfl) _).trans ((congrFun (hFc5.2 38 rfl rfl) _).trans ((congrFun (hFc2.2 38 rfl rfl) _).trans rfl))))))))) (fun j hj => Eq.trans ((up_k hj).trans ((up_o (by decide)).trans ((up_o (by decide)).trans ((up_o (by decide)).trans rfl)))) (i94_2_55 j hj))))
    · skip
      have r_gc7_l := (gc7_l.resolve_right (by (clear hb hm4 hm5 gc7_l gc7_b; omega)))
      skip
      skip
      refine g_iconst dX12_runs_125 ?_
      refine g_goto (tgt := 135) dX12_runs_126 (by decide) ?_
      refine m_s40 dX12_runs_135 ⟨by have q0 := bl_39 (k := 0) hB94_55; (clear hb hm4 hm5 gc7_l gc7_b; omega), by have q0 := bl_39 (k := 0) hB94_55; (clear hb hm4 hm5 gc7_l gc7_b; omega)⟩ ?_
      have hB62 := ba_40 (z := (-1)) (k := ((3 * (H94_55 39 0)) + 1)) hB57 (by decide)
      refine g_aload_n dX12_runs_136 rfl ?_
      refine m_g58 rfl dX12_runs_137 ?_
      refine g_iload dX12_runs_140 rfl ?_
      refine g_iconst dX12_runs_142 ?_
      refine g_iadd dX12_runs_143 ?_
      refine g_iload dX12_runs_144 rfl ?_
      refine m_s40 dX12_runs_146 ⟨by have q0 := bl_39 (k := 0) hB94_55; (clear hb hm4 hm5 gc7_l gc7_b; omega), by have q0 := bl_39 (k := 0) hB94_55; (clear hb hm4 hm5 gc7_l gc7_b; omega)⟩ ?_
      have hB63 := ba_40 (z := rc8) (k := ((3 * (H94_55 39 0)) + 2)) hB62 ⟨by (clear hb hm4 hm5 gc7_l gc7_b; omega), by (clear hb hm4 hm5 gc7_l gc7_b; omega)⟩
      refine g_aload_n dX12_runs_147 rfl ?_
      refine m_g57 rfl dX12_runs_148 ?_
      refine g_iconst dX12_runs_151 ?_
      refine g_dup2 dX12_runs_152 rfl rfl ?_
      refine m_l39 (z := (H94_55 39 0)) dX12_runs_153 (by decide) ((up_o (by decide)).trans ((up_o (by decide)).trans ((up_o (by decide)).trans rfl))) ?_
      refine g_iconst dX12_runs_154 ?_
      refine g_iadd dX12_runs_155 ?_
      refine m_s39 dX12_runs_156 (by decide) ?_
      have hB64 := ba_39 (z := ((H94_55 39 0) + 1)) (k := 0) hB63 ⟨by have q0 := bl_39 (k := 0) hB94_55; (clear hb hm4 hm5 gc7_l gc7_b; omega), by have q0 := bl_39 (k := 0) hB94_55; (clear hb hm4 hm5 gc7_l gc7_b; omega)⟩
      refine g_iload_n dX12_runs_157 rfl ?_
      exact g_retI dX12_runs_158 rfl (hQ rc7 ⟨by (clear hb hm4 hm5 gc7_l gc7_b; omega), by (clear hb hm4 hm5 gc7_l gc7_b; omega)⟩ _ hB64 (FrM.a (FrM.a (FrM.a (FrM.a (FrM.c (FrM.c (FrM.c (FrM.c FrM.rf hFc2 rfl) hFc5 rfl) hFc8 rfl) hE94_55 rfl) rfl rfl) rfl rfl) rfl rfl) rfl rfl) (by have q0 := (((up_o (by decide)).trans ((up_o (by decide)).trans ((up_o (by decide)).trans ((up_o (by decide)).trans ((hE94_55.1 74 rfl).trans ((hFc8.1 74 rfl).trans ((hFc5.1 74 rfl).trans rfl))))))) : (up (up (up (up H94_55 40 (3 * (H94_55 39 0)) a1) 40 ((3 * (H94_55 39 0)) + 1) (-1)) 40 ((3 * (H94_55 39 0)) + 2) rc8) 39 0 ((H94_55 39 0) + 1)) 0 74 = (Pc2 0 74)); have q1 := b0_74 hBc2; (clear hb hm4 hm5 gc7_l gc7_b; omega)) ((MV.fr (F := ([], [39, 40])) vc8_MV (FrM.a (FrM.a (FrM.a (FrM.a (FrM.c FrM.rf hE94_55 rfl) rfl rfl) rfl rfl) rfl rfl) rfl rfl) rfl).w) (RE.fr (F := ([78], [39, 40, 44, 49, 50])) vc2_RE (FrM.a (FrM.a (FrM.a (FrM.a (FrM.c (FrM.c (FrM.c FrM.rf hFc5 rfl) hFc8 rfl) hE94_55 rfl) rfl rfl) rfl rfl) rfl rfl) rfl rfl) rfl) (AM.sc z0 (Or.inl rfl) (by have e : up A 0 3 (A 0 3 + 1) 0 3 = A 0 3 + 1 := up_same; rw [e]; have q := (up_same : (up (up (up (up H94_55 40 (3 * (H94_55 39 0)) a1) 40 ((3 * (H94_55 39 0)) + 1) (-1)) 40 ((3 * (H94_55 39 0)) + 2) rc8) 39 0 ((H94_55 39 0) + 1)) 39 0 = ((H94_55 39 0) + 1)); (clear hb hm4 hm5 gc7_l gc7_b; omega)) (by have e : up A 0 3 (A 0 3 + 1) 0 5 = A 0 5 := up_k (by decide); rw [e]; have q := (((up_o (by decide)).trans ((up_o (by decide)).trans ((up_o (by decide)).trans ((up_o (by decide)).trans ((hE94_55.1 61 rfl).trans ((hFc8.1 61 rfl).trans ((hFc5.1 61 rfl).trans ((hFc2.1 61 rfl).trans rfl)))))))) : (up (up (up (up H94_55 40 (3 * (H94_55 39 0)) a1) 40 ((3 * (H94_55 39 0)) + 1) (-1)) 40 ((3 * (H94_55 39 0)) + 2) rc8) 39 0 ((H94_55 39 0) + 1)) 0 61 = (P 0 61)); (clear hm4 hm5 gc7_l gc7_b; omega)) (by have e : up A 0 3 (A 0 3 + 1) 0 6 = A 0 6 := up_k (by decide); rw [e]; have q := (((up_o (by decide)).trans ((up_o (by decide)).trans ((up_o (by decide)).trans ((up_o (by decide)).trans ((hE94_55.1 92 rfl).trans ((hFc8.1 92 rfl).trans ((hFc5.1 92 rfl).trans ((hFc2.1 92 rfl).trans rfl)))))))) : (up (up (up (up H94_55 40 (3 * (H94_55 39 0)) a1) 40 ((3 * (H94_55 39 0)) + 1) (-1)) 40 ((3 * (H94_55 39 0)) + 2) rc8) 39 0 ((H94_55 39 0) + 1)) 0 92 = (P 0 92)); (clear hm4 hm5 gc7_l gc7_b; omega)) ((up_o (by decide)).trans ((up_o (by decide)).trans ((up_o (by decide)).trans ((up_o (by decide)).trans ((hE94_55.1 59 rfl).trans ((hFc8.1 59 rfl).trans ((hFc5.1 59 rfl).trans ((hFc2.1 59 rfl).trans rfl)))))))) ((up_o (by decide)).trans ((up_o (by decide)).trans ((up_o (by decide)).trans ((up_o (by decide)).trans ((hE94_55.1 60 rfl).trans ((hFc8.1 60 rfl).trans ((hFc5.1 60 rfl).trans ((hFc2.1 60 rfl).trans rfl)))))))) (fun j => ((up_o (by decide)).trans ((up_o (by decide)).trans ((up_o (by decide)).trans ((up_o (by decide)).trans ((congrFun (hE94_55.2 35 rfl rfl) _).trans ((congrFun (hFc8.2 35 rfl rfl) _).trans ((congrFun (hFc5.2 35 rfl rfl) _).trans ((congrFun (hFc2.2 35 rfl rfl) _).trans rfl))))))))) (fun j => ((up_o (by decide)).trans ((up_o (by decide)).trans ((up_o (by decide)).trans ((up_o (by decide)).trans ((congrFun (hE94_55.2 36 rfl rfl) _).trans ((congrFun (hFc8.2 36 rfl rfl) _).trans ((congrFun (hFc5.2 36 rfl rfl) _).trans ((congrFun (hFc2.2 36 rfl rfl) _).trans rfl))))))))) (fun j => ((up_o (by decide)).trans ((up_o (by decide)).trans ((up_o (by decide)).trans ((up_o (by decide)).trans ((congrFun (hE94_55.2 37 rfl rfl) _).trans ((congrFun (hFc8.2 37 rfl rfl) _).trans ((congrFun (hFc5.2 37 rfl rfl) _).trans ((congrFun (hFc2.2 37 rfl rfl) _).trans rfl))))))))) (fun j => ((up_o (by decide)).trans ((up_o (by decide)).trans ((up_o (by decide)).trans ((up_o (by decide)).trans ((congrFun (hE94_55.2 38 rfl rfl) _).trans ((congrFun (hFc8.2 38 rfl rfl) _).trans ((congrFun (hFc5.2 38 rfl rfl) _).trans ((congrFun (hFc2.2 38 rfl rfl) _).trans rfl))))))))) (fun j hj => Eq.trans ((up_k hj).trans ((up_o (by decide)).trans ((up_o (by decide)).trans ((up_o (by decide)).trans rfl)))) (i94_2_55 j hj))))
  refine g_icmp_ne (tgt := 94) dX12_runs_49 (by decide) ⟨by have q0 := bl_39 (k := 0) hB; (clear hb hm4 hm5 gc7_l gc7_b; omega), by have q0 := bl_39 (k := 0) hB; (clear hb hm4 hm5 gc7_l gc7_b; omega)⟩ (by decide) (fun k65 => ?_) (fun k65 => ?_)
  · have k65n : (P 39 0) ≤ 39 := by have q0 := bl_39 (k := 0) hB; (clear hb hm4 hm5 gc7_l gc7_b; omega)
    clear k65
    skip
    skip
    skip
    skip
    refine g_forget (l1 := [(0, vR 0), (1, vI a1), (3, vI rc7), (4, vI rc8)]) (by intro q hq; simp only [List.mem_cons, List.not_mem_nil, or_false] at hq ⊢; rcases hq with rfl | rfl | rfl | rfl <;> simp) ?_
    exact J94_55 _ hBc8 FrM.rf (by have q0 := (((congrFun (hFc8.2 39 rfl rfl) _).trans ((congrFun (hFc5.2 39 rfl rfl) _).trans ((congrFun (hFc2.2 39 rfl rfl) _).trans rfl))) : Pc8 39 0 = (P 39 0)); have q1 := bl_39 (k := 0) hB; (clear hb hm4 hm5 gc7_l gc7_b; omega)) (by have q0 := (((congrFun (hFc8.2 39 rfl rfl) _).trans ((congrFun (hFc5.2 39 rfl rfl) _).trans ((congrFun (hFc2.2 39 rfl rfl) _).trans rfl))) : Pc8 39 0 = (P 39 0)); have q1 := bl_39 (k := 0) hB; (omega)) (by first | exact fun j hj => ((congrFun (hFc8.2 39 rfl rfl) _).trans ((congrFun (hFc5.2 39 rfl rfl) _).trans ((congrFun (hFc2.2 39 rfl rfl) _).trans rfl))))
  · skip
    skip
    skip
    skip
    refine g_iconst dX12_runs_52 ?_
    refine g_istore (l1 := [(5, vI 0), (4, vI rc8), (3, vI rc7), (2, vI rc4), (0, vR 0), (1, vI a1)]) dX12_runs_53 (by decide) rfl ?_
    have L55_65 : ∀ (n55_65 : Nat) (x55_5_65 : Int) (h_x55_5_65 : 0 ≤ x55_5_65 ∧ x55_5_65 ≤ 117) (H55_65 : PH) (hB55_65 : BdM H55_65) (hE55_65 : FrM ([], [40]) Pc8 H55_65) (hm55_65 : ((118 - x55_5_65) : Int).toNat < n55_65), Go WSM G 5 iX12_runs 55 [(0, vR 0), (1, vI a1), (3, vI rc7), (4, vI rc8), (5, vI x55_5_65)] [] H55_65 Q := by
      intro n55_65
      induction n55_65 with
      | zero => intro x55_5_65 h_x55_5_65 H55_65 hB55_65 hE55_65 hm55_65; exact absurd hm55_65 (Nat.not_lt_zero _)
      | succ n55_65 ih55_65 =>
      intro x55_5_65 h_x55_5_65 H55_65 hB55_65 hE55_65 hm55_65
      refine g_iload dX12_runs_55 rfl ?_
      refine g_bipush dX12_runs_57 (by decide) ?_
      refine g_icmp_ge (tgt := 84) dX12_runs_59 (by decide) ⟨by (clear hb hm4 hm5 gc7_l gc7_b; omega), by (clear hb hm4 hm5 gc7_l gc7_b; omega)⟩ (by decide) (fun k100 => ?_) (fun k100 => ?_)
      · skip
        skip
        skip
        skip
        refine g_aload_n dX12_runs_84 rfl ?_
        refine m_g57 rfl dX12_runs_85 ?_
        refine g_iconst dX12_runs_88 ?_
        refine g_dup2 dX12_runs_89 rfl rfl ?_
        refine m_l39 (z := (P 39 0)) dX12_runs_90 (by decide) ((congrFun (hE55_65.2 39 rfl rfl) _).trans ((congrFun (hFc8.2 39 rfl rfl) _).trans ((congrFun (hFc5.2 39 rfl rfl) _).trans ((congrFun (hFc2.2 39 rfl rfl) _).trans rfl)))) ?_
        refine g_iconst dX12_runs_91 ?_
        refine g_isub dX12_runs_92 ?_
        refine m_s39 dX12_runs_93 (by decide) ?_
        have hB101 := ba_39 (z := ((P 39 0) - 1)) (k := 0) hB55_65 ⟨by have q0 := bl_39 (k := 0) hB; (clear hb hm4 hm5 gc7_l gc7_b; omega), by have q0 := bl_39 (k := 0) hB; (clear hb hm4 hm5 gc7_l gc7_b; omega)⟩
        refine g_forget (l1 := [(0, vR 0), (1, vI a1), (3, vI rc7), (4, vI rc8)]) (by intro q hq; simp only [List.mem_cons, List.not_mem_nil, or_false] at hq ⊢; rcases hq with rfl | rfl | rfl | rfl <;> simp) ?_
        exact J94_55 _ hB101 (FrM.a (FrM.c FrM.rf hE55_65 rfl) rfl rfl) (by have q0 := (up_same : (up H55_65 39 0 ((P 39 0) - 1)) 39 0 = ((P 39 0) - 1)); have q1 := bl_39 (k := 0) hB; (clear hb hm4 hm5 gc7_l gc7_b; omega)) (by have q0 := (up_same : (up H55_65 39 0 ((P 39 0) - 1)) 39 0 = ((P 39 0) - 1)); have q1 := bl_39 (k := 0) hB; (omega)) (by first | exact fun j hj => ((up_k hj).trans ((congrFun (hE55_65.2 39 rfl rfl) _).trans ((congrFun (hFc8.2 39 rfl rfl) _).trans ((congrFun (hFc5.2 39 rfl rfl) _).trans ((congrFun (hFc2.2 39 rfl rfl) _).trans rfl))))))
      · skip
        skip
        skip
        skip
        refine g_aload_n dX12_runs_62 rfl ?_
        refine m_g58 rfl dX12_runs_63 ?_
        refine g_iload dX12_runs_66 rfl ?_
        refine g_aload_n dX12_runs_68 rfl ?_
        refine m_g58 rfl dX12_runs_69 ?_
        refine g_iload dX12_runs_72 rfl ?_
        refine g_iconst dX12_runs_74 ?_
        refine g_iadd dX12_runs_75 ?_
        refine m_l40 (z := (H55_65 40 (x55_5_65 + 3))) dX12_runs_76 ⟨by (clear hb hm4 hm5 gc7_l gc7_b; omega), by (clear hb hm4 hm5 gc7_l gc7_b; omega)⟩ rfl ?_
        refine m_s40 dX12_runs_77 ⟨by (clear hb hm4 hm5 gc7_l gc7_b; omega), by (clear hb hm4 hm5 gc7_l gc7_b; omega)⟩ ?_
        have hB102 := ba_40 (z := (H55_65 40 (x55_5_65 + 3))) (k := x55_5_65) hB55_65 ⟨by have q0 := bl_40 (k := (x55_5_65 + 3)) hB55_65; (clear hb hm4 hm5 gc7_l gc7_b; omega), by have q0 := bl_40 (k := (x55_5_65 + 3)) hB55_65; (clear hb hm4 hm5 gc7_l gc7_b; omega)⟩
        refine g_iinc (l1 := [(5, vI (x55_5_65 + 1)), (0, vR 0), (1, vI a1), (3, vI rc7), (4, vI rc8)]) dX12_runs_78 rfl (by decide) rfl ?_
        refine g_goto (tgt := 55) dX12_runs_81 (by decide) ?_
        refine g_forget (l1 := [(0, vR 0), (1, vI a1), (3, vI rc7), (4, vI rc8), (5, vI (x55_5_65 + 1))]) (by intro q hq; simp only [List.mem_cons, List.not_mem_nil, or_false] at hq ⊢; rcases hq with rfl | rfl | rfl | rfl | rfl <;> simp) ?_
        exact ih55_65 (x55_5_65 + 1) ⟨by (clear hb hm4 hm5 gc7_l gc7_b; omega), by (clear hb hm4 hm5 gc7_l gc7_b; omega)⟩ _ hB102 (FrM.a (FrM.c FrM.rf hE55_65 rfl) rfl rfl) (by (clear hb hm4 hm5 gc7_l gc7_b; omega))
    refine g_forget (l1 := [(0, vR 0), (1, vI a1), (3, vI rc7), (4, vI rc8), (5, vI 0)]) (by intro q hq; simp only [List.mem_cons, List.not_mem_nil, or_false] at hq ⊢; rcases hq with rfl | rfl | rfl | rfl | rfl <;> simp) ?_
    exact L55_65 _ 0 (by decide) _ hBc8 FrM.rf (Nat.lt_succ_self _)
/-! What the reference answers: X12_see. -/
set_option maxRecDepth 100000 in
set_option maxHeartbeats 4000000 in
theorem f_X12_see (G : GT) (P : PH) (T : TT) (A : PH) (M : PH) (hB : BdM P) (z0 : CM T P) (z1 : AM A P) (z2 : MH M P) (z3 : MR M P) (Q : Option PV → PH → Prop) (hQ : ∀ (r : Int) (_ : (-2147483648) ≤ r ∧ r ≤ 2147483647) (P1 : PH) (_ : BdM P1) (_ : FrM ([1, 92], [28, 59, 60]) P P1) (_ : P1 0 1 = 0) (_ : (r = -1 ∧ ¬ seOk T M A) ∨ (r = T.2 / 3 ∧ seOk T M A)) (_ : AM (aSee T M A) P1), Q (some (vI r)) P1) : Ct WSM G 2 iX12_see [vR 0] P Q := by
  refine Ct.of (by decide) (l0 := [(0, vR 0)]) rfl (Nat.le_of_ble_eq_true rfl) ?_
  have hb := z1.b
  have ht := z0.1
  have hTv := z0.2
  have hmh := z2
  unfold MH at hmh
  have hmr := z3
  unfold MR at hmr
  have q44 := b0_44 hB
  have q1t := b0_1 hB
  refine g_aload_n dX12_see_0 rfl ?_
  refine m_g1 (z := (P 0 1)) rfl dX12_see_1 rfl ?_
  refine g_istore_n (l1 := [(1, vI (P 0 1)), (0, vR 0)]) dX12_see_4 (by decide) rfl ?_
  refine g_aload_n dX12_see_5 rfl ?_
  refine g_iconst dX12_see_6 ?_
  refine m_p1 rfl dX12_see_7 ?_
  have hB1 := bs_1 (z := 0) hB (by decide)
  refine g_aload_n dX12_see_10 rfl ?_
  refine m_g44 (z := (P 0 44)) rfl dX12_see_11 ((up_k (by decide)).trans rfl) ?_
  have f2 := b0_44 hB
  have J38_920 : ∀ (y38_0_920 : Int) (h_y38_0_920 : 0 ≤ y38_0_920 ∧ y38_0_920 ≤ 1) (i38_0_920 : (y38_0_920 = 1 ∧ 0 < M 0 0 ∧ 0 < T.2 ∧ T.2 % 3 = 0 ∧ T.2 ≤ 48) ∨ (y38_0_920 = 0 ∧ (M 0 0 ≤ 0 ∨ T.2 ≤ 0 ∨ T.2 % 3 ≠ 0 ∨ 48 < T.2))), Go WSM G 2 iX12_see 38 [(0, vR 0), (1, vI (P 0 1))] [vI y38_0_920] (up P 0 1 0) Q := by
    intro y38_0_920 h_y38_0_920 i38_0_920
    have hs0 : SEI T M A 0 y38_0_920 := SEI.st i38_0_920
    refine g_istore_n (l1 := [(2, vI y38_0_920), (0, vR 0), (1, vI (P 0 1))]) dX12_see_38 (by decide) rfl ?_
    refine g_iconst dX12_see_39 ?_
    refine g_istore_n (l1 := [(3, vI 0), (2, vI y38_0_920), (0, vR 0), (1, vI (P 0 1))]) dX12_see_40 (by decide) rfl ?_
    have L41_921 : ∀ (n41_921 : Nat) (x41_3_921 : Int) (h_x41_3_921 : 0 ≤ x41_3_921 ∧ x41_3_921 ≤ 1603) (x41_2_921 : Int) (h_x41_2_921 : 0 ≤ x41_2_921 ∧ x41_2_921 ≤ 1) (i41_0_921 : x41_2_921 = 0 ∨ (P 0 1) ≤ 48) (i41_1_921 : SEI T M A x41_3_921 x41_2_921) (i41_2_921 : x41_3_921 % 3 = 0) (hm41_921 : (1604 - x41_3_921 : Int).toNat < n41_921), Go WSM G 2 iX12_see 41 [(0, vR 0), (1, vI (P 0 1)), (2, vI x41_2_921), (3, vI x41_3_921)] [] (up P 0 1 0) Q := by
      intro n41_921
      induction n41_921 with
      | zero => intro x41_3_921 h_x41_3_921 x41_2_921 h_x41_2_921 i41_0_921 i41_1_921 i41_2_921 hm41_921; exact absurd hm41_921 (Nat.not_lt_zero _)
      | succ n41_921 ih41_921 =>
      intro x41_3_921 h_x41_3_921 x41_2_921 h_x41_2_921 i41_0_921 i41_1_921 i41_2_921 hm41_921
      refine g_iload_n dX12_see_41 rfl ?_
      refine g_iload_n dX12_see_42 rfl ?_
      have f1615 := b0_1 hB
      refine g_icmp_ge (tgt := 118) dX12_see_43 (by decide) ⟨by (clear hmh hmr i38_0_920 i41_0_921; omega), by (clear hmh hmr i38_0_920 i41_0_921; omega)⟩ ⟨by have q0 := b0_1 hB; (clear hmh hmr i38_0_920 i41_0_921; omega), by have q0 := b0_1 hB; (clear hmh hmr i38_0_920 i41_0_921; omega)⟩ (fun k1616 => ?_) (fun k1616 => ?_)
      · skip
        skip
        refine g_iload_n dX12_see_118 rfl ?_
        refine g_if_ne (tgt := 128) dX12_see_119 (by decide) ⟨by (clear hmh hmr i38_0_920 i41_0_921; omega), by (clear hmh hmr i38_0_920 i41_0_921; omega)⟩ (fun k1617 => ?_) (fun k1617 => ?_)
        · have k1617n : 1 ≤ x41_2_921 := by (clear hmh hmr i38_0_920 i41_0_921; omega)
          clear k1617
          have r_i41_0_921 := (i41_0_921.resolve_left (by (clear hmh hmr i38_0_920 i41_0_921; omega)))
          skip
          refine g_aload_n dX12_see_128 rfl ?_
          have hse := ((i41_1_921).on (by (clear hmh hmr i38_0_920 i41_0_921; omega))).end (by (clear hmh hmr i38_0_920 i41_0_921; omega))
          refine g_iload_n dX12_see_129 rfl ?_
          refine g_iconst dX12_see_130 ?_
          refine g_idiv dX12_see_131 ⟨(by decide), by decide⟩ ?_
          refine g_nm (fun b1618 e_b1618 => ?_)
          have h_b1618 := idiv_p (x := (P 0 1)) (y := 3) ⟨by have q0 := b0_1 hB; (clear hmh hmr i38_0_920 i41_0_921; omega), by have q0 := b0_1 hB; (clear hmh hmr i38_0_920 i41_0_921; omega)⟩ ⟨by (clear hmh hmr i38_0_920 i41_0_921; omega), by (clear hmh hmr i38_0_920 i41_0_921; omega)⟩
          rw [← e_b1618] at h_b1618
          have f_b1618_0 := b0_1 hB
          refine m_p92 rfl dX12_see_132 ?_
          have hB1619 := bs_92 (z := b1618) hB1 ⟨by (clear hmh hmr i38_0_920 i41_0_921; omega), by (clear hmh hmr i38_0_920 i41_0_921; omega)⟩
          refine g_iconst dX12_see_135 ?_
          refine g_istore_n (l1 := [(3, vI 0), (0, vR 0), (1, vI (P 0 1)), (2, vI x41_2_921)]) dX12_see_136 (by decide) rfl ?_
          have L137_1619 : ∀ (n137_1619 : Nat) (x137_3_1619 : Int) (h_x137_3_1619 : 0 ≤ x137_3_1619 ∧ x137_3_1619 ≤ 533) (H137_1619 : PH) (hB137_1619 : BdM H137_1619) (hE137_1619 : FrM ([], [59, 60]) (up (up P 0 1 0) 0 92 b1618) H137_1619) (hm137_1619 : ((534 - x137_3_1619) : Int).toNat < n137_1619), Go WSM G 2 iX12_see 137 [(0, vR 0), (3, vI x137_3_1619)] [] H137_1619 Q := by
            intro n137_1619
            induction n137_1619 with
            | zero => intro x137_3_1619 h_x137_3_1619 H137_1619 hB137_1619 hE137_1619 hm137_1619; exact absurd hm137_1619 (Nat.not_lt_zero _)
            | succ n137_1619 ih137_1619 =>
            intro x137_3_1619 h_x137_3_1619 H137_1619 hB137_1619 hE137_1619 hm137_1619
            refine g_iload_n dX12_see_137 rfl ?_
            refine g_aload_n dX12_see_138 rfl ?_
            refine m_g92 (z := b1618) rfl dX12_see_139 ((hE137_1619.1 92 rfl).trans up_same) ?_
            refine g_icmp_ge (tgt := 215) dX12_see_142 (by decide) ⟨by (clear hmh hmr i38_0_920 i41_0_921; omega), by (clear hmh hmr i38_0_920 i41_0_921; omega)⟩ ⟨by (clear hmh hmr i38_0_920 i41_0_921; omega), by (clear hmh hmr i38_0_920 i41_0_921; omega)⟩ (fun k1797 => ?_) (fun k1797 => ?_)
            · skip
              skip
              refine g_aload_n dX12_see_215 rfl ?_
              refine m_g92 (z := b1618) rfl dX12_see_216 ((hE137_1619.1 92 rfl).trans up_same) ?_
              exact g_retI dX12_see_219 rfl (hQ b1618 ⟨by (clear hmh hmr i38_0_920 i41_0_921; omega), by (clear hmh hmr i38_0_920 i41_0_921; omega)⟩ _ hB137_1619 (FrM.c (FrM.s (FrM.s FrM.rf rfl) rfl) hE137_1619 rfl) (by have q0 := (((hE137_1619.1 1 rfl).trans ((up_k (by decide)).trans up_same)) : H137_1619 0 1 = 0); (clear hmh hmr i38_0_920 i41_0_921; omega)) (Or.inr ⟨by have q := (((hE137_1619.1 92 rfl).trans up_same) : H137_1619 0 92 = b1618); (clear hmh hmr i38_0_920 i41_0_921; omega), hse⟩) (by rw [aSee_y hse]; exact z1.se (F := ([1, 92], [59, 60])) (by have q := (((hE137_1619.1 92 rfl).trans up_same) : H137_1619 0 92 = b1618); (clear hmh hmr i38_0_920 i41_0_921; omega)) (FrM.c (FrM.s (FrM.s FrM.rf rfl) rfl) hE137_1619 rfl) rfl))
            · skip
              skip
              refine g_aload_n dX12_see_145 rfl ?_
              refine m_g93 rfl dX12_see_146 ?_
              refine g_iload_n dX12_see_149 rfl ?_
              refine g_aload_n dX12_see_150 rfl ?_
              refine m_g0 rfl dX12_see_151 ?_
              refine g_iconst dX12_see_154 ?_
              refine g_iload_n dX12_see_155 rfl ?_
              refine g_imul dX12_see_156 ?_
              refine m_l1 (z := (P 1 (3 * x137_3_1619))) dX12_see_157 ⟨by (clear hmh hmr i38_0_920 i41_0_921; omega), by (clear hmh hmr i38_0_920 i41_0_921; omega)⟩ ((congrFun (hE137_1619.2 1 rfl rfl) _).trans ((up_o (by decide)).trans ((up_o (by decide)).trans rfl))) ?_
              refine g_bipush dX12_see_158 (by decide) ?_
              refine g_ishl dX12_see_160 ?_
              refine g_nm (fun b1798 e_b1798 => ?_)
              have h_b1798 : (ishl (P 1 (3 * x137_3_1619)) 8) = (P 1 (3 * x137_3_1619)) * 256 := ishl_c 8 (by decide) (x := (P 1 (3 * x137_3_1619))) (show IR ((P 1 (3 * x137_3_1619)) * 256) from ⟨by have q0 := bl_1 (k := (3 * x137_3_1619)) hB; (clear hmh hmr i38_0_920 i41_0_921; omega), by have q0 := bl_1 (k := (3 * x137_3_1619)) hB; (clear hmh hmr i38_0_920 i41_0_921; omega)⟩)
              rw [← e_b1798] at h_b1798
              have f_b1798_0 := bl_1 (k := (3 * x137_3_1619)) hB
              refine g_aload_n dX12_see_161 rfl ?_
              refine m_g0 rfl dX12_see_162 ?_
              refine g_iconst dX12_see_165 ?_
              refine g_iload_n dX12_see_166 rfl ?_
              refine g_imul dX12_see_167 ?_
              refine g_iconst dX12_see_168 ?_
              refine g_iadd dX12_see_169 ?_
              refine m_l1 (z := (P 1 ((3 * x137_3_1619) + 1))) dX12_see_170 ⟨by (clear hmh hmr i38_0_920 i41_0_921; omega), by (clear hmh hmr i38_0_920 i41_0_921; omega)⟩ ((congrFun (hE137_1619.2 1 rfl rfl) _).trans ((up_o (by decide)).trans ((up_o (by decide)).trans rfl))) ?_
              refine g_ior dX12_see_171 ?_
              refine g_nm (fun b1799 e_b1799 => ?_)
              have h_b1799 : 0 ≤ (ior b1798 (P 1 ((3 * x137_3_1619) + 1))) ∧ (ior b1798 (P 1 ((3 * x137_3_1619) + 1))) < 65536 := ior_b 16 (by decide) (x := b1798) (y := (P 1 ((3 * x137_3_1619) + 1))) (show 0 ≤ b1798 ∧ b1798 < 65536 from ⟨by (clear hmh hmr i38_0_920 i41_0_921; omega), by (clear hmh hmr i38_0_920 i41_0_921; omega)⟩) (show 0 ≤ (P 1 ((3 * x137_3_1619) + 1)) ∧ (P 1 ((3 * x137_3_1619) + 1)) < 65536 from ⟨by have q0 := bl_1 (k := ((3 * x137_3_1619) + 1)) hB; (clear hmh hmr i38_0_920 i41_0_921; omega), by have q0 := bl_1 (k := ((3 * x137_3_1619) + 1)) hB; (clear hmh hmr i38_0_920 i41_0_921; omega)⟩)
              rw [← e_b1799] at h_b1799
              refine m_s59 dX12_see_172 ⟨by (clear hmh hmr i38_0_920 i41_0_921; omega), by (clear hmh hmr i38_0_920 i41_0_921; omega)⟩ ?_
              have hB1800 := ba_59 (z := b1799) (k := x137_3_1619) hB137_1619 ⟨by (clear hmh hmr i38_0_920 i41_0_921; omega), by (clear hmh hmr i38_0_920 i41_0_921; omega)⟩
              refine g_aload_n dX12_see_173 rfl ?_
              refine m_g94 rfl dX12_see_174 ?_
              refine g_iload_n dX12_see_177 rfl ?_
              refine g_aload_n dX12_see_178 rfl ?_
              refine m_g0 rfl dX12_see_179 ?_
              refine g_iconst dX12_see_182 ?_
              refine g_iload_n dX12_see_183 rfl ?_
              refine g_imul dX12_see_184 ?_
              refine g_iconst dX12_see_185 ?_
              refine g_iadd dX12_see_186 ?_
              refine m_l1 (z := (P 1 ((3 * x137_3_1619) + 2))) dX12_see_187 ⟨by (clear hmh hmr i38_0_920 i41_0_921; omega), by (clear hmh hmr i38_0_920 i41_0_921; omega)⟩ ((up_o (by decide)).trans ((congrFun (hE137_1619.2 1 rfl rfl) _).trans ((up_o (by decide)).trans ((up_o (by decide)).trans rfl)))) ?_
              refine g_sipush dX12_see_188 (by decide) ?_
              have f1801 := bl_1 (k := ((3 * x137_3_1619) + 2)) hB
              refine g_icmp_ne (tgt := 198) dX12_see_191 (by decide) ⟨by have q0 := bl_1 (k := ((3 * x137_3_1619) + 2)) hB; (clear hmh hmr i38_0_920 i41_0_921; omega), by have q0 := bl_1 (k := ((3 * x137_3_1619) + 2)) hB; (clear hmh hmr i38_0_920 i41_0_921; omega)⟩ (by decide) (fun k1802 => ?_) (fun k1802 => ?_)
              · have k1802n : (P 1 ((3 * x137_3_1619) + 2)) ≤ 254 := by have q0 := bl_1 (k := ((3 * x137_3_1619) + 2)) hB; (clear hmh hmr i38_0_920 i41_0_921; omega)
                clear k1802
                skip
                skip
                refine g_aload_n dX12_see_198 rfl ?_
                refine m_g0 rfl dX12_see_199 ?_
                refine g_iconst dX12_see_202 ?_
                refine g_iload_n dX12_see_203 rfl ?_
                refine g_imul dX12_see_204 ?_
                refine g_iconst dX12_see_205 ?_
                refine g_iadd dX12_see_206 ?_
                refine m_l1 (z := (P 1 ((3 * x137_3_1619) + 2))) dX12_see_207 ⟨by (clear hmh hmr i38_0_920 i41_0_921; omega), by (clear hmh hmr i38_0_920 i41_0_921; omega)⟩ ((up_o (by decide)).trans ((congrFun (hE137_1619.2 1 rfl rfl) _).trans ((up_o (by decide)).trans ((up_o (by decide)).trans rfl)))) ?_
                refine m_s60 dX12_see_208 ⟨by (clear hmh hmr i38_0_920 i41_0_921; omega), by (clear hmh hmr i38_0_920 i41_0_921; omega)⟩ ?_
                have hB1803 := ba_60 (z := (P 1 ((3 * x137_3_1619) + 2))) (k := x137_3_1619) hB1800 ⟨by have q0 := bl_1 (k := ((3 * x137_3_1619) + 2)) hB; (clear hmh hmr i38_0_920 i41_0_921; omega), by have q0 := bl_1 (k := ((3 * x137_3_1619) + 2)) hB; (clear hmh hmr i38_0_920 i41_0_921; omega)⟩
                refine g_iinc (l1 := [(3, vI (x137_3_1619 + 1)), (0, vR 0)]) dX12_see_209 rfl (by decide) rfl ?_
                refine g_goto (tgt := 137) dX12_see_212 (by decide) ?_
                refine g_forget (l1 := [(0, vR 0), (3, vI (x137_3_1619 + 1))]) (by intro q hq; simp only [List.mem_cons, List.not_mem_nil, or_false] at hq ⊢; rcases hq with rfl | rfl <;> simp) ?_
                exact ih137_1619 (x137_3_1619 + 1) ⟨by (clear hmh hmr i38_0_920 i41_0_921; omega), by (clear hmh hmr i38_0_920 i41_0_921; omega)⟩ _ hB1803 (FrM.a (FrM.a (FrM.c FrM.rf hE137_1619 rfl) rfl rfl) rfl rfl) (by (clear hmh hmr i38_0_920 i41_0_921; omega))
              · skip
                skip
                refine g_iconst dX12_see_194 ?_
                refine g_goto (tgt := 208) dX12_see_195 (by decide) ?_
                refine m_s60 dX12_see_208 ⟨by (clear hmh hmr i38_0_920 i41_0_921; omega), by (clear hmh hmr i38_0_920 i41_0_921; omega)⟩ ?_
                have hB1804 := ba_60 (z := (-1)) (k := x137_3_1619) hB1800 (by decide)
                refine g_iinc (l1 := [(3, vI (x137_3_1619 + 1)), (0, vR 0)]) dX12_see_209 rfl (by decide) rfl ?_
                refine g_goto (tgt := 137) dX12_see_212 (by decide) ?_
                refine g_forget (l1 := [(0, vR 0), (3, vI (x137_3_1619 + 1))]) (by intro q hq; simp only [List.mem_cons, List.not_mem_nil, or_false] at hq ⊢; rcases hq with rfl | rfl <;> simp) ?_
                exact ih137_1619 (x137_3_1619 + 1) ⟨by (clear hmh hmr i38_0_920 i41_0_921; omega), by (clear hmh hmr i38_0_920 i41_0_921; omega)⟩ _ hB1804 (FrM.a (FrM.a (FrM.c FrM.rf hE137_1619 rfl) rfl rfl) rfl rfl) (by (clear hmh hmr i38_0_920 i41_0_921; omega))
          refine g_forget (l1 := [(0, vR 0), (3, vI 0)]) (by intro q hq; simp only [List.mem_cons, List.not_mem_nil, or_false] at hq ⊢; rcases hq with rfl | rfl <;> simp) ?_
          exact L137_1619 _ 0 (by decide) _ hB1619 FrM.rf (Nat.lt_succ_self _)
        · skip
          skip
          refine g_aload_n dX12_see_122 rfl ?_
          have hno := (i41_1_921).off (by (clear hmh hmr i38_0_920 i41_0_921; omega))
          refine g_iconst dX12_see_123 ?_
          refine g_vI (av := [vI 5]) (o := 0) (st := []) (m_X12_refuses G (up P 0 1 0) 5 (by decide) hB1  _ (fun rc1805 hc1805 Pc1805 hBc1805 hFc1805 => ⟨rc1805, rfl, ?_⟩)) cf_X12_refuses t_1667 rfl (by decide) rfl rfl rfl (Nat.le_of_ble_eq_true rfl) (by decide) rfl dX12_see_124
          exact g_retI dX12_see_127 rfl (hQ rc1805 ⟨by (clear hmh hmr i38_0_920 i41_0_921; omega), by (clear hmh hmr i38_0_920 i41_0_921; omega)⟩ _ hBc1805 (FrM.c (FrM.s FrM.rf rfl) hFc1805 rfl) (by have q0 := (((hFc1805.1 1 rfl).trans up_same) : Pc1805 0 1 = 0); (clear hmh hmr i38_0_920 i41_0_921; omega)) (Or.inl ⟨by (clear hmh hmr i38_0_920 i41_0_921; omega), hno⟩) (by rw [aSee_n hno]; exact (AM.fr (F := ([1], [28])) z1 (FrM.c (FrM.s FrM.rf rfl) hFc1805 rfl) rfl)))
      · skip
        skip
        refine g_iload_n dX12_see_46 rfl ?_
        refine g_if_eq (tgt := 118) dX12_see_47 (by decide) ⟨by (clear hmh hmr i38_0_920 i41_0_921; omega), by (clear hmh hmr i38_0_920 i41_0_921; omega)⟩ (fun k1806 => ?_) (fun k1806 => ?_)
        · skip
          skip
          refine g_iload_n dX12_see_118 rfl ?_
          refine g_if_ne (tgt := 128) dX12_see_119 (by decide) ⟨by (clear hmh hmr i38_0_920 i41_0_921; omega), by (clear hmh hmr i38_0_920 i41_0_921; omega)⟩ (fun k1807 => by exfalso; (clear hmh hmr i38_0_920 i41_0_921; omega)) (fun k1807 => ?_)
          skip
          skip
          refine g_aload_n dX12_see_122 rfl ?_
          have hno := (i41_1_921).off (by (clear hmh hmr i38_0_920 i41_0_921; omega))
          refine g_iconst dX12_see_123 ?_
          refine g_vI (av := [vI 5]) (o := 0) (st := []) (m_X12_refuses G (up P 0 1 0) 5 (by decide) hB1  _ (fun rc1808 hc1808 Pc1808 hBc1808 hFc1808 => ⟨rc1808, rfl, ?_⟩)) cf_X12_refuses t_1667 rfl (by decide) rfl rfl rfl (Nat.le_of_ble_eq_true rfl) (by decide) rfl dX12_see_124
          exact g_retI dX12_see_127 rfl (hQ rc1808 ⟨by (clear hmh hmr i38_0_920 i41_0_921; omega), by (clear hmh hmr i38_0_920 i41_0_921; omega)⟩ _ hBc1808 (FrM.c (FrM.s FrM.rf rfl) hFc1808 rfl) (by have q0 := (((hFc1808.1 1 rfl).trans up_same) : Pc1808 0 1 = 0); (clear hmh hmr i38_0_920 i41_0_921; omega)) (Or.inl ⟨by (clear hmh hmr i38_0_920 i41_0_921; omega), hno⟩) (by rw [aSee_n hno]; exact (AM.fr (F := ([1], [28])) z1 (FrM.c (FrM.s FrM.rf rfl) hFc1808 rfl) rfl)))
        · have k1806n : 1 ≤ x41_2_921 := by (clear hmh hmr i38_0_920 i41_0_921; omega)
          clear k1806
          have r_i41_0_921 := (i41_0_921.resolve_left (by (clear hmh hmr i38_0_920 i41_0_921; omega)))
          skip
          refine g_aload_n dX12_see_50 rfl ?_
          have hse1 := (i41_1_921).on (by (clear hmh hmr i38_0_920 i41_0_921; omega))
          have hsh := hse1.hd
          unfold sHd at hsh
          have hmr9 : P 0 52 = M 0 1 := by (clear hmh i38_0_920 i41_0_921; omega)
          have e0 := hTv x41_3_921 (by (clear hmh hmr i38_0_920 i41_0_921; omega)) (by (clear hmh hmr i38_0_920 i41_0_921; omega))
          have e1 := hTv (x41_3_921 + 1) (by (clear hmh hmr i38_0_920 i41_0_921; omega)) (by (clear hmh hmr i38_0_920 i41_0_921; omega))
          have e2 := hTv (x41_3_921 + 2) (by (clear hmh hmr i38_0_920 i41_0_921; omega)) (by (clear hmh hmr i38_0_920 i41_0_921; omega))
          have qb0 := bl_1 (k := x41_3_921) hB
          have qb1 := bl_1 (k := x41_3_921 + 1) hB
          have hl39 : x41_3_921 < T.2 := by (clear hmh hmr i38_0_920 i41_0_921; omega)
          refine m_g0 rfl dX12_see_51 ?_
          refine g_iload_n dX12_see_54 rfl ?_
          refine m_l1 (z := (P 1 x41_3_921)) dX12_see_55 ⟨by (clear hmh hmr i38_0_920 i41_0_921; omega), by (clear hmh hmr i38_0_920 i41_0_921; omega)⟩ ((up_o (by decide)).trans rfl) ?_
          refine g_bipush dX12_see_56 (by decide) ?_
          refine g_ishl dX12_see_58 ?_
          refine g_nm (fun b1809 e_b1809 => ?_)
          have h_b1809 : (ishl (P 1 x41_3_921) 8) = (P 1 x41_3_921) * 256 := ishl_c 8 (by decide) (x := (P 1 x41_3_921)) (show IR ((P 1 x41_3_921) * 256) from ⟨by have q0 := bl_1 (k := x41_3_921) hB; (clear hmh hmr i38_0_920 i41_0_921; omega), by have q0 := bl_1 (k := x41_3_921) hB; (clear hmh hmr i38_0_920 i41_0_921; omega)⟩)
          rw [← e_b1809] at h_b1809
          have f_b1809_0 := bl_1 (k := x41_3_921) hB
          refine g_aload_n dX12_see_59 rfl ?_
          refine m_g0 rfl dX12_see_60 ?_
          refine g_iload_n dX12_see_63 rfl ?_
          refine g_iconst dX12_see_64 ?_
          refine g_iadd dX12_see_65 ?_
          refine m_l1 (z := (P 1 (x41_3_921 + 1))) dX12_see_66 ⟨by (clear hmh hmr i38_0_920 i41_0_921; omega), by (clear hmh hmr i38_0_920 i41_0_921; omega)⟩ ((up_o (by decide)).trans rfl) ?_
          refine g_ior dX12_see_67 ?_
          refine g_nm (fun b1810 e_b1810 => ?_)
          have h_b1810 : 0 ≤ (ior b1809 (P 1 (x41_3_921 + 1))) ∧ (ior b1809 (P 1 (x41_3_921 + 1))) < 65536 := ior_b 16 (by decide) (x := b1809) (y := (P 1 (x41_3_921 + 1))) (show 0 ≤ b1809 ∧ b1809 < 65536 from ⟨by (clear hmh hmr i38_0_920 i41_0_921; omega), by (clear hmh hmr i38_0_920 i41_0_921; omega)⟩) (show 0 ≤ (P 1 (x41_3_921 + 1)) ∧ (P 1 (x41_3_921 + 1)) < 65536 from ⟨by have q0 := bl_1 (k := (x41_3_921 + 1)) hB; (clear hmh hmr i38_0_920 i41_0_921; omega), by have q0 := bl_1 (k := (x41_3_921 + 1)) hB; (clear hmh hmr i38_0_920 i41_0_921; omega)⟩)
          rw [← e_b1810] at h_b1810
          have hz := ior_hl8 (x := P 1 (x41_3_921 + 1)) (y := P 1 x41_3_921) ⟨by (clear hmh hmr i38_0_920 i41_0_921; omega), by (clear hmh hmr i38_0_920 i41_0_921; omega)⟩ (by (clear hmh hmr i38_0_920 i41_0_921; omega)) (by (clear hmh hmr i38_0_920 i41_0_921; omega))
          have e9 : b1810 = 256 * T.1 x41_3_921 + T.1 (x41_3_921 + 1) := by rw [e_b1810, h_b1809, hz]; (clear hmh hmr i38_0_920 i41_0_921; omega)
          refine g_aload_n dX12_see_68 rfl ?_
          refine m_g52 (z := (P 0 52)) rfl dX12_see_69 ((up_k (by decide)).trans rfl) ?_
          have f1811 := b0_52 hB
          have J111_1821 : ∀ (y111_0_1821 : Int) (h_y111_0_1821 : 0 ≤ y111_0_1821 ∧ y111_0_1821 ≤ 1) (i111_0_1821 : (y111_0_1821 = 1 ∧ 256 * T.1 x41_3_921 + T.1 (x41_3_921 + 1) < M 0 1 ∧ (T.1 (x41_3_921 + 2) = 255 ∨ T.1 (x41_3_921 + 2) < A 0 0)) ∨ (y111_0_1821 = 0 ∧ (M 0 1 ≤ 256 * T.1 x41_3_921 + T.1 (x41_3_921 + 1) ∨ (T.1 (x41_3_921 + 2) ≠ 255 ∧ A 0 0 ≤ T.1 (x41_3_921 + 2))))), Go WSM G 2 iX12_see 111 [(0, vR 0), (1, vI (P 0 1)), (3, vI x41_3_921)] [vI y111_0_1821] (up P 0 1 0) Q := by
            intro y111_0_1821 h_y111_0_1821 i111_0_1821
            refine g_istore_n (l1 := [(2, vI y111_0_1821), (0, vR 0), (1, vI (P 0 1)), (3, vI x41_3_921)]) dX12_see_111 (by decide) rfl ?_
            have hsei9 := hse1.nx (by (clear hmh hmr i38_0_920 i41_0_921 i111_0_1821; omega)) (by (clear hmh hmr i38_0_920 i41_0_921 i111_0_1821; omega)) hl39 i111_0_1821
            refine g_iinc (l1 := [(3, vI (x41_3_921 + 3)), (2, vI y111_0_1821), (0, vR 0), (1, vI (P 0 1))]) dX12_see_112 rfl (by decide) rfl ?_
            refine g_goto (tgt := 41) dX12_see_115 (by decide) ?_
            refine g_forget (l1 := [(0, vR 0), (1, vI (P 0 1)), (2, vI y111_0_1821), (3, vI (x41_3_921 + 3))]) (by intro q hq; simp only [List.mem_cons, List.not_mem_nil, or_false] at hq ⊢; rcases hq with rfl | rfl | rfl | rfl <;> simp) ?_
            exact ih41_921 (x41_3_921 + 3) ⟨by have q0 := b0_1 hB; (clear hmh hmr i38_0_920 i41_0_921 i111_0_1821; omega), by have q0 := b0_1 hB; (clear hmh hmr i38_0_920 i41_0_921 i111_0_1821; omega)⟩ y111_0_1821 ⟨by have q0 := b0_1 hB; (clear hmh hmr i38_0_920 i41_0_921 i111_0_1821; omega), by have q0 := b0_1 hB; (clear hmh hmr i38_0_920 i41_0_921 i111_0_1821; omega)⟩ (by (clear hmh hmr i38_0_920 i41_0_921 i111_0_1821; omega)) (by first | exact hsei9 | exact hs0) (by (clear hmh hmr i38_0_920 i41_0_921 i111_0_1821; omega)) (by (clear hmh hmr i38_0_920 i41_0_921 i111_0_1821; omega))
          have J110_1822 : ∀ (i110_0_1822 : M 0 1 ≤ 256 * T.1 x41_3_921 + T.1 (x41_3_921 + 1) ∨ (T.1 (x41_3_921 + 2) ≠ 255 ∧ A 0 0 ≤ T.1 (x41_3_921 + 2))), Go WSM G 2 iX12_see 110 [(0, vR 0), (1, vI (P 0 1)), (3, vI x41_3_921)] [] (up P 0 1 0) Q := by
            intro i110_0_1822
            refine g_iconst dX12_see_110 ?_
            refine g_forget (l1 := [(0, vR 0), (1, vI (P 0 1)), (3, vI x41_3_921)]) (by intro q hq; simp only [List.mem_cons, List.not_mem_nil, or_false] at hq ⊢; rcases hq with rfl | rfl | rfl <;> simp) ?_
            exact J111_1821 0 (by decide) (by (clear hmh hmr i38_0_920 i41_0_921; omega))
          refine g_icmp_ge (tgt := 110) dX12_see_72 (by decide) ⟨by (clear hmh hmr i38_0_920 i41_0_921; omega), by (clear hmh hmr i38_0_920 i41_0_921; omega)⟩ ⟨by have q0 := b0_52 hB; (clear hmh hmr i38_0_920 i41_0_921; omega), by have q0 := b0_52 hB; (clear hmh hmr i38_0_920 i41_0_921; omega)⟩ (fun k1824 => ?_) (fun k1824 => ?_)
          · skip
            have r_i38_0_920 := (i38_0_920.resolve_right (by (clear hmh hmr i38_0_920 i41_0_921; omega)))
            refine g_forget (l1 := [(0, vR 0), (1, vI (P 0 1)), (3, vI x41_3_921)]) (by intro q hq; simp only [List.mem_cons, List.not_mem_nil, or_false] at hq ⊢; rcases hq with rfl | rfl | rfl <;> simp) ?_
            exact J110_1822 (by (clear hmh hmr i38_0_920 i41_0_921; omega))
          · skip
            have r_i38_0_920 := (i38_0_920.resolve_right (by (clear hmh hmr i38_0_920 i41_0_921; omega)))
            refine g_aload_n dX12_see_75 rfl ?_
            refine m_g0 rfl dX12_see_76 ?_
            refine g_iload_n dX12_see_79 rfl ?_
            refine g_iconst dX12_see_80 ?_
            refine g_iadd dX12_see_81 ?_
            refine m_l1 (z := (P 1 (x41_3_921 + 2))) dX12_see_82 ⟨by (clear hmh hmr i38_0_920 i41_0_921; omega), by (clear hmh hmr i38_0_920 i41_0_921; omega)⟩ ((up_o (by decide)).trans rfl) ?_
            refine g_sipush dX12_see_83 (by decide) ?_
            have f1825 := bl_1 (k := (x41_3_921 + 2)) hB
            have J106_1828 : ∀ (i106_0_1828 : 256 * T.1 x41_3_921 + T.1 (x41_3_921 + 1) < M 0 1 ∧ (T.1 (x41_3_921 + 2) = 255 ∨ T.1 (x41_3_921 + 2) < A 0 0)), Go WSM G 2 iX12_see 106 [(0, vR 0), (1, vI (P 0 1)), (3, vI x41_3_921)] [] (up P 0 1 0) Q := by
              intro i106_0_1828
              refine g_iconst dX12_see_106 ?_
              refine g_goto (tgt := 111) dX12_see_107 (by decide) ?_
              refine g_forget (l1 := [(0, vR 0), (1, vI (P 0 1)), (3, vI x41_3_921)]) (by intro q hq; simp only [List.mem_cons, List.not_mem_nil, or_false] at hq ⊢; rcases hq with rfl | rfl | rfl <;> simp) ?_
              exact J111_1821 1 (by decide) (by (clear hmh hmr i38_0_920 i41_0_921; omega))
            refine g_icmp_eq (tgt := 106) dX12_see_86 (by decide) ⟨by have q0 := bl_1 (k := (x41_3_921 + 2)) hB; (clear hmh hmr i38_0_920 i41_0_921; omega), by have q0 := bl_1 (k := (x41_3_921 + 2)) hB; (clear hmh hmr i38_0_920 i41_0_921; omega)⟩ (by decide) (fun k1830 => ?_) (fun k1830 => ?_)
            · skip
              skip
              refine g_forget (l1 := [(0, vR 0), (1, vI (P 0 1)), (3, vI x41_3_921)]) (by intro q hq; simp only [List.mem_cons, List.not_mem_nil, or_false] at hq ⊢; rcases hq with rfl | rfl | rfl <;> simp) ?_
              exact J106_1828 (by (clear hmh hmr i38_0_920 i41_0_921; omega))
            · have k1830n : (P 1 (x41_3_921 + 2)) ≤ 254 := by have q0 := bl_1 (k := (x41_3_921 + 2)) hB; (clear hmh hmr i38_0_920 i41_0_921; omega)
              clear k1830
              skip
              skip
              refine g_aload_n dX12_see_89 rfl ?_
              refine m_g0 rfl dX12_see_90 ?_
              refine g_iload_n dX12_see_93 rfl ?_
              refine g_iconst dX12_see_94 ?_
              refine g_iadd dX12_see_95 ?_
              refine m_l1 (z := (P 1 (x41_3_921 + 2))) dX12_see_96 ⟨by (clear hmh hmr i38_0_920 i41_0_921; omega), by (clear hmh hmr i38_0_920 i41_0_921; omega)⟩ ((up_o (by decide)).trans rfl) ?_
              refine g_aload_n dX12_see_97 rfl ?_
              refine m_g53 rfl dX12_see_98 ?_
              refine g_iconst dX12_see_101 ?_
              refine m_l35 (z := (P 35 0)) dX12_see_102 (by decide) ((up_o (by decide)).trans rfl) ?_
              have f1831 := bl_35 (k := 0) hB
              refine g_icmp_ge (tgt := 110) dX12_see_103 (by decide) ⟨by have q0 := bl_1 (k := (x41_3_921 + 2)) hB; (clear hmh hmr i38_0_920 i41_0_921; omega), by have q0 := bl_1 (k := (x41_3_921 + 2)) hB; (clear hmh hmr i38_0_920 i41_0_921; omega)⟩ ⟨by have q0 := bl_35 (k := 0) hB; (clear hmh hmr i38_0_920 i41_0_921; omega), by have q0 := bl_35 (k := 0) hB; (clear hmh hmr i38_0_920 i41_0_921; omega)⟩ (fun k1832 => ?_) (fun k1832 => ?_)
              · skip
                skip
                refine g_forget (l1 := [(0, vR 0), (1, vI (P 0 1)), (3, vI x41_3_921)]) (by intro q hq; simp only [List.mem_cons, List.not_mem_nil, or_false] at hq ⊢; rcases hq with rfl | rfl | rfl <;> simp) ?_
                exact J110_1822 (by (clear hmh hmr i38_0_920 i41_0_921; omega))
              · skip
                skip
                refine g_forget (l1 := [(0, vR 0), (1, vI (P 0 1)), (3, vI x41_3_921)]) (by intro q hq; simp only [List.mem_cons, List.not_mem_nil, or_false] at hq ⊢; rcases hq with rfl | rfl | rfl <;> simp) ?_
                exact J106_1828 (by (clear hmh hmr i38_0_920 i41_0_921; omega))
    refine g_forget (l1 := [(0, vR 0), (1, vI (P 0 1)), (2, vI y38_0_920), (3, vI 0)]) (by intro q hq; simp only [List.mem_cons, List.not_mem_nil, or_false] at hq ⊢; rcases hq with rfl | rfl | rfl | rfl <;> simp) ?_
    exact L41_921 _ 0 (by decide) y38_0_920 ⟨by have q0 := b0_1 hB; (clear hmh hmr i38_0_920; omega), by have q0 := b0_1 hB; (clear hmh hmr i38_0_920; omega)⟩ (by (clear hmh hmr; omega)) (by first | exact hsei9 | exact hs0) (by (clear hmh hmr i38_0_920; omega)) (Nat.lt_succ_self _)
  have J37_1832 : ∀ (i37_0_1832 : M 0 0 ≤ 0 ∨ T.2 ≤ 0 ∨ T.2 % 3 ≠ 0 ∨ 48 < T.2), Go WSM G 2 iX12_see 37 [(0, vR 0), (1, vI (P 0 1))] [] (up P 0 1 0) Q := by
    intro i37_0_1832
    refine g_iconst dX12_see_37 ?_
    refine g_forget (l1 := [(0, vR 0), (1, vI (P 0 1))]) (by intro q hq; simp only [List.mem_cons, List.not_mem_nil, or_false] at hq ⊢; rcases hq with rfl | rfl <;> simp) ?_
    exact J38_920 0 (by decide) (by (clear hmh hmr; omega))
  refine g_if_eq (tgt := 37) dX12_see_14 (by decide) ⟨by have q0 := b0_44 hB; (clear hmh hmr; omega), by have q0 := b0_44 hB; (clear hmh hmr; omega)⟩ (fun k1834 => ?_) (fun k1834 => ?_)
  · refine g_forget (l1 := [(0, vR 0), (1, vI (P 0 1))]) (by intro q hq; simp only [List.mem_cons, List.not_mem_nil, or_false] at hq ⊢; rcases hq with rfl | rfl <;> simp) ?_
    exact J37_1832 (by (clear hmr; omega))
  · have k1834n : 1 ≤ (P 0 44) := by have q0 := b0_44 hB; (clear hmh hmr; omega)
    clear k1834
    refine g_iload_n dX12_see_17 rfl ?_
    have f1835 := b0_1 hB
    refine g_if_le (tgt := 37) dX12_see_18 (by decide) ⟨by have q0 := b0_1 hB; (clear hmh hmr; omega), by have q0 := b0_1 hB; (clear hmh hmr; omega)⟩ (fun k1836 => ?_) (fun k1836 => ?_)
    · refine g_forget (l1 := [(0, vR 0), (1, vI (P 0 1))]) (by intro q hq; simp only [List.mem_cons, List.not_mem_nil, or_false] at hq ⊢; rcases hq with rfl | rfl <;> simp) ?_
      exact J37_1832 (by (clear hmh hmr; omega))
    · refine g_iload_n dX12_see_21 rfl ?_
      refine g_iconst dX12_see_22 ?_
      refine g_irem dX12_see_23 ⟨(by decide), by decide⟩ ?_
      refine g_nm (fun b1837 e_b1837 => ?_)
      have h_b1837 := irem_b (x := (P 0 1)) (y := 3) ⟨by have q0 := b0_1 hB; (clear hmh hmr; omega), by have q0 := b0_1 hB; (clear hmh hmr; omega)⟩ ⟨by (clear hmh hmr; omega), by (clear hmh hmr; omega)⟩
      rw [← e_b1837] at h_b1837
      have f_b1837_0 := b0_1 hB
      have hz := e_b1837
      rw [irem_p ⟨by (clear hmh hmr; omega), by (clear hmh hmr; omega)⟩ ⟨by decide, by decide⟩] at hz
      refine g_if_ne (tgt := 37) dX12_see_24 (by decide) ⟨by (clear hmh hmr; omega), by (clear hmh hmr; omega)⟩ (fun k1838 => ?_) (fun k1838 => ?_)
      · have k1838n : 1 ≤ b1837 := by (clear hmh hmr; omega)
        clear k1838
        refine g_forget (l1 := [(0, vR 0), (1, vI (P 0 1))]) (by intro q hq; simp only [List.mem_cons, List.not_mem_nil, or_false] at hq ⊢; rcases hq with rfl | rfl <;> simp) ?_
        exact J37_1832 (by (clear hmh hmr; omega))
      · refine g_iload_n dX12_see_27 rfl ?_
        refine g_bipush dX12_see_28 (by decide) ?_
        refine g_icmp_gt (tgt := 37) dX12_see_30 (by decide) ⟨by have q0 := b0_1 hB; (clear hmh hmr; omega), by have q0 := b0_1 hB; (clear hmh hmr; omega)⟩ (by decide) (fun k1839 => ?_) (fun k1839 => ?_)
        · refine g_forget (l1 := [(0, vR 0), (1, vI (P 0 1))]) (by intro q hq; simp only [List.mem_cons, List.not_mem_nil, or_false] at hq ⊢; rcases hq with rfl | rfl <;> simp) ?_
          exact J37_1832 (by (clear hmh hmr; omega))
        · refine g_iconst dX12_see_33 ?_
          refine g_goto (tgt := 38) dX12_see_34 (by decide) ?_
          refine g_forget (l1 := [(0, vR 0), (1, vI (P 0 1))]) (by intro q hq; simp only [List.mem_cons, List.not_mem_nil, or_false] at hq ⊢; rcases hq with rfl | rfl <;> simp) ?_
          exact J38_920 1 (by decide) (by (clear hmr; omega))
/-! What the reference answers: X12_seed. -/
set_option maxRecDepth 100000 in
set_option maxHeartbeats 4000000 in
theorem f_X12_seed (G : GT) (P : PH) (A : PH) (a1 : Int) (h_a1 : (-2147483648) ≤ a1 ∧ a1 ≤ 2147483647) (hB : BdM P) (z0 : AM A P) (Q : Option PV → PH → Prop) (hQ : ∀ (r : Int) (_ : 0 ≤ r ∧ r ≤ 1) (P1 : PH) (_ : BdM P1) (_ : FrM ([61], [28]) P P1) (_ : (a1 < 0 ∧ r = 0) ∨ (0 ≤ a1 ∧ r = 1)) (_ : AM (aSeed A a1) P1), Q (some (vI r)) P1) : Ct WSM G 2 iX12_seed [vR 0, vI a1] P Q := by
  refine Ct.of (by decide) (l0 := [(0, vR 0), (1, vI a1)]) rfl (Nat.le_of_ble_eq_true rfl) ?_
  refine g_iload_n dX12_seed_0 rfl ?_
  refine g_if_ge (tgt := 18) dX12_seed_1 (by decide) ⟨by omega, by omega⟩ (fun k1 => ?_) (fun k1 => ?_)
  · refine g_aload_n dX12_seed_18 rfl ?_
    refine g_iload_n dX12_seed_19 rfl ?_
    refine g_i2l dX12_seed_20 ⟨by omega, by omega⟩ ?_
    refine m_p61 rfl dX12_seed_21 ?_
    have hB2 := bs_61 (z := a1) hB ⟨by omega, by omega⟩
    refine g_iconst dX12_seed_24 ?_
    exact g_retZ dX12_seed_25 rfl (by decide) (hQ 1 (by decide) _ hB2 (FrM.s FrM.rf rfl) (by omega) (by rw [aSeed_y (by omega)]; exact z0.sd up_same (FrM.s FrM.rf rfl)))
  · refine g_aload_n dX12_seed_4 rfl ?_
    refine g_iconst dX12_seed_5 ?_
    refine g_vI (av := [vI 5]) (o := 0) (st := []) (m_X12_refuses G P 5 (by decide) hB  _ (fun rc3 hc3 Pc3 hBc3 hFc3 => ⟨rc3, rfl, ?_⟩)) cf_X12_refuses t_1667 rfl (by decide) rfl rfl rfl (Nat.le_of_ble_eq_true rfl) (by decide) rfl dX12_seed_6
    refine g_if_lt (tgt := 16) dX12_seed_9 (by decide) ⟨by omega, by omega⟩ (fun k4 => ?_) (fun k4 => by exfalso; omega)
    refine g_iconst dX12_seed_16 ?_
    exact g_retZ dX12_seed_17 rfl (by decide) (hQ 0 (by decide) _ hBc3 (FrM.c FrM.rf hFc3 rfl) (by (clear k4; omega)) (by rw [aSeed_n (by (clear k4; omega))]; exact (AM.fr (F := ([], [28])) z0 (FrM.c FrM.rf hFc3 rfl) rfl)))
/-! What the reference answers: X12_slot. -/
set_option maxRecDepth 100000 in
set_option maxHeartbeats 4000000 in
theorem f_X12_slot (G : GT) (P : PH) (a1 : Int) (h_a1 : 0 ≤ a1 ∧ a1 ≤ 20) (hB : BdM P) (Q : Option PV → PH → Prop) (hQ : ∀ (r : Int) (_ : 2 ≤ r ∧ r ≤ 21) (_ : r = 2 + (P 0 59 + a1) % 20), Q (some (vI r)) P) : Ct WSM G 1 iX12_slot [vR 0, vI a1] P Q := by
  refine Ct.of (by decide) (l0 := [(0, vR 0), (1, vI a1)]) rfl (Nat.le_of_ble_eq_true rfl) ?_
  refine g_iconst dX12_slot_0 ?_
  refine g_aload_n dX12_slot_1 rfl ?_
  refine m_g59 (z := (P 0 59)) rfl dX12_slot_2 rfl ?_
  refine g_iload_n dX12_slot_5 rfl ?_
  refine g_iadd dX12_slot_6 ?_
  refine g_bipush dX12_slot_7 (by decide) ?_
  refine g_irem dX12_slot_9 ⟨(by decide), by decide⟩ ?_
  refine g_nm (fun b1 e_b1 => ?_)
  have h_b1 := irem_b (x := ((P 0 59) + a1)) (y := 20) ⟨by have q0 := b0_59 hB; omega, by have q0 := b0_59 hB; omega⟩ ⟨by omega, by omega⟩
  rw [← e_b1] at h_b1
  have f_b1_0 := b0_59 hB
  have q59 := b0_59 hB
  have hz := e_b1
  rw [irem_p ⟨by omega, by omega⟩ ⟨by decide, by decide⟩] at hz
  refine g_iadd dX12_slot_10 ?_
  exact g_retI dX12_slot_11 rfl (hQ (2 + b1) ⟨by omega, by omega⟩ (by have q0 := b0_59 hB; omega))
/-! What the reference answers: X12_keeps. -/
set_option maxRecDepth 100000 in
set_option maxHeartbeats 4000000 in
theorem f_X12_keeps (G : GT) (P : PH) (A : PH) (k : Int) (hB : BdM P) (p_wa : WA k A) (z0 : AM A P) (Q : Option PV → PH → Prop) (hQ : ∀ (P1 : PH) (_ : BdM P1) (_ : FrM ([59, 60], [35, 36, 37, 38, 39, 40]) P P1) (_ : P1 35 0 = P 35 0) (_ : AM (aPush A) P1), Q none P1) : Ct WSM G 2 iX12_keeps [vR 0] P Q := by
  refine Ct.of (by decide) (l0 := [(0, vR 0)]) rfl (Nat.le_of_ble_eq_true rfl) ?_
  have hb := z0.b
  have hw4 := p_wa.2.1
  have q59 := b0_59 hB
  refine g_aload_n dX12_keeps_0 rfl ?_
  refine m_g60 (z := (P 0 60)) rfl dX12_keeps_1 rfl ?_
  refine g_bipush dX12_keeps_4 (by decide) ?_
  have f1 := b0_60 hB
  refine g_icmp_ne (tgt := 32) dX12_keeps_6 (by decide) ⟨by have q0 := b0_60 hB; (clear hb; omega), by have q0 := b0_60 hB; (clear hb; omega)⟩ (by decide) (fun k2 => ?_) (fun k2 => ?_)
  · have k2n : (P 0 60) ≤ 19 := by have q0 := b0_60 hB; (clear hb; omega)
    clear k2
    refine g_aload_n dX12_keeps_32 rfl ?_
    refine g_aload_n dX12_keeps_33 rfl ?_
    refine g_aload_n dX12_keeps_34 rfl ?_
    refine m_g60 (z := (P 0 60)) rfl dX12_keeps_35 rfl ?_
    refine g_vI (av := [vI (P 0 60)]) (o := 0) (st := [vR 0]) (f_X12_slot G P (P 0 60) ⟨by have q0 := b0_60 hB; (clear hb; omega), by have q0 := b0_60 hB; (clear hb; omega)⟩ hB  _ (fun rc3 hc3 gc3_s => ⟨rc3, rfl, ?_⟩)) cf_X12_slot t_1855 rfl (by decide) rfl rfl rfl (Nat.le_of_ble_eq_true rfl) (by decide) rfl dX12_keeps_38
    refine g_iconst dX12_keeps_41 ?_
    have r35 : ∀ j, P 35 j = P 35 j := fun j => rfl
    have r36 : ∀ j, P 36 j = P 36 j := fun j => rfl
    have r37 : ∀ j, P 37 j = P 37 j := fun j => rfl
    have r38 : ∀ j, P 38 j = P 38 j := fun j => rfl
    have r39 : ∀ j, P 39 j = P 39 j := fun j => rfl
    refine g_vV (av := [vI rc3, vI 0]) (o := 0) (st := []) (f_X12_copies G P rc3 0 ⟨by (clear hb; omega), by (clear hb; omega)⟩ (by decide) hB (by (clear hb; omega)) _ (fun Pc4 hBc4 hFc4 gc4_o gc4_cy => ⟨rfl, ?_⟩)) cf_X12_copies t_1859 rfl (by decide) rfl rfl rfl (Nat.le_of_ble_eq_true rfl) (by decide) rfl dX12_keeps_42
    have hcy := CY.row gc4_cy r35 r36 r37 r38 r39
    refine g_aload_n dX12_keeps_45 rfl ?_
    refine g_dup dX12_keeps_46 rfl ?_
    refine m_g60 (z := (P 0 60)) rfl dX12_keeps_47 ((hFc4.1 60 rfl).trans rfl) ?_
    refine g_iconst dX12_keeps_50 ?_
    refine g_iadd dX12_keeps_51 ?_
    refine m_p60 rfl dX12_keeps_52 ?_
    have hB5 := bs_60 (z := ((P 0 60) + 1)) hBc4 ⟨by have q0 := b0_60 hB; (clear hb gc4_o; omega), by have q0 := b0_60 hB; (clear hb gc4_o; omega)⟩
    exact g_retV dX12_keeps_55 rfl (hQ _ hB5 (FrM.s (FrM.c FrM.rf hFc4 rfl) rfl) (by have q0 := (((up_o (by decide)).trans rfl) : (up Pc4 0 60 ((P 0 60) + 1)) 35 0 = (Pc4 35 0)); have q1 := bl_35 (k := 0) hBc4; (clear hb; omega)) (AM.push z0 p_wa q59 hcy.r0 (by have h59 := (((up_k (by decide)).trans ((hFc4.1 59 rfl).trans rfl)) : (up Pc4 0 60 ((P 0 60) + 1)) 0 59 = (P 0 59)); have h60 := (up_same : (up Pc4 0 60 ((P 0 60) + 1)) 0 60 = ((P 0 60) + 1)); (clear gc4_o; omega)) ((up_k (by decide)).trans ((hFc4.1 61 rfl).trans rfl)) ((up_k (by decide)).trans ((hFc4.1 92 rfl).trans rfl))))
  · refine g_aload_n dX12_keeps_9 rfl ?_
    refine g_aload_n dX12_keeps_10 rfl ?_
    refine m_g59 (z := (P 0 59)) rfl dX12_keeps_11 rfl ?_
    refine g_iconst dX12_keeps_14 ?_
    refine g_iadd dX12_keeps_15 ?_
    refine g_bipush dX12_keeps_16 (by decide) ?_
    refine g_irem dX12_keeps_18 ⟨(by decide), by decide⟩ ?_
    refine g_nm (fun b6 e_b6 => ?_)
    have h_b6 := irem_b (x := ((P 0 59) + 1)) (y := 20) ⟨by have q0 := b0_59 hB; (clear hb k2; omega), by have q0 := b0_59 hB; (clear hb k2; omega)⟩ ⟨by (clear hb k2; omega), by (clear hb k2; omega)⟩
    rw [← e_b6] at h_b6
    have f_b6_0 := b0_59 hB
    have hz := e_b6
    rw [irem_p ⟨by (clear hb k2; omega), by (clear hb k2; omega)⟩ ⟨by decide, by decide⟩] at hz
    refine m_p59 rfl dX12_keeps_19 ?_
    have hB7 := bs_59 (z := b6) hB ⟨by (clear hb k2; omega), by (clear hb k2; omega)⟩
    refine g_aload_n dX12_keeps_22 rfl ?_
    refine g_dup dX12_keeps_23 rfl ?_
    refine m_g60 (z := (P 0 60)) rfl dX12_keeps_24 ((up_k (by decide)).trans rfl) ?_
    refine g_iconst dX12_keeps_27 ?_
    refine g_isub dX12_keeps_28 ?_
    refine m_p60 rfl dX12_keeps_29 ?_
    have hB8 := bs_60 (z := ((P 0 60) - 1)) hB7 ⟨by have q0 := b0_60 hB; (omega), by have q0 := b0_60 hB; (clear hb k2; omega)⟩
    refine g_aload_n dX12_keeps_32 rfl ?_
    refine g_aload_n dX12_keeps_33 rfl ?_
    refine g_aload_n dX12_keeps_34 rfl ?_
    refine m_g60 (z := ((P 0 60) - 1)) rfl dX12_keeps_35 up_same ?_
    refine g_vI (av := [vI ((P 0 60) - 1)]) (o := 0) (st := [vR 0]) (f_X12_slot G (up (up P 0 59 b6) 0 60 ((P 0 60) - 1)) ((P 0 60) - 1) ⟨by have q0 := b0_60 hB; (omega), by have q0 := b0_60 hB; (clear hb k2; omega)⟩ hB8  _ (fun rc9 hc9 gc9_s => ⟨rc9, rfl, ?_⟩)) cf_X12_slot t_1855 rfl (by decide) rfl rfl rfl (Nat.le_of_ble_eq_true rfl) (by decide) rfl dX12_keeps_38
    have z10 : (up (up P 0 59 b6) 0 60 ((P 0 60) - 1)) 0 59 = b6 := ((up_k (by decide)).trans up_same)
    refine g_iconst dX12_keeps_41 ?_
    have r35 : ∀ j, (up (up P 0 59 b6) 0 60 ((P 0 60) - 1)) 35 j = P 35 j := fun j => ((up_o (by decide)).trans ((up_o (by decide)).trans rfl))
    have r36 : ∀ j, (up (up P 0 59 b6) 0 60 ((P 0 60) - 1)) 36 j = P 36 j := fun j => ((up_o (by decide)).trans ((up_o (by decide)).trans rfl))
    have r37 : ∀ j, (up (up P 0 59 b6) 0 60 ((P 0 60) - 1)) 37 j = P 37 j := fun j => ((up_o (by decide)).trans ((up_o (by decide)).trans rfl))
    have r38 : ∀ j, (up (up P 0 59 b6) 0 60 ((P 0 60) - 1)) 38 j = P 38 j := fun j => ((up_o (by decide)).trans ((up_o (by decide)).trans rfl))
    have r39 : ∀ j, (up (up P 0 59 b6) 0 60 ((P 0 60) - 1)) 39 j = P 39 j := fun j => ((up_o (by decide)).trans ((up_o (by decide)).trans rfl))
    refine g_vV (av := [vI rc9, vI 0]) (o := 0) (st := []) (f_X12_copies G (up (up P 0 59 b6) 0 60 ((P 0 60) - 1)) rc9 0 ⟨by (clear hb k2; omega), by (clear hb k2; omega)⟩ (by decide) hB8 (by (clear hb k2; omega)) _ (fun Pc11 hBc11 hFc11 gc11_o gc11_cy => ⟨rfl, ?_⟩)) cf_X12_copies t_1859 rfl (by decide) rfl rfl rfl (Nat.le_of_ble_eq_true rfl) (by decide) rfl dX12_keeps_42
    have z12 : (up (up P 0 59 b6) 0 60 ((P 0 60) - 1)) 35 0 = (P 35 0) := ((up_o (by decide)).trans ((up_o (by decide)).trans rfl))
    have hcy := CY.row gc11_cy r35 r36 r37 r38 r39
    refine g_aload_n dX12_keeps_45 rfl ?_
    refine g_dup dX12_keeps_46 rfl ?_
    refine m_g60 (z := ((P 0 60) - 1)) rfl dX12_keeps_47 ((hFc11.1 60 rfl).trans up_same) ?_
    refine g_iconst dX12_keeps_50 ?_
    refine g_iadd dX12_keeps_51 ?_
    refine m_p60 rfl dX12_keeps_52 ?_
    have hB13 := bs_60 (z := (((P 0 60) - 1) + 1)) hBc11 ⟨by have q0 := b0_60 hB; (clear hb k2 gc11_o; omega), by have q0 := b0_60 hB; (clear hb k2 gc11_o; omega)⟩
    exact g_retV dX12_keeps_55 rfl (hQ _ hB13 (FrM.s (FrM.c (FrM.s (FrM.s FrM.rf rfl) rfl) hFc11 rfl) rfl) (by have q0 := (((up_o (by decide)).trans rfl) : (up Pc11 0 60 (((P 0 60) - 1) + 1)) 35 0 = (Pc11 35 0)); have q1 := bl_35 (k := 0) hBc11; (clear hb k2; omega)) (AM.push z0 p_wa q59 hcy.r0 (by have h59 := (((up_k (by decide)).trans ((hFc11.1 59 rfl).trans ((up_k (by decide)).trans up_same))) : (up Pc11 0 60 (((P 0 60) - 1) + 1)) 0 59 = b6); have h60 := (up_same : (up Pc11 0 60 (((P 0 60) - 1) + 1)) 0 60 = (((P 0 60) - 1) + 1)); (omega)) ((up_k (by decide)).trans ((hFc11.1 61 rfl).trans ((up_k (by decide)).trans ((up_k (by decide)).trans rfl)))) ((up_k (by decide)).trans ((hFc11.1 92 rfl).trans ((up_k (by decide)).trans ((up_k (by decide)).trans rfl))))))
/-! What the reference answers: X12_chance. -/
set_option maxRecDepth 100000 in
set_option maxHeartbeats 4000000 in
theorem f_X12_chance (G : GT) (P : PH) (A : PH) (k : Int) (M : PH) (a1 : Int) (h_a1 : (-2147483648) ≤ a1 ∧ a1 ≤ 2147483647) (hB : BdM P) (p_st : P 0 74 ≤ 199999900) (p_wa : WA k A) (v_okC : okC P) (v_okR : okR P) (v_MVw : MVw P) (v_RE : RE P) (z0 : AM A P) (z1 : MH M P) (z2 : MR M P) (Q : Option PV → PH → Prop) (hQ : ∀ (r : Int) (_ : (-2147483648) ≤ r ∧ r ≤ 2147483647) (P1 : PH) (_ : BdM P1) (_ : FrM ([59, 60, 61, 62, 66, 74, 76, 78], [28, 35, 36, 37, 38, 39, 40, 41, 42, 43, 44, 49, 50]) P P1) (_ : P1 0 74 ≤ P 0 74 + 40) (_ : MVw P1) (_ : RE P1) (_ : AM (aCha A M a1) P1), Q (some (vI r)) P1) : Ct WSM G 6 iX12_chance [vR 0, vI a1] P Q := by
  refine Ct.of (by decide) (l0 := [(0, vR 0), (1, vI a1)]) rfl (Nat.le_of_ble_eq_true rfl) ?_
  have hmh := z1
  unfold MH at hmh
  refine g_aload_n dX12_chance_0 rfl ?_
  refine m_g44 (z := (P 0 44)) rfl dX12_chance_1 rfl ?_
  have f1 := b0_44 hB
  refine g_if_eq (tgt := 17) dX12_chance_4 (by decide) ⟨by have q0 := b0_44 hB; (clear hmh; omega), by have q0 := b0_44 hB; (clear hmh; omega)⟩ (fun k2 => ?_) (fun k2 => ?_)
  · refine g_aload_n dX12_chance_17 rfl ?_
    refine g_iconst dX12_chance_18 ?_
    refine g_vI (av := [vI 2]) (o := 0) (st := []) (m_X12_refuses G P 2 (by decide) hB  _ (fun rc3 hc3 Pc3 hBc3 hFc3 => ⟨rc3, rfl, ?_⟩)) cf_X12_refuses t_1667 rfl (by decide) rfl rfl rfl (Nat.le_of_ble_eq_true rfl) (by decide) rfl dX12_chance_19
    exact g_retI dX12_chance_22 rfl (hQ rc3 ⟨by (clear hmh k2; omega), by (clear hmh k2; omega)⟩ _ hBc3 (FrM.c FrM.rf hFc3 rfl) (by have q0 := (((hFc3.1 74 rfl).trans rfl) : Pc3 0 74 = (P 0 74)); have q1 := b0_74 hB; (clear hmh k2; omega)) (MVw.fr (F := ([], [28])) v_MVw (FrM.c FrM.rf hFc3 rfl) rfl) (RE.fr (F := ([], [28])) v_RE (FrM.c FrM.rf hFc3 rfl) rfl) (by rw [aCha_n (by (omega))]; exact (AM.fr (F := ([], [28])) z0 (FrM.c FrM.rf hFc3 rfl) rfl)))
  · have k2n : 1 ≤ (P 0 44) := by have q0 := b0_44 hB; (clear hmh; omega)
    clear k2
    refine g_iload_n dX12_chance_7 rfl ?_
    refine g_iconst dX12_chance_8 ?_
    refine g_bipush dX12_chance_9 (by decide) ?_
    refine g_sI (av := [vI a1, vI 1, vI 40]) (st := []) (m_X12_is G P a1 1 40 ⟨by (clear hmh; omega), by (clear hmh; omega)⟩ (by decide) (by decide) hB  _ (fun rc4 hc4 gc4_is => ⟨rc4, rfl, ?_⟩)) cf_X12_is t_1800 rfl (Nat.le_of_ble_eq_true rfl) (by decide) rfl dX12_chance_11
    refine g_if_ne (tgt := 23) dX12_chance_14 (by decide) ⟨by (clear hmh gc4_is; omega), by (clear hmh gc4_is; omega)⟩ (fun k5 => ?_) (fun k5 => ?_)
    · have k5n : 1 ≤ rc4 := by (clear hmh gc4_is; omega)
      clear k5
      have r_gc4_is := (gc4_is.resolve_right (by (clear hmh gc4_is; omega)))
      refine g_aload_n dX12_chance_23 rfl ?_
      refine g_vV (av := []) (o := 0) (st := []) (f_X12_keeps G P (A) (k)  hB (by (clear hmh gc4_is; omega)) (z0) _ (fun Pc6 hBc6 hFc6 gc6_o ec6_0 => ⟨rfl, ?_⟩)) cf_X12_keeps t_2132 rfl (by decide) rfl rfl rfl (Nat.le_of_ble_eq_true rfl) (by decide) rfl dX12_chance_24
      refine g_iconst dX12_chance_27 ?_
      refine g_istore_n (l1 := [(2, vI 0), (0, vR 0), (1, vI a1)]) dX12_chance_28 (by decide) rfl ?_
      have ho := v_okR
      unfold okR at ho
      refine g_iconst dX12_chance_29 ?_
      refine g_istore_n (l1 := [(3, vI 0), (2, vI 0), (0, vR 0), (1, vI a1)]) dX12_chance_30 (by decide) rfl ?_
      have L31_6 : ∀ (n31_6 : Nat) (x31_3_6 : Int) (h_x31_3_6 : 0 ≤ x31_3_6 ∧ x31_3_6 ≤ 40) (x31_2_6 : Int) (h_x31_2_6 : (-2147483648) ≤ x31_2_6 ∧ x31_2_6 ≤ 2147483647) (H31_6 : PH) (hB31_6 : BdM H31_6) (hE31_6 : FrM ([61, 62, 66, 74, 76, 78], [39, 40, 41, 42, 43, 44, 49, 50]) Pc6 H31_6) (i31_0_6 : H31_6 0 74 ≤ P 0 74 + x31_3_6) (i31_1_6 : AM (aDrs (x31_3_6).toNat (aPush A)) H31_6) (i31_2_6 : x31_3_6 ≤ a1) (w31_RE_6 : RE H31_6) (w31_MVw_6 : MVw H31_6) (hm31_6 : ((41 - x31_3_6) : Int).toNat < n31_6), Go WSM G 6 iX12_chance 31 [(0, vR 0), (1, vI a1), (2, vI x31_2_6), (3, vI x31_3_6)] [] H31_6 Q := by
        intro n31_6
        induction n31_6 with
        | zero => intro x31_3_6 h_x31_3_6 x31_2_6 h_x31_2_6 H31_6 hB31_6 hE31_6 i31_0_6 i31_1_6 i31_2_6 w31_RE_6 w31_MVw_6 hm31_6; exact absurd hm31_6 (Nat.not_lt_zero _)
        | succ n31_6 ih31_6 =>
        intro x31_3_6 h_x31_3_6 x31_2_6 h_x31_2_6 H31_6 hB31_6 hE31_6 i31_0_6 i31_1_6 i31_2_6 w31_RE_6 w31_MVw_6 hm31_6
        refine g_iload_n dX12_chance_31 rfl ?_
        refine g_iload_n dX12_chance_32 rfl ?_
        refine g_icmp_ge (tgt := 66) dX12_chance_33 (by decide) ⟨by (clear hmh gc4_is ho; omega), by (clear hmh gc4_is ho; omega)⟩ ⟨by (clear hmh gc4_is ho; omega), by (clear hmh gc4_is ho; omega)⟩ (fun k173 => ?_) (fun k173 => ?_)
        · skip
          refine g_iload_n dX12_chance_66 rfl ?_
          exact g_retI dX12_chance_67 rfl (hQ x31_2_6 ⟨by (clear hmh gc4_is ho k173; omega), by (clear hmh gc4_is ho k173; omega)⟩ _ hB31_6 (FrM.c (FrM.c FrM.rf hFc6 rfl) hE31_6 rfl) (by have q0 := b0_74 hB31_6; (clear hmh gc4_is ho k173; omega)) w31_MVw_6 w31_RE_6 (by rw [aCha_y ⟨by (clear gc4_is ho k173; omega), by (clear hmh gc4_is ho k173; omega), by (clear hmh gc4_is ho k173; omega)⟩, show a1 = x31_3_6 by (clear hmh gc4_is ho; omega)]; exact i31_1_6))
        · skip
          have iv174 : AM (aDrs (x31_3_6).toNat (aPush A)) H31_6 := i31_1_6
          refine g_iload_n dX12_chance_36 rfl ?_
          refine g_aload_n dX12_chance_37 rfl ?_
          refine g_aload_n dX12_chance_38 rfl ?_
          refine g_aload_n dX12_chance_39 rfl ?_
          refine m_g52 (z := (P 0 52)) rfl dX12_chance_40 ((hE31_6.1 52 rfl).trans ((hFc6.1 52 rfl).trans rfl)) ?_
          have f175 := b0_52 hB
          refine g_vI (av := [vI (P 0 52)]) (o := 0) (st := [vR 0, vI x31_2_6]) (f_X12_draw G H31_6 (aDrs (x31_3_6).toNat (aPush A)) (P 0 52) ⟨by have q0 := b0_52 hB; (omega), by have q0 := b0_52 hB; (clear hmh gc4_is ho k173; omega)⟩ hB31_6 (iv174) _ (fun rc176 hc176 Pc176 hBc176 hFc176 gc176_d gc176_d2 ec176_0 => ⟨rc176, rfl, ?_⟩)) cf_X12_draw t_2144 rfl (by decide) rfl rfl rfl (Nat.le_of_ble_eq_true rfl) (by decide) rfl dX12_chance_43
          refine g_vI (av := [vI rc176]) (o := 0) (st := [vI x31_2_6]) (f_X12_runs G Pc176 (up (aDrs (x31_3_6).toNat (aPush A)) 0 5 (drw ((aDrs (x31_3_6).toNat (aPush A)) 0 5))) rc176 ⟨by (clear hmh gc4_is ho k173; omega), by (clear hmh gc4_is ho k173; omega)⟩ hBc176 (by have q0 := (((hFc176.1 74 rfl).trans rfl) : Pc176 0 74 = (H31_6 0 74)); have q1 := b0_74 hB31_6; (clear hmh gc4_is ho k173; omega)) (okC.fr (F := ([59, 60, 61, 62, 66, 74, 76, 78], [35, 36, 37, 38, 39, 40, 41, 42, 43, 44, 49, 50])) v_okC (FrM.c (FrM.c (FrM.c FrM.rf hFc6 rfl) hE31_6 rfl) hFc176 rfl) rfl) (MVw.fr (F := ([61], [])) w31_MVw_6 (FrM.c FrM.rf hFc176 rfl) rfl) (RE.fr (F := ([61], [])) w31_RE_6 (FrM.c FrM.rf hFc176 rfl) rfl) (ec176_0) _ (fun rc177 hc177 Pc177 hBc177 hFc177 gc177_st vc177_MVw vc177_RE ec177_0 => ⟨rc177, rfl, ?_⟩)) cf_X12_runs t_2136 rfl (by decide) rfl rfl rfl (Nat.le_of_ble_eq_true rfl) (by decide) rfl dX12_chance_46
          have z178 : Pc176 0 74 = (H31_6 0 74) := ((hFc176.1 74 rfl).trans rfl)
          have hch9 : AM (aDrs (x31_3_6 + 1).toNat (aPush A)) Pc177 := by
            rw [show (x31_3_6 + 1).toNat = (x31_3_6).toNat + 1 by (clear hmh gc4_is ho k173; omega)]
            have q := ec177_0
            rw [up_k (by decide)] at q
            exact q
          refine g_iconst dX12_chance_49 ?_
          refine g_icmp_ne (tgt := 57) dX12_chance_50 (by decide) ⟨by (clear hmh gc4_is ho k173; omega), by (clear hmh gc4_is ho k173; omega)⟩ (by decide) (fun k179 => ?_) (fun k179 => ?_)
          · have k179n : 0 ≤ rc177 := by (clear hmh gc4_is ho k173; omega)
            clear k179
            skip
            refine g_iconst dX12_chance_57 ?_
            refine g_iadd dX12_chance_58 ?_
            refine g_istore_n (l1 := [(2, vI (x31_2_6 + 0)), (0, vR 0), (1, vI a1), (3, vI x31_3_6)]) dX12_chance_59 (by decide) rfl ?_
            refine g_iinc (l1 := [(3, vI (x31_3_6 + 1)), (2, vI (x31_2_6 + 0)), (0, vR 0), (1, vI a1)]) dX12_chance_60 rfl (by decide) rfl ?_
            refine g_goto (tgt := 31) dX12_chance_63 (by decide) ?_
            refine g_forget (l1 := [(0, vR 0), (1, vI a1), (2, vI (x31_2_6 + 0)), (3, vI (x31_3_6 + 1))]) (by intro q hq; simp only [List.mem_cons, List.not_mem_nil, or_false] at hq ⊢; rcases hq with rfl | rfl | rfl | rfl <;> simp) ?_
            exact ih31_6 (x31_3_6 + 1) ⟨by (clear hmh gc4_is ho k173; omega), by (omega)⟩ (x31_2_6 + 0) ⟨by (clear hmh gc4_is ho k173; omega), by (clear hmh gc4_is ho k173; omega)⟩ _ hBc177 (FrM.c (FrM.c (FrM.c FrM.rf hE31_6 rfl) hFc176 rfl) hFc177 rfl) (by have q0 := b0_74 hBc177; (clear hmh gc4_is ho k173; omega)) (by first | exact hch9 | exact (by first | (rw [show (aPush A) = (up (up (aDrs (x31_3_6).toNat (aPush A)) 0 5 (drw ((aDrs (x31_3_6).toNat (aPush A)) 0 5))) 0 3 ((up (aDrs (x31_3_6).toNat (aPush A)) 0 5 (drw ((aDrs (x31_3_6).toNat (aPush A)) 0 5))) 0 3 + 1)) by (first | (clear hmh gc4_is ho k173; omega) | (clear hmh gc4_is ho; omega) | (clear hmh gc4_is k173; omega) | (clear hmh ho k173; omega) | (clear gc4_is ho k173; omega) | (clear hmh gc4_is; omega) | omega)]; exact ec177_0))) (by (clear hmh gc4_is ho; omega)) vc177_RE vc177_MVw (by (clear hmh gc4_is ho k173; omega))
          · skip
            refine g_iconst dX12_chance_53 ?_
            refine g_goto (tgt := 58) dX12_chance_54 (by decide) ?_
            refine g_iadd dX12_chance_58 ?_
            refine g_norm (fun r180 h_r180 e_r180 => ?_)
            refine g_istore_n (l1 := [(2, vI r180), (0, vR 0), (1, vI a1), (3, vI x31_3_6)]) dX12_chance_59 (by decide) rfl ?_
            refine g_iinc (l1 := [(3, vI (x31_3_6 + 1)), (2, vI r180), (0, vR 0), (1, vI a1)]) dX12_chance_60 rfl (by decide) rfl ?_
            refine g_goto (tgt := 31) dX12_chance_63 (by decide) ?_
            refine g_forget (l1 := [(0, vR 0), (1, vI a1), (2, vI r180), (3, vI (x31_3_6 + 1))]) (by intro q hq; simp only [List.mem_cons, List.not_mem_nil, or_false] at hq ⊢; rcases hq with rfl | rfl | rfl | rfl <;> simp) ?_
            exact ih31_6 (x31_3_6 + 1) ⟨by (clear hmh gc4_is ho k173 k179; omega), by (omega)⟩ r180 ⟨by (clear hmh gc4_is ho k173 k179; omega), by (clear hmh gc4_is ho k173 k179; omega)⟩ _ hBc177 (FrM.c (FrM.c (FrM.c FrM.rf hE31_6 rfl) hFc176 rfl) hFc177 rfl) (by have q0 := b0_74 hBc177; (clear hmh gc4_is ho k173 k179; omega)) (by first | exact hch9 | exact (by first | (rw [show (aPush A) = (up (up (aDrs (x31_3_6).toNat (aPush A)) 0 5 (drw ((aDrs (x31_3_6).toNat (aPush A)) 0 5))) 0 3 ((up (aDrs (x31_3_6).toNat (aPush A)) 0 5 (drw ((aDrs (x31_3_6).toNat (aPush A)) 0 5))) 0 3 + 1)) by (first | (clear hmh gc4_is ho k173 k179; omega) | (clear hmh gc4_is ho k173; omega) | (clear hmh gc4_is ho k179; omega) | (clear hmh gc4_is k173 k179; omega) | (clear hmh ho k173 k179; omega) | (clear gc4_is ho k173 k179; omega) | (clear hmh gc4_is ho; omega) | (clear hmh; omega) | omega)]; exact ec177_0))) (by (clear hmh gc4_is ho k179; omega)) vc177_RE vc177_MVw (by (clear hmh gc4_is ho k173 k179; omega))
      refine g_forget (l1 := [(0, vR 0), (1, vI a1), (2, vI 0), (3, vI 0)]) (by intro q hq; simp only [List.mem_cons, List.not_mem_nil, or_false] at hq ⊢; rcases hq with rfl | rfl | rfl | rfl <;> simp) ?_
      exact L31_6 _ 0 (by decide) 0 (by decide) _ hBc6 FrM.rf (by have q0 := (((hFc6.1 74 rfl).trans rfl) : Pc6 0 74 = (P 0 74)); have q1 := b0_74 hB; (clear hmh gc4_is ho; omega)) (by first | exact hch9 | exact ec6_0) (by (clear hmh gc4_is ho; omega)) (RE.fr (F := ([59, 60], [35, 36, 37, 38, 39, 40])) v_RE (FrM.c FrM.rf hFc6 rfl) rfl) (MVw.fr (F := ([59, 60], [35, 36, 37, 38, 39, 40])) v_MVw (FrM.c FrM.rf hFc6 rfl) rfl) (Nat.lt_succ_self _)
    · skip
      refine g_aload_n dX12_chance_17 rfl ?_
      refine g_iconst dX12_chance_18 ?_
      refine g_vI (av := [vI 2]) (o := 0) (st := []) (m_X12_refuses G P 2 (by decide) hB  _ (fun rc181 hc181 Pc181 hBc181 hFc181 => ⟨rc181, rfl, ?_⟩)) cf_X12_refuses t_1667 rfl (by decide) rfl rfl rfl (Nat.le_of_ble_eq_true rfl) (by decide) rfl dX12_chance_19
      exact g_retI dX12_chance_22 rfl (hQ rc181 ⟨by (clear hmh gc4_is k5; omega), by (clear hmh gc4_is k5; omega)⟩ _ hBc181 (FrM.c FrM.rf hFc181 rfl) (by have q0 := (((hFc181.1 74 rfl).trans rfl) : Pc181 0 74 = (P 0 74)); have q1 := b0_74 hB; (clear hmh gc4_is k5; omega)) (MVw.fr (F := ([], [28])) v_MVw (FrM.c FrM.rf hFc181 rfl) rfl) (RE.fr (F := ([], [28])) v_RE (FrM.c FrM.rf hFc181 rfl) rfl) (by rw [aCha_n (by (clear hmh; omega))]; exact (AM.fr (F := ([], [28])) z0 (FrM.c FrM.rf hFc181 rfl) rfl)))
/-! What the reference answers: X12_choose. -/
set_option maxRecDepth 100000 in
set_option maxHeartbeats 4000000 in
theorem f_X12_choose (G : GT) (P : PH) (A : PH) (k : Int) (M : PH) (a1 : Int) (h_a1 : (-2147483648) ≤ a1 ∧ a1 ≤ 2147483647) (hB : BdM P) (p_wa : WA k A) (z0 : AM A P) (z1 : MH M P) (Q : Option PV → PH → Prop) (hQ : ∀ (r : Int) (_ : 0 ≤ r ∧ r ≤ 1) (P1 : PH) (_ : BdM P1) (_ : FrM ([59, 60], [28, 35, 36, 37, 38, 39, 40]) P P1) (_ : (r = 0 ∧ (M 0 0 ≤ 0 ∨ a1 < 0 ∨ 3 < a1 ∨ A 0 2 = a1)) ∨ (r = 1 ∧ 0 < M 0 0 ∧ 0 ≤ a1 ∧ a1 ≤ 3 ∧ A 0 2 ≠ a1)) (_ : AM (aRule A M a1) P1), Q (some (vI r)) P1) : Ct WSM G 3 iX12_choose [vR 0, vI a1] P Q := by
  refine Ct.of (by decide) (l0 := [(0, vR 0), (1, vI a1)]) rfl (Nat.le_of_ble_eq_true rfl) ?_
  have hb := z0.b
  have q59 := b0_59 hB
  have hw1 := p_wa.1
  have hmh := z1
  unfold MH at hmh
  refine g_aload_n dX12_choose_0 rfl ?_
  refine m_g44 (z := (P 0 44)) rfl dX12_choose_1 rfl ?_
  have f1 := b0_44 hB
  refine g_if_eq (tgt := 26) dX12_choose_4 (by decide) ⟨by have q0 := b0_44 hB; (clear hb hmh; omega), by have q0 := b0_44 hB; (clear hb hmh; omega)⟩ (fun k2 => ?_) (fun k2 => ?_)
  · refine g_aload_n dX12_choose_26 rfl ?_
    refine g_iconst dX12_choose_27 ?_
    refine g_vI (av := [vI 3]) (o := 0) (st := []) (m_X12_refuses G P 3 (by decide) hB  _ (fun rc3 hc3 Pc3 hBc3 hFc3 => ⟨rc3, rfl, ?_⟩)) cf_X12_refuses t_1667 rfl (by decide) rfl rfl rfl (Nat.le_of_ble_eq_true rfl) (by decide) rfl dX12_choose_28
    refine g_if_lt (tgt := 38) dX12_choose_31 (by decide) ⟨by (clear hb hmh k2; omega), by (clear hb hmh k2; omega)⟩ (fun k4 => ?_) (fun k4 => by exfalso; (clear hb hmh k2; omega))
    refine g_iconst dX12_choose_38 ?_
    exact g_retZ dX12_choose_39 rfl (by decide) (hQ 0 (by decide) _ hBc3 (FrM.c FrM.rf hFc3 rfl) (by (omega)) (by rw [aRule_n (by (omega))]; exact (AM.fr (F := ([], [28])) z0 (FrM.c FrM.rf hFc3 rfl) rfl)))
  · have k2n : 1 ≤ (P 0 44) := by have q0 := b0_44 hB; (clear hb hmh; omega)
    clear k2
    refine g_iload_n dX12_choose_7 rfl ?_
    refine g_iconst dX12_choose_8 ?_
    refine g_iconst dX12_choose_9 ?_
    refine g_sI (av := [vI a1, vI 0, vI 3]) (st := []) (m_X12_is G P a1 0 3 ⟨by (clear hb hmh; omega), by (clear hb hmh; omega)⟩ (by decide) (by decide) hB  _ (fun rc5 hc5 gc5_is => ⟨rc5, rfl, ?_⟩)) cf_X12_is t_1800 rfl (Nat.le_of_ble_eq_true rfl) (by decide) rfl dX12_choose_10
    refine g_if_eq (tgt := 26) dX12_choose_13 (by decide) ⟨by (clear hb hmh gc5_is; omega), by (clear hb hmh gc5_is; omega)⟩ (fun k6 => ?_) (fun k6 => ?_)
    · skip
      refine g_aload_n dX12_choose_26 rfl ?_
      refine g_iconst dX12_choose_27 ?_
      refine g_vI (av := [vI 3]) (o := 0) (st := []) (m_X12_refuses G P 3 (by decide) hB  _ (fun rc7 hc7 Pc7 hBc7 hFc7 => ⟨rc7, rfl, ?_⟩)) cf_X12_refuses t_1667 rfl (by decide) rfl rfl rfl (Nat.le_of_ble_eq_true rfl) (by decide) rfl dX12_choose_28
      refine g_if_lt (tgt := 38) dX12_choose_31 (by decide) ⟨by (clear hb hmh gc5_is k6; omega), by (clear hb hmh gc5_is k6; omega)⟩ (fun k8 => ?_) (fun k8 => by exfalso; (clear hb hmh gc5_is k6; omega))
      skip
      refine g_iconst dX12_choose_38 ?_
      exact g_retZ dX12_choose_39 rfl (by decide) (hQ 0 (by decide) _ hBc7 (FrM.c FrM.rf hFc7 rfl) (by (clear hb; omega)) (by rw [aRule_n (by (clear hb; omega))]; exact (AM.fr (F := ([], [28])) z0 (FrM.c FrM.rf hFc7 rfl) rfl)))
    · have k6n : 1 ≤ rc5 := by (clear hb hmh gc5_is; omega)
      clear k6
      have r_gc5_is := (gc5_is.resolve_right (by (clear hb hmh gc5_is; omega)))
      refine g_aload_n dX12_choose_16 rfl ?_
      refine m_g56 rfl dX12_choose_17 ?_
      refine g_iconst dX12_choose_20 ?_
      refine m_l38 (z := (P 38 0)) dX12_choose_21 (by decide) rfl ?_
      refine g_iload_n dX12_choose_22 rfl ?_
      have f9 := bl_38 (k := 0) hB
      refine g_icmp_ne (tgt := 40) dX12_choose_23 (by decide) ⟨by have q0 := bl_38 (k := 0) hB; (clear hb hmh gc5_is; omega), by have q0 := bl_38 (k := 0) hB; (clear hb hmh gc5_is; omega)⟩ ⟨by (clear hb hmh gc5_is; omega), by (clear hb hmh gc5_is; omega)⟩ (fun k10 => ?_) (fun k10 => ?_)
      · skip
        refine g_aload_n dX12_choose_40 rfl ?_
        refine g_vV (av := []) (o := 0) (st := []) (f_X12_keeps G P (A) (k)  hB (by (clear hb hmh gc5_is k10; omega)) (z0) _ (fun Pc11 hBc11 hFc11 gc11_o ec11_0 => ⟨rfl, ?_⟩)) cf_X12_keeps t_2132 rfl (by decide) rfl rfl rfl (Nat.le_of_ble_eq_true rfl) (by decide) rfl dX12_choose_41
        have hpu := ec11_0
        have hbk := hBc11
        refine g_aload_n dX12_choose_44 rfl ?_
        refine m_g56 rfl dX12_choose_45 ?_
        refine g_iconst dX12_choose_48 ?_
        refine g_iload_n dX12_choose_49 rfl ?_
        refine m_s38 dX12_choose_50 (by decide) ?_
        have hB12 := ba_38 (z := a1) (k := 0) hBc11 ⟨by (clear hb hmh gc5_is k10; omega), by (clear hb hmh gc5_is k10; omega)⟩
        refine g_iconst dX12_choose_51 ?_
        exact g_retZ dX12_choose_52 rfl (by decide) (hQ 1 (by decide) _ hB12 (FrM.a (FrM.c FrM.rf hFc11 rfl) rfl rfl) (by (omega)) (by rw [aRule_y ⟨by (clear hb gc5_is k10; omega), by (clear hb hmh gc5_is k10; omega), by (clear hb hmh gc5_is k10; omega), by (omega)⟩]; exact AM.ru hpu p_wa (b0_59 hbk) up_same (fun j hj => up_k hj) (FrM.a FrM.rf rfl rfl)))
      · skip
        refine g_aload_n dX12_choose_26 rfl ?_
        refine g_iconst dX12_choose_27 ?_
        refine g_vI (av := [vI 3]) (o := 0) (st := []) (m_X12_refuses G P 3 (by decide) hB  _ (fun rc13 hc13 Pc13 hBc13 hFc13 => ⟨rc13, rfl, ?_⟩)) cf_X12_refuses t_1667 rfl (by decide) rfl rfl rfl (Nat.le_of_ble_eq_true rfl) (by decide) rfl dX12_choose_28
        refine g_if_lt (tgt := 38) dX12_choose_31 (by decide) ⟨by (clear hb hmh gc5_is k10; omega), by (clear hb hmh gc5_is k10; omega)⟩ (fun k14 => ?_) (fun k14 => by exfalso; (clear hb hmh gc5_is k10; omega))
        skip
        refine g_iconst dX12_choose_38 ?_
        exact g_retZ dX12_choose_39 rfl (by decide) (hQ 0 (by decide) _ hBc13 (FrM.c FrM.rf hFc13 rfl) (by (omega)) (by rw [aRule_n (by (omega))]; exact (AM.fr (F := ([], [28])) z0 (FrM.c FrM.rf hFc13 rfl) rfl)))
/-! What the reference answers: X12_drop. -/
set_option maxRecDepth 100000 in
set_option maxHeartbeats 4000000 in
theorem f_X12_drop (G : GT) (P : PH) (A : PH) (k : Int) (a1 : Int) (h_a1 : (-2147483648) ≤ a1 ∧ a1 ≤ 2147483647) (hB : BdM P) (p_im : P 0 44 = 1 ∨ A 0 0 ≤ 0) (p_wa : WA k A) (z0 : AM A P) (Q : Option PV → PH → Prop) (hQ : ∀ (r : Int) (_ : 0 ≤ r ∧ r ≤ 1) (P1 : PH) (_ : BdM P1) (_ : FrM ([59, 60], [28, 35, 36, 37, 38, 39, 40]) P P1) (_ : (r = 1 ∧ 0 ≤ a1 ∧ a1 < A 0 0) ∨ (r = 0 ∧ (a1 < 0 ∨ A 0 0 ≤ a1))) (_ : AM (aDrop A a1) P1), Q (some (vI r)) P1) : Ct WSM G 3 iX12_drop [vR 0, vI a1] P Q := by
  refine Ct.of (by decide) (l0 := [(0, vR 0), (1, vI a1)]) rfl (Nat.le_of_ble_eq_true rfl) ?_
  have hb := z0.b
  have q59 := b0_59 hB
  have hw1 := p_wa.1
  refine g_aload_n dX12_drop_0 rfl ?_
  refine g_iload_n dX12_drop_1 rfl ?_
  refine g_vI (av := [vI a1]) (o := 0) (st := []) (f_X12_isPlace G P (A) a1 ⟨by (clear p_im hb; omega), by (clear p_im hb; omega)⟩ hB (by have q0 := b0_44 hB; (clear hb; omega)) (z0) _ (fun rc1 hc1 gc1_p gc1_f => ⟨rc1, rfl, ?_⟩)) cf_X12_isPlace t_1883 rfl (by decide) rfl rfl rfl (Nat.le_of_ble_eq_true rfl) (by decide) rfl dX12_drop_2
  have f2 := b0_44 hB
  have f3 := bl_35 (k := 0) hB
  refine g_if_ne (tgt := 22) dX12_drop_5 (by decide) ⟨by (clear p_im hb gc1_p gc1_f; omega), by (clear p_im hb gc1_p gc1_f; omega)⟩ (fun k4 => ?_) (fun k4 => ?_)
  · have k4n : 1 ≤ rc1 := by (clear p_im hb gc1_p gc1_f; omega)
    clear k4
    have r_gc1_f := (gc1_f.resolve_right (by (clear p_im hb gc1_p gc1_f; omega)))
    have r_gc1_p := (gc1_p.resolve_left (by (clear p_im hb gc1_p gc1_f; omega)))
    have r_p_im := (p_im.resolve_right (by (clear p_im hb gc1_p gc1_f; omega)))
    refine g_aload_n dX12_drop_22 rfl ?_
    refine g_vV (av := []) (o := 0) (st := []) (f_X12_keeps G P (A) (k)  hB (by (clear p_im hb gc1_p gc1_f; omega)) (z0) _ (fun Pc5 hBc5 hFc5 gc5_o ec5_0 => ⟨rfl, ?_⟩)) cf_X12_keeps t_2132 rfl (by decide) rfl rfl rfl (Nat.le_of_ble_eq_true rfl) (by decide) rfl dX12_drop_23
    have hpu := ec5_0
    have hbk := hBc5
    obtain ⟨Z, hZ⟩ : ∃ Z : PH, Pc5 = Z := ⟨_, rfl⟩
    have hbz := hpu.b
    refine g_iload_n dX12_drop_26 rfl ?_
    refine g_istore_n (l1 := [(2, vI a1), (0, vR 0), (1, vI a1)]) dX12_drop_27 (by decide) rfl ?_
    have L28_5 : ∀ (n28_5 : Nat) (x28_2_5 : Int) (h_x28_2_5 : 0 ≤ x28_2_5 ∧ x28_2_5 ≤ 11) (H28_5 : PH) (hB28_5 : BdM H28_5) (hE28_5 : FrM ([], [36]) Pc5 H28_5) (i28_0_5 : ∀ q : Int, q < x28_2_5 → H28_5 36 q = if q < a1 then Z 36 q else Z 36 (q + 1)) (i28_1_5 : ∀ q : Int, x28_2_5 ≤ q → H28_5 36 q = Z 36 q) (i28_2_5 : a1 ≤ x28_2_5) (hm28_5 : ((12 - x28_2_5) : Int).toNat < n28_5), Go WSM G 3 iX12_drop 28 [(0, vR 0), (2, vI x28_2_5)] [] H28_5 Q := by
      intro n28_5
      induction n28_5 with
      | zero => intro x28_2_5 h_x28_2_5 H28_5 hB28_5 hE28_5 i28_0_5 i28_1_5 i28_2_5 hm28_5; exact absurd hm28_5 (Nat.not_lt_zero _)
      | succ n28_5 ih28_5 =>
      intro x28_2_5 h_x28_2_5 H28_5 hB28_5 hE28_5 i28_0_5 i28_1_5 i28_2_5 hm28_5
      refine g_iload_n dX12_drop_28 rfl ?_
      refine g_iconst dX12_drop_29 ?_
      refine g_iadd dX12_drop_30 ?_
      refine g_aload_n dX12_drop_31 rfl ?_
      refine m_g53 rfl dX12_drop_32 ?_
      refine g_iconst dX12_drop_35 ?_
      refine m_l35 (z := (Pc5 35 0)) dX12_drop_36 (by decide) ((congrFun (hE28_5.2 35 rfl rfl) _).trans rfl) ?_
      have f23 := bl_35 (k := 0) hBc5
      refine g_icmp_ge (tgt := 60) dX12_drop_37 (by decide) ⟨by (clear p_im hb gc1_p gc1_f hbz; omega), by (clear p_im hb gc1_p gc1_f hbz; omega)⟩ ⟨by have q0 := bl_35 (k := 0) hBc5; (clear p_im hb gc1_p gc1_f hbz; omega), by have q0 := bl_35 (k := 0) hBc5; (clear p_im hb gc1_p gc1_f hbz; omega)⟩ (fun k24 => ?_) (fun k24 => ?_)
      · skip
        skip
        skip
        refine g_aload_n dX12_drop_60 rfl ?_
        refine m_g53 rfl dX12_drop_61 ?_
        refine g_iconst dX12_drop_64 ?_
        refine g_dup2 dX12_drop_65 rfl rfl ?_
        refine m_l35 (z := (Pc5 35 0)) dX12_drop_66 (by decide) ((congrFun (hE28_5.2 35 rfl rfl) _).trans rfl) ?_
        refine g_iconst dX12_drop_67 ?_
        refine g_isub dX12_drop_68 ?_
        refine m_s35 dX12_drop_69 (by decide) ?_
        have hB25 := ba_35 (z := ((Pc5 35 0) - 1)) (k := 0) hB28_5 ⟨by have q0 := bl_35 (k := 0) hBc5; (clear p_im hb gc1_p gc1_f hbz; omega), by have q0 := bl_35 (k := 0) hBc5; (clear p_im hb gc1_p gc1_f hbz; omega)⟩
        refine g_iconst dX12_drop_70 ?_
        exact g_retZ dX12_drop_71 rfl (by decide) (hQ 1 (by decide) _ hB25 (FrM.a (FrM.c (FrM.c FrM.rf hFc5 rfl) hE28_5 rfl) rfl rfl) (by (clear p_im hb gc1_p gc1_f hbz; omega)) (by subst hZ; exact AM.dr hpu p_wa (b0_59 hbk) ⟨by (clear p_im hb gc1_p gc1_f hbz; omega), by (clear p_im hb gc1_p gc1_f hbz; omega)⟩ up_same (fun j hj => ((up_k hj).trans ((congrFun (hE28_5.2 35 rfl rfl) _).trans rfl))) (fun q hq => Eq.trans (up_o (by decide)) ((i28_0_5 q (by (clear p_im hb gc1_p gc1_f hbz; omega))).trans (if_pos hq))) (fun q q0 q1 => Eq.trans (up_o (by decide)) ((i28_0_5 q (by have q9 := (((congrFun (hE28_5.2 35 rfl rfl) _).trans rfl) : H28_5 35 0 = (Pc5 35 0)); (clear p_im hb gc1_p gc1_f hbz; omega))).trans (if_neg (by (clear p_im hb gc1_p gc1_f hbz; omega))))) (fun j hj => Eq.trans (up_o (by decide)) (i28_1_5 j (by (clear p_im hb gc1_p gc1_f hbz; omega)))) (show FrM ([], [35, 36]) _ _ from (FrM.a (FrM.c FrM.rf hE28_5 rfl) rfl rfl))))
      · skip
        skip
        skip
        refine g_aload_n dX12_drop_40 rfl ?_
        refine m_g54 rfl dX12_drop_41 ?_
        refine g_iload_n dX12_drop_44 rfl ?_
        refine g_aload_n dX12_drop_45 rfl ?_
        refine m_g54 rfl dX12_drop_46 ?_
        refine g_iload_n dX12_drop_49 rfl ?_
        refine g_iconst dX12_drop_50 ?_
        refine g_iadd dX12_drop_51 ?_
        refine m_l36 (z := (H28_5 36 (x28_2_5 + 1))) dX12_drop_52 ⟨by (clear p_im hb gc1_p gc1_f hbz; omega), by (clear p_im hb gc1_p gc1_f hbz; omega)⟩ rfl ?_
        refine m_s36 dX12_drop_53 ⟨by (clear p_im hb gc1_p gc1_f hbz; omega), by (clear p_im hb gc1_p gc1_f hbz; omega)⟩ ?_
        have hB26 := ba_36 (z := (H28_5 36 (x28_2_5 + 1))) (k := x28_2_5) hB28_5 ⟨by have q0 := bl_36 (k := (x28_2_5 + 1)) hB28_5; (clear p_im hb gc1_p gc1_f hbz; omega), by have q0 := bl_36 (k := (x28_2_5 + 1)) hB28_5; (clear p_im hb gc1_p gc1_f hbz; omega)⟩
        have hC9 : ∀ q : Int, q < x28_2_5 + 1 → (up H28_5 36 x28_2_5 (H28_5 36 (x28_2_5 + 1))) 36 q = if q < a1 then Z 36 q else Z 36 (q + 1) := by
          intro q q1
          by_cases e : q = x28_2_5
          · rw [e, if_neg (by (clear p_im hb gc1_p gc1_f hbz; omega))]; exact Eq.trans up_same (i28_1_5 _ (by (clear p_im hb gc1_p gc1_f hbz; omega)))
          · have hj : q ≠ x28_2_5 := by (clear p_im hb gc1_p gc1_f hbz; omega)
            exact Eq.trans ((up_k hj).trans rfl) (i28_0_5 q (by (clear p_im hb gc1_p gc1_f hbz hj; omega)))
        have hD9 : ∀ q : Int, x28_2_5 + 1 ≤ q → (up H28_5 36 x28_2_5 (H28_5 36 (x28_2_5 + 1))) 36 q = Z 36 q := by
          intro q q1
          have hj : q ≠ x28_2_5 := by (clear p_im hb gc1_p gc1_f hbz; omega)
          exact Eq.trans ((up_k hj).trans rfl) (i28_1_5 q (by (clear p_im hb gc1_p gc1_f hbz hj; omega)))
        refine g_iinc (l1 := [(2, vI (x28_2_5 + 1)), (0, vR 0)]) dX12_drop_54 rfl (by decide) rfl ?_
        refine g_goto (tgt := 28) dX12_drop_57 (by decide) ?_
        refine g_forget (l1 := [(0, vR 0), (2, vI (x28_2_5 + 1))]) (by intro q hq; simp only [List.mem_cons, List.not_mem_nil, or_false] at hq ⊢; rcases hq with rfl | rfl <;> simp) ?_
        exact ih28_5 (x28_2_5 + 1) ⟨by (clear p_im hb gc1_p gc1_f hbz; omega), by (clear p_im hb gc1_p gc1_f hbz; omega)⟩ _ hB26 (FrM.a (FrM.c FrM.rf hE28_5 rfl) rfl rfl) (by first | exact hC9 | (intro q q1; rw [if_pos q1, hZ])) (by first | exact hD9 | (intro q q1; rw [hZ])) (by (clear p_im hb gc1_p gc1_f hbz; omega)) (by (clear p_im hb gc1_p gc1_f hbz; omega))
    refine g_forget (l1 := [(0, vR 0), (2, vI a1)]) (by intro q hq; simp only [List.mem_cons, List.not_mem_nil, or_false] at hq ⊢; rcases hq with rfl | rfl <;> simp) ?_
    exact L28_5 _ a1 ⟨by (clear p_im hb gc1_p gc1_f hbz; omega), by (clear p_im hb gc1_p gc1_f hbz; omega)⟩ _ hBc5 FrM.rf (by first | exact hC9 | (intro q q1; rw [if_pos q1, hZ])) (by first | exact hD9 | (intro q q1; rw [hZ])) (by (clear p_im hb gc1_p gc1_f hbz; omega)) (Nat.lt_succ_self _)
  · skip
    skip
    skip
    refine g_aload_n dX12_drop_8 rfl ?_
    refine g_iconst dX12_drop_9 ?_
    refine g_vI (av := [vI 3]) (o := 0) (st := []) (m_X12_refuses G P 3 (by decide) hB  _ (fun rc27 hc27 Pc27 hBc27 hFc27 => ⟨rc27, rfl, ?_⟩)) cf_X12_refuses t_1667 rfl (by decide) rfl rfl rfl (Nat.le_of_ble_eq_true rfl) (by decide) rfl dX12_drop_10
    refine g_if_lt (tgt := 20) dX12_drop_13 (by decide) ⟨by (clear p_im hb gc1_p gc1_f k4; omega), by (clear p_im hb gc1_p gc1_f k4; omega)⟩ (fun k28 => ?_) (fun k28 => by exfalso; (clear p_im hb gc1_p gc1_f k4; omega))
    skip
    skip
    skip
    refine g_iconst dX12_drop_20 ?_
    exact g_retZ dX12_drop_21 rfl (by decide) (hQ 0 (by decide) _ hBc27 (FrM.c FrM.rf hFc27 rfl) (by (clear p_im hb gc1_p; omega)) (by rw [aDrop_n (by (clear p_im hb gc1_p; omega))]; exact (AM.fr (F := ([], [28])) z0 (FrM.c FrM.rf hFc27 rfl) rfl)))
/-! What the reference answers: X12_run. -/
set_option maxRecDepth 100000 in
set_option maxHeartbeats 4000000 in
theorem f_X12_run (G : GT) (P : PH) (A : PH) (k : Int) (M : PH) (a1 : Int) (h_a1 : (-2147483648) ≤ a1 ∧ a1 ≤ 2147483647) (hB : BdM P) (p_st : P 0 74 ≤ 199999999) (p_wa : WA k A) (v_okC : okC P) (v_MVw : MVw P) (v_RE : RE P) (z0 : AM A P) (z1 : MH M P) (z2 : MR M P) (Q : Option PV → PH → Prop) (hQ : ∀ (r : Int) (_ : (-2147483648) ≤ r ∧ r ≤ 2147483647) (P1 : PH) (_ : BdM P1) (_ : FrM ([59, 60, 62, 66, 74, 76, 78], [28, 35, 36, 37, 38, 39, 40, 41, 42, 43, 44, 49, 50]) P P1) (_ : P1 0 74 ≤ P 0 74 + 1) (_ : MVw P1) (_ : RE P1) (_ : AM (aRun A M a1) P1), Q (some (vI r)) P1) : Ct WSM G 6 iX12_run [vR 0, vI a1] P Q := by
  refine Ct.of (by decide) (l0 := [(0, vR 0), (1, vI a1)]) rfl (Nat.le_of_ble_eq_true rfl) ?_
  have hp3 := aPush_0 A 3 (by decide)
  refine g_aload_n dX12_run_0 rfl ?_
  refine g_iload_n dX12_run_1 rfl ?_
  refine g_vI (av := [vI a1]) (o := 0) (st := []) (f_X12_isRow G P (M) a1 ⟨by omega, by omega⟩ hB (z1) (z2) _ (fun rc1 hc1 gc1_p gc1_f => ⟨rc1, rfl, ?_⟩)) cf_X12_isRow t_1946 rfl (by decide) rfl rfl rfl (Nat.le_of_ble_eq_true rfl) (by decide) rfl dX12_run_2
  have f2 := b0_44 hB
  have f3 := b0_52 hB
  refine g_if_ne (tgt := 14) dX12_run_5 (by decide) ⟨by (clear gc1_p gc1_f; omega), by (clear gc1_p gc1_f; omega)⟩ (fun k4 => ?_) (fun k4 => ?_)
  · have k4n : 1 ≤ rc1 := by (clear gc1_p gc1_f; omega)
    clear k4
    have r_gc1_f := (gc1_f.resolve_right (by (clear gc1_p gc1_f; omega)))
    have r_gc1_p := (gc1_p.resolve_left (by (clear gc1_p gc1_f; omega)))
    refine g_aload_n dX12_run_14 rfl ?_
    refine g_vV (av := []) (o := 0) (st := []) (f_X12_keeps G P (A) (k)  hB (by (clear gc1_p gc1_f; omega)) (z0) _ (fun Pc5 hBc5 hFc5 gc5_o ec5_0 => ⟨rfl, ?_⟩)) cf_X12_keeps t_2132 rfl (by decide) rfl rfl rfl (Nat.le_of_ble_eq_true rfl) (by decide) rfl dX12_run_15
    refine g_aload_n dX12_run_18 rfl ?_
    refine g_iload_n dX12_run_19 rfl ?_
    refine g_vI (av := [vI a1]) (o := 0) (st := []) (f_X12_runs G Pc5 (aPush A) a1 ⟨by (clear gc1_p gc1_f; omega), by (clear gc1_p gc1_f; omega)⟩ hBc5 (by have q0 := (((hFc5.1 74 rfl).trans rfl) : Pc5 0 74 = (P 0 74)); have q1 := b0_74 hB; (clear gc1_p gc1_f; omega)) (okC.fr (F := ([59, 60], [35, 36, 37, 38, 39, 40])) v_okC (FrM.c FrM.rf hFc5 rfl) rfl) (MVw.fr (F := ([59, 60], [35, 36, 37, 38, 39, 40])) v_MVw (FrM.c FrM.rf hFc5 rfl) rfl) (RE.fr (F := ([59, 60], [35, 36, 37, 38, 39, 40])) v_RE (FrM.c FrM.rf hFc5 rfl) rfl) (ec5_0) _ (fun rc6 hc6 Pc6 hBc6 hFc6 gc6_st vc6_MVw vc6_RE ec6_0 => ⟨rc6, rfl, ?_⟩)) cf_X12_runs t_2136 rfl (by decide) rfl rfl rfl (Nat.le_of_ble_eq_true rfl) (by decide) rfl dX12_run_20
    have z7 : Pc5 0 74 = (P 0 74) := ((hFc5.1 74 rfl).trans rfl)
    exact g_retI dX12_run_23 rfl (hQ rc6 ⟨by (clear gc1_p gc1_f; omega), by (clear gc1_p gc1_f; omega)⟩ _ hBc6 (FrM.c (FrM.c FrM.rf hFc5 rfl) hFc6 rfl) (by have q0 := b0_74 hBc6; (clear gc1_p gc1_f; omega)) vc6_MVw vc6_RE (by rw [aRun_y ⟨by (clear gc1_p gc1_f; omega), by (clear gc1_p gc1_f; omega), by (clear gc1_p gc1_f; omega)⟩, ← hp3]; exact ec6_0))
  · skip
    skip
    refine g_aload_n dX12_run_8 rfl ?_
    refine g_iconst dX12_run_9 ?_
    refine g_vI (av := [vI 2]) (o := 0) (st := []) (m_X12_refuses G P 2 (by decide) hB  _ (fun rc8 hc8 Pc8 hBc8 hFc8 => ⟨rc8, rfl, ?_⟩)) cf_X12_refuses t_1667 rfl (by decide) rfl rfl rfl (Nat.le_of_ble_eq_true rfl) (by decide) rfl dX12_run_10
    exact g_retI dX12_run_13 rfl (hQ rc8 ⟨by (clear gc1_p gc1_f k4; omega), by (clear gc1_p gc1_f k4; omega)⟩ _ hBc8 (FrM.c FrM.rf hFc8 rfl) (by have q0 := (((hFc8.1 74 rfl).trans rfl) : Pc8 0 74 = (P 0 74)); have q1 := b0_74 hB; (clear gc1_p gc1_f k4; omega)) (MVw.fr (F := ([], [28])) v_MVw (FrM.c FrM.rf hFc8 rfl) rfl) (RE.fr (F := ([], [28])) v_RE (FrM.c FrM.rf hFc8 rfl) rfl) (by rw [aRun_n (by (clear gc1_p; omega))]; exact (AM.fr (F := ([], [28])) z0 (FrM.c FrM.rf hFc8 rfl) rfl)))
/-! What the reference answers: X12_swap. -/
set_option maxRecDepth 100000 in
set_option maxHeartbeats 4000000 in
theorem f_X12_swap (G : GT) (P : PH) (A : PH) (k : Int) (a1 : Int) (a2 : Int) (h_a1 : (-2147483648) ≤ a1 ∧ a1 ≤ 2147483647) (h_a2 : (-2147483648) ≤ a2 ∧ a2 ≤ 2147483647) (hB : BdM P) (p_im : P 0 44 = 1 ∨ A 0 0 ≤ 0) (p_wa : WA k A) (z0 : AM A P) (Q : Option PV → PH → Prop) (hQ : ∀ (r : Int) (_ : 0 ≤ r ∧ r ≤ 1) (P1 : PH) (_ : BdM P1) (_ : FrM ([59, 60], [28, 35, 36, 37, 38, 39, 40]) P P1) (_ : (r = 1 ∧ 0 ≤ a1 ∧ a1 < A 0 0 ∧ 0 ≤ a2 ∧ a2 < A 0 0 ∧ a1 ≠ a2) ∨ (r = 0 ∧ (a1 < 0 ∨ A 0 0 ≤ a1 ∨ a2 < 0 ∨ A 0 0 ≤ a2 ∨ a1 = a2))) (_ : AM (aSwap A a1 a2) P1), Q (some (vI r)) P1) : Ct WSM G 3 iX12_swap [vR 0, vI a1, vI a2] P Q := by
  refine Ct.of (by decide) (l0 := [(0, vR 0), (1, vI a1), (2, vI a2)]) rfl (Nat.le_of_ble_eq_true rfl) ?_
  have hb := z0.b
  have q59 := b0_59 hB
  have hw1 := p_wa.1
  refine g_aload_n dX12_swap_0 rfl ?_
  refine g_iload_n dX12_swap_1 rfl ?_
  refine g_vI (av := [vI a1]) (o := 0) (st := []) (f_X12_isPlace G P (A) a1 ⟨by (clear p_im hb; omega), by (clear p_im hb; omega)⟩ hB (by have q0 := b0_44 hB; (clear hb; omega)) (z0) _ (fun rc1 hc1 gc1_p gc1_f => ⟨rc1, rfl, ?_⟩)) cf_X12_isPlace t_1883 rfl (by decide) rfl rfl rfl (Nat.le_of_ble_eq_true rfl) (by decide) rfl dX12_swap_2
  have f2 := b0_44 hB
  have f3 := bl_35 (k := 0) hB
  refine g_if_eq (tgt := 21) dX12_swap_5 (by decide) ⟨by (clear p_im hb gc1_p gc1_f; omega), by (clear p_im hb gc1_p gc1_f; omega)⟩ (fun k4 => ?_) (fun k4 => ?_)
  · skip
    skip
    skip
    refine g_aload_n dX12_swap_21 rfl ?_
    refine g_iconst dX12_swap_22 ?_
    refine g_vI (av := [vI 3]) (o := 0) (st := []) (m_X12_refuses G P 3 (by decide) hB  _ (fun rc5 hc5 Pc5 hBc5 hFc5 => ⟨rc5, rfl, ?_⟩)) cf_X12_refuses t_1667 rfl (by decide) rfl rfl rfl (Nat.le_of_ble_eq_true rfl) (by decide) rfl dX12_swap_23
    refine g_if_lt (tgt := 33) dX12_swap_26 (by decide) ⟨by (clear p_im hb gc1_p gc1_f k4; omega), by (clear p_im hb gc1_p gc1_f k4; omega)⟩ (fun k6 => ?_) (fun k6 => by exfalso; (clear p_im hb gc1_p gc1_f k4; omega))
    skip
    skip
    skip
    refine g_iconst dX12_swap_33 ?_
    exact g_retZ dX12_swap_34 rfl (by decide) (hQ 0 (by decide) _ hBc5 (FrM.c FrM.rf hFc5 rfl) (by (clear hb p_im; omega)) (by rw [aSwap_n (by (clear hb p_im; omega))]; exact (AM.fr (F := ([], [28])) z0 (FrM.c FrM.rf hFc5 rfl) rfl)))
  · have k4n : 1 ≤ rc1 := by (clear p_im hb gc1_p gc1_f; omega)
    clear k4
    have r_gc1_f := (gc1_f.resolve_right (by (clear p_im hb gc1_p gc1_f; omega)))
    have r_gc1_p := (gc1_p.resolve_left (by (clear p_im hb gc1_p gc1_f; omega)))
    have r_p_im := (p_im.resolve_right (by (clear p_im hb gc1_p gc1_f; omega)))
    refine g_aload_n dX12_swap_8 rfl ?_
    refine g_iload_n dX12_swap_9 rfl ?_
    refine g_vI (av := [vI a2]) (o := 0) (st := []) (f_X12_isPlace G P (A) a2 ⟨by (clear p_im hb gc1_p gc1_f; omega), by (clear p_im hb gc1_p gc1_f; omega)⟩ hB (by have q0 := b0_44 hB; (clear p_im hb gc1_p gc1_f; omega)) (z0) _ (fun rc7 hc7 gc7_p gc7_f => ⟨rc7, rfl, ?_⟩)) cf_X12_isPlace t_1883 rfl (by decide) rfl rfl rfl (Nat.le_of_ble_eq_true rfl) (by decide) rfl dX12_swap_10
    refine g_if_eq (tgt := 21) dX12_swap_13 (by decide) ⟨by (clear p_im hb gc1_p gc1_f gc7_p gc7_f; omega), by (clear p_im hb gc1_p gc1_f gc7_p gc7_f; omega)⟩ (fun k8 => ?_) (fun k8 => ?_)
    · skip
      skip
      skip
      skip
      skip
      refine g_aload_n dX12_swap_21 rfl ?_
      refine g_iconst dX12_swap_22 ?_
      refine g_vI (av := [vI 3]) (o := 0) (st := []) (m_X12_refuses G P 3 (by decide) hB  _ (fun rc9 hc9 Pc9 hBc9 hFc9 => ⟨rc9, rfl, ?_⟩)) cf_X12_refuses t_1667 rfl (by decide) rfl rfl rfl (Nat.le_of_ble_eq_true rfl) (by decide) rfl dX12_swap_23
      refine g_if_lt (tgt := 33) dX12_swap_26 (by decide) ⟨by (clear p_im hb gc1_p gc1_f gc7_p gc7_f k8; omega), by (clear p_im hb gc1_p gc1_f gc7_p gc7_f k8; omega)⟩ (fun k10 => ?_) (fun k10 => by exfalso; (clear p_im hb gc1_p gc1_f gc7_p gc7_f k8; omega))
      skip
      skip
      skip
      skip
      skip
      refine g_iconst dX12_swap_33 ?_
      exact g_retZ dX12_swap_34 rfl (by decide) (hQ 0 (by decide) _ hBc9 (FrM.c FrM.rf hFc9 rfl) (by (clear gc1_f gc1_p hb p_im; omega)) (by rw [aSwap_n (by (clear gc1_f gc1_p hb p_im; omega))]; exact (AM.fr (F := ([], [28])) z0 (FrM.c FrM.rf hFc9 rfl) rfl)))
    · have k8n : 1 ≤ rc7 := by (clear p_im hb gc1_p gc1_f gc7_p gc7_f; omega)
      clear k8
      have r_gc7_f := (gc7_f.resolve_right (by (clear p_im hb gc1_p gc1_f gc7_p gc7_f; omega)))
      have r_gc7_p := (gc7_p.resolve_left (by (clear p_im hb gc1_p gc1_f gc7_p gc7_f; omega)))
      skip
      skip
      skip
      refine g_iload_n dX12_swap_16 rfl ?_
      refine g_iload_n dX12_swap_17 rfl ?_
      refine g_icmp_ne (tgt := 35) dX12_swap_18 (by decide) ⟨by (clear p_im hb gc1_p gc1_f gc7_p gc7_f; omega), by (clear p_im hb gc1_p gc1_f gc7_p gc7_f; omega)⟩ ⟨by (clear p_im hb gc1_p gc1_f gc7_p gc7_f; omega), by (clear p_im hb gc1_p gc1_f gc7_p gc7_f; omega)⟩ (fun k11 => ?_) (fun k11 => ?_)
      · skip
        skip
        skip
        skip
        skip
        refine g_aload_n dX12_swap_35 rfl ?_
        refine g_vV (av := []) (o := 0) (st := []) (f_X12_keeps G P (A) (k)  hB (by (clear p_im hb gc1_p gc1_f gc7_p gc7_f k11; omega)) (z0) _ (fun Pc12 hBc12 hFc12 gc12_o ec12_0 => ⟨rfl, ?_⟩)) cf_X12_keeps t_2132 rfl (by decide) rfl rfl rfl (Nat.le_of_ble_eq_true rfl) (by decide) rfl dX12_swap_36
        refine g_aload_n dX12_swap_39 rfl ?_
        refine g_iconst dX12_swap_40 ?_
        refine g_iload_n dX12_swap_41 rfl ?_
        refine g_iload_n dX12_swap_42 rfl ?_
        have hpu := ec12_0
        have hbk := hBc12
        refine g_vV (av := [vI 0, vI a1, vI a2]) (o := 0) (st := []) (f_X12_exchanges G Pc12 0 a1 a2 (by decide) ⟨by (clear p_im hb gc1_p gc1_f gc7_p gc7_f k11; omega), by (clear p_im hb gc1_p gc1_f gc7_p gc7_f k11; omega)⟩ ⟨by (clear p_im hb gc1_p gc1_f gc7_p gc7_f k11; omega), by (clear p_im hb gc1_p gc1_f gc7_p gc7_f k11; omega)⟩ hBc12  _ (fun Pc13 hBc13 hFc13 gc13_x1 gc13_x2 gc13_xo => ⟨rfl, ?_⟩)) cf_X12_exchanges t_2103 rfl (by decide) rfl rfl rfl (Nat.le_of_ble_eq_true rfl) (by decide) rfl dX12_swap_43
        have hsw9 := AM.sw hpu p_wa (b0_59 hbk) ⟨⟨by (clear p_im hb gc1_p gc1_f gc7_p gc7_f k11; omega), by (clear p_im hb gc1_p gc1_f gc7_p gc7_f k11; omega)⟩, ⟨by (clear p_im hb gc1_p gc1_f gc7_p gc7_f k11; omega), by (clear p_im hb gc1_p gc1_f gc7_p gc7_f k11; omega)⟩, by (clear p_im hb gc1_p gc1_f gc7_p gc7_f; omega)⟩ gc13_x1 gc13_x2 gc13_xo hFc13
        refine g_iconst dX12_swap_46 ?_
        exact g_retZ dX12_swap_47 rfl (by decide) (hQ 1 (by decide) _ hBc13 (FrM.c (FrM.c FrM.rf hFc12 rfl) hFc13 rfl) (by (clear p_im hb gc1_p gc1_f gc7_p gc7_f; omega)) (hsw9))
      · skip
        skip
        skip
        skip
        skip
        refine g_aload_n dX12_swap_21 rfl ?_
        refine g_iconst dX12_swap_22 ?_
        refine g_vI (av := [vI 3]) (o := 0) (st := []) (m_X12_refuses G P 3 (by decide) hB  _ (fun rc14 hc14 Pc14 hBc14 hFc14 => ⟨rc14, rfl, ?_⟩)) cf_X12_refuses t_1667 rfl (by decide) rfl rfl rfl (Nat.le_of_ble_eq_true rfl) (by decide) rfl dX12_swap_23
        refine g_if_lt (tgt := 33) dX12_swap_26 (by decide) ⟨by (clear p_im hb gc1_p gc1_f gc7_p gc7_f k11; omega), by (clear p_im hb gc1_p gc1_f gc7_p gc7_f k11; omega)⟩ (fun k15 => ?_) (fun k15 => by exfalso; (clear p_im hb gc1_p gc1_f gc7_p gc7_f k11; omega))
        skip
        skip
        skip
        skip
        skip
        refine g_iconst dX12_swap_33 ?_
        exact g_retZ dX12_swap_34 rfl (by decide) (hQ 0 (by decide) _ hBc14 (FrM.c FrM.rf hFc14 rfl) (by (clear p_im hb gc1_p gc1_f gc7_p gc7_f k15; omega)) (by rw [aSwap_n (by (clear p_im hb gc1_p gc1_f gc7_p gc7_f k15; omega))]; exact (AM.fr (F := ([], [28])) z0 (FrM.c FrM.rf hFc14 rfl) rfl)))
/-! What the reference answers: X12_turn. -/
set_option maxRecDepth 100000 in
set_option maxHeartbeats 4000000 in
theorem f_X12_turn (G : GT) (P : PH) (A : PH) (k : Int) (M : PH) (a1 : Int) (h_a1 : (-2147483648) ≤ a1 ∧ a1 ≤ 2147483647) (hB : BdM P) (p_wa : WA k A) (z0 : AM A P) (z1 : MH M P) (Q : Option PV → PH → Prop) (hQ : ∀ (r : Int) (_ : (-2147483648) ≤ r ∧ r ≤ 2147483647) (P1 : PH) (_ : BdM P1) (_ : FrM ([59, 60], [28, 35, 36, 37, 38, 39, 40]) P P1) (_ : (r = -1 ∧ (M 0 0 ≤ 0 ∨ a1 < 0 ∨ 7 < a1)) ∨ (r = iand (ishr (ixor (A 0 1) (ishl 1 a1)) a1) 1 ∧ 0 < M 0 0 ∧ 0 ≤ a1 ∧ a1 ≤ 7)) (_ : AM (aTurn A M a1) P1), Q (some (vI r)) P1) : Ct WSM G 3 iX12_turn [vR 0, vI a1] P Q := by
  refine Ct.of (by decide) (l0 := [(0, vR 0), (1, vI a1)]) rfl (Nat.le_of_ble_eq_true rfl) ?_
  have hb := z0.b
  have q59 := b0_59 hB
  have hw1 := p_wa.1
  have hmh := z1
  unfold MH at hmh
  refine g_aload_n dX12_turn_0 rfl ?_
  refine m_g44 (z := (P 0 44)) rfl dX12_turn_1 rfl ?_
  have f1 := b0_44 hB
  refine g_if_eq (tgt := 17) dX12_turn_4 (by decide) ⟨by have q0 := b0_44 hB; (clear hb hmh; omega), by have q0 := b0_44 hB; (clear hb hmh; omega)⟩ (fun k2 => ?_) (fun k2 => ?_)
  · refine g_aload_n dX12_turn_17 rfl ?_
    refine g_iconst dX12_turn_18 ?_
    refine g_vI (av := [vI 3]) (o := 0) (st := []) (m_X12_refuses G P 3 (by decide) hB  _ (fun rc3 hc3 Pc3 hBc3 hFc3 => ⟨rc3, rfl, ?_⟩)) cf_X12_refuses t_1667 rfl (by decide) rfl rfl rfl (Nat.le_of_ble_eq_true rfl) (by decide) rfl dX12_turn_19
    exact g_retI dX12_turn_22 rfl (hQ rc3 ⟨by (clear hb hmh k2; omega), by (clear hb hmh k2; omega)⟩ _ hBc3 (FrM.c FrM.rf hFc3 rfl) (by (clear hb; omega)) (by rw [aTurn_n (by (clear hb; omega))]; exact (AM.fr (F := ([], [28])) z0 (FrM.c FrM.rf hFc3 rfl) rfl)))
  · have k2n : 1 ≤ (P 0 44) := by have q0 := b0_44 hB; (clear hb hmh; omega)
    clear k2
    refine g_iload_n dX12_turn_7 rfl ?_
    refine g_iconst dX12_turn_8 ?_
    refine g_bipush dX12_turn_9 (by decide) ?_
    refine g_sI (av := [vI a1, vI 0, vI 7]) (st := []) (m_X12_is G P a1 0 7 ⟨by (clear hb hmh; omega), by (clear hb hmh; omega)⟩ (by decide) (by decide) hB  _ (fun rc4 hc4 gc4_is => ⟨rc4, rfl, ?_⟩)) cf_X12_is t_1800 rfl (Nat.le_of_ble_eq_true rfl) (by decide) rfl dX12_turn_11
    refine g_if_ne (tgt := 23) dX12_turn_14 (by decide) ⟨by (clear hb hmh gc4_is; omega), by (clear hb hmh gc4_is; omega)⟩ (fun k5 => ?_) (fun k5 => ?_)
    · have k5n : 1 ≤ rc4 := by (clear hb hmh gc4_is; omega)
      clear k5
      have r_gc4_is := (gc4_is.resolve_right (by (clear hb hmh gc4_is; omega)))
      refine g_aload_n dX12_turn_23 rfl ?_
      refine g_vV (av := []) (o := 0) (st := []) (f_X12_keeps G P (A) (k)  hB (by (clear hb hmh gc4_is; omega)) (z0) _ (fun Pc6 hBc6 hFc6 gc6_o ec6_0 => ⟨rfl, ?_⟩)) cf_X12_keeps t_2132 rfl (by decide) rfl rfl rfl (Nat.le_of_ble_eq_true rfl) (by decide) rfl dX12_turn_24
      have hpu := ec6_0
      have hbk := hBc6
      have hvk := hpu.b.2.1.trans (aPush_0 A 1 (by decide))
      refine g_aload_n dX12_turn_27 rfl ?_
      refine m_g55 rfl dX12_turn_28 ?_
      refine g_iconst dX12_turn_31 ?_
      refine g_dup2 dX12_turn_32 rfl rfl ?_
      refine m_l37 (z := (Pc6 37 0)) dX12_turn_33 (by decide) rfl ?_
      refine g_iconst dX12_turn_34 ?_
      refine g_iload_n dX12_turn_35 rfl ?_
      refine g_ishl dX12_turn_36 ?_
      refine g_nm (fun b7 e_b7 => ?_)
      have h_b7 : 1 ≤ (ishl 1 a1) ∧ (ishl 1 a1) ≤ 128 := (ishl1 7 (by decide) (y := a1) ⟨by (clear hb hmh gc4_is; omega), by (clear hb hmh gc4_is; omega)⟩).2
      rw [← e_b7] at h_b7
      refine g_ixor dX12_turn_37 ?_
      refine g_nm (fun b8 e_b8 => ?_)
      have h_b8 : 0 ≤ (ixor (Pc6 37 0) b7) ∧ (ixor (Pc6 37 0) b7) < 256 := ixor_b 8 (by decide) (x := (Pc6 37 0)) (y := b7) (show 0 ≤ (Pc6 37 0) ∧ (Pc6 37 0) < 256 from ⟨by have q0 := bl_37 (k := 0) hBc6; (clear hb hmh gc4_is; omega), by have q0 := bl_37 (k := 0) hBc6; (clear hb hmh gc4_is; omega)⟩) (show 0 ≤ b7 ∧ b7 < 256 from ⟨by (clear hb hmh gc4_is; omega), by (clear hb hmh gc4_is; omega)⟩)
      rw [← e_b8] at h_b8
      have hc9 : b8 = ixor (A 0 1) (ishl 1 a1) := by rw [e_b8, e_b7, hvk]
      refine m_s37 dX12_turn_38 (by decide) ?_
      have hB9 := ba_37 (z := b8) (k := 0) hBc6 ⟨by (clear hb hmh gc4_is; omega), by (clear hb hmh gc4_is; omega)⟩
      refine g_aload_n dX12_turn_39 rfl ?_
      refine m_g55 rfl dX12_turn_40 ?_
      refine g_iconst dX12_turn_43 ?_
      refine m_l37 (z := b8) dX12_turn_44 (by decide) up_same ?_
      refine g_iload_n dX12_turn_45 rfl ?_
      refine g_ishr dX12_turn_46 ?_
      refine g_nm (fun b10 e_b10 => ?_)
      have h_b10 := ishr_ir b8 a1
      rw [← e_b10] at h_b10
      refine g_iconst dX12_turn_47 ?_
      refine g_iand dX12_turn_48 ?_
      refine g_nm (fun b11 e_b11 => ?_)
      have h_b11 := iand_r (x := b10) (y := 1) ⟨by (clear hb hmh gc4_is; omega), by (clear hb hmh gc4_is; omega)⟩
      rw [← e_b11] at h_b11
      have hr9 : b11 = iand (ishr (ixor (A 0 1) (ishl 1 a1)) a1) 1 := by rw [e_b11, e_b10, hc9]
      exact g_retI dX12_turn_49 rfl (hQ b11 ⟨by (clear hb hmh gc4_is; omega), by (clear hb hmh gc4_is; omega)⟩ _ hB9 (FrM.a (FrM.c FrM.rf hFc6 rfl) rfl rfl) (by (clear hb gc4_is; omega)) (by rw [aTurn_y ⟨by (clear hb gc4_is; omega), by (clear hb hmh gc4_is; omega), by (clear hb hmh gc4_is; omega)⟩]; exact AM.on hpu p_wa (b0_59 hbk) (Eq.trans up_same hc9) (fun j hj => up_k hj) (FrM.a FrM.rf rfl rfl)))
    · skip
      refine g_aload_n dX12_turn_17 rfl ?_
      refine g_iconst dX12_turn_18 ?_
      refine g_vI (av := [vI 3]) (o := 0) (st := []) (m_X12_refuses G P 3 (by decide) hB  _ (fun rc12 hc12 Pc12 hBc12 hFc12 => ⟨rc12, rfl, ?_⟩)) cf_X12_refuses t_1667 rfl (by decide) rfl rfl rfl (Nat.le_of_ble_eq_true rfl) (by decide) rfl dX12_turn_19
      exact g_retI dX12_turn_22 rfl (hQ rc12 ⟨by (clear hb hmh gc4_is k5; omega), by (clear hb hmh gc4_is k5; omega)⟩ _ hBc12 (FrM.c FrM.rf hFc12 rfl) (by (clear hb hmh; omega)) (by rw [aTurn_n (by (clear hb hmh; omega))]; exact (AM.fr (F := ([], [28])) z0 (FrM.c FrM.rf hFc12 rfl) rfl)))
end
