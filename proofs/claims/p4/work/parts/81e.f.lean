/-! What the class answers: X6_fail. -/
set_option maxRecDepth 100000 in
set_option maxHeartbeats 4000000 in
theorem f_X6_fail (G : GT) (P : PH) (a1 : Int) (a2 : Int) (h_a1 : (-2147483648) ≤ a1 ∧ a1 ≤ 2147483647) (h_a2 : (-2147483648) ≤ a2 ∧ a2 ≤ 2147483647) (hB : BdX P) (Q : Option PV → PH → Prop) (hQ : ∀ (r : Int) (_ : 0 ≤ r ∧ r ≤ 1) (P1 : PH) (_ : BdX P1) (_ : FrX ([(45, 3), (45, 4)], []) P P1) (_ : P1 110 3 = a1 ∧ P1 110 4 = a2 ∧ r = 0), Q (some (vI r)) P1) : Ct WSX G 1 iX6_fail [vR 110, vI a1, vI a2] P Q := by
  refine Ct.of (by decide) (l0 := [(0, vR 110), (1, vI a1), (2, vI a2)]) rfl (Nat.le_of_ble_eq_true rfl) ?_
  refine g_aload_n dX6_fail_0 rfl ?_
  refine g_iload_n dX6_fail_1 rfl ?_
  refine x_p45_3 (⟨by decide, rfl⟩ : kx 110 45) pfX6_82 dX6_fail_2 ?_
  have hB1 := by_45_3 (z := a1) hB (⟨by decide, rfl⟩ : kx 110 45) ⟨by omega, by omega⟩
  refine g_aload_n dX6_fail_5 rfl ?_
  refine g_iload_n dX6_fail_6 rfl ?_
  refine x_p45_4 (⟨by decide, rfl⟩ : kx 110 45) pfX6_23 dX6_fail_7 ?_
  have hB2 := by_45_4 (z := a2) hB1 (⟨by decide, rfl⟩ : kx 110 45) ⟨by omega, by omega⟩
  refine g_iconst dX6_fail_10 ?_
  exact g_retZ dX6_fail_11 rfl (by decide) (hQ 0 (by decide) _ hB2 (FrX.s (FrX.s FrX.rf (⟨by decide, rfl⟩ : kx 110 45) rfl) (⟨by decide, rfl⟩ : kx 110 45) rfl) (by have q0 := (((up_k (by decide)).trans up_same) : (up (up P 110 3 a1) 110 4 a2) 110 3 = a1); have q1 := (up_same : (up (up P 110 3 a1) 110 4 a2) 110 4 = a2); omega))
/-! What the class answers: X6_failHere. -/
set_option maxRecDepth 100000 in
set_option maxHeartbeats 4000000 in
theorem f_X6_failHere (G : GT) (P : PH) (T : TT) (p : Int) (hB : BdX P) (z0 : XS T p P) (Q : Option PV → PH → Prop) (hQ : ∀ (r : Int) (_ : 0 ≤ r ∧ r ≤ 1) (P1 : PH) (_ : BdX P1) (_ : FrX ([(45, 3), (45, 4)], []) P P1) (_ : P1 110 3 = 1 ∧ P1 110 4 = fh T p ∧ r = 0), Q (some (vI r)) P1) : Ct WSX G 1 iX6_failHere [vR 110] P Q := by
  refine Ct.of (by decide) (l0 := [(0, vR 110)]) rfl (Nat.le_of_ble_eq_true rfl) ?_
  have hb := z0.b
  have h6 : tK T p = 4 → P 111 6 = tS T p := z0.bad
  have hfh := fh_s T p
  refine g_aload_n dX6_failHere_0 rfl ?_
  refine g_iconst dX6_failHere_1 ?_
  refine x_p45_3 (⟨by decide, rfl⟩ : kx 110 45) pfX6_82 dX6_failHere_2 ?_
  have hB1 := by_45_3 (z := 1) hB (⟨by decide, rfl⟩ : kx 110 45) (by decide)
  refine g_aload_n dX6_failHere_5 rfl ?_
  refine g_aload_n dX6_failHere_6 rfl ?_
  refine x_g45_0 (n := 111) (⟨by decide, rfl⟩ : kx 110 45) ffX6_12 dX6_failHere_7 rfl ?_
  refine x_g46_4 (z := (P 111 4)) (⟨by decide, rfl⟩ : kx 111 46) ffX6_40 dX6_failHere_10 ((up_o (kx.ne (⟨by decide, rfl⟩ : kx 111 46) (⟨by decide, rfl⟩ : kx 110 45) rfl)).trans rfl) ?_
  refine g_iconst dX6_failHere_13 ?_
  have f2 := bx_46_4 (o := 111) hB (⟨by decide, rfl⟩ : kx 111 46)
  refine g_icmp_ne (tgt := 27) dX6_failHere_14 (by decide) ⟨by have q0 := bx_46_4 (o := 111) hB (⟨by decide, rfl⟩ : kx 111 46); (first | (clear hb h6 hfh; omega) | omega), by have q0 := bx_46_4 (o := 111) hB (⟨by decide, rfl⟩ : kx 111 46); (first | (clear hb h6 hfh; omega) | omega)⟩ (by decide) (fun k3 => ?_) (fun k3 => ?_)
  · first | (revert r_hfh; intro r_hfh) | have r_hfh := (hfh.resolve_right (by (clear hb h6 hfh k3; omega))) | have r_hfh := (hfh.resolve_left (by (clear hb h6 hfh k3; omega))) | skip
    refine g_aload_n dX6_failHere_27 rfl ?_
    refine x_g45_0 (n := 111) (⟨by decide, rfl⟩ : kx 110 45) ffX6_12 dX6_failHere_28 rfl ?_
    refine x_g46_5 (z := (P 111 5)) (⟨by decide, rfl⟩ : kx 111 46) ffX6_72 dX6_failHere_31 ((up_o (kx.ne (⟨by decide, rfl⟩ : kx 111 46) (⟨by decide, rfl⟩ : kx 110 45) rfl)).trans rfl) ?_
    refine x_p45_4 (⟨by decide, rfl⟩ : kx 110 45) pfX6_23 dX6_failHere_34 ?_
    have hB4 := by_45_4 (z := (P 111 5)) hB1 (⟨by decide, rfl⟩ : kx 110 45) ⟨by have q0 := bx_46_5 (o := 111) hB (⟨by decide, rfl⟩ : kx 111 46); (first | (clear hb h6 hfh k3; omega) | omega), by have q0 := bx_46_5 (o := 111) hB (⟨by decide, rfl⟩ : kx 111 46); (first | (clear hb h6 hfh k3; omega) | omega)⟩
    refine g_iconst dX6_failHere_37 ?_
    exact g_retZ dX6_failHere_38 rfl (by decide) (hQ 0 (by decide) _ hB4 (FrX.s (FrX.s FrX.rf (⟨by decide, rfl⟩ : kx 110 45) rfl) (⟨by decide, rfl⟩ : kx 110 45) rfl) (by have q0 := (((up_k (by decide)).trans up_same) : (up (up P 110 3 1) 110 4 (P 111 5)) 110 3 = 1); have q1 := (up_same : (up (up P 110 3 1) 110 4 (P 111 5)) 110 4 = (P 111 5)); have q2 := bx_46_5 (o := 111) hB (⟨by decide, rfl⟩ : kx 111 46); (first | (clear hb h6 hfh k3; omega) | (clear hb h6 hfh; omega) | (clear hb h6 k3; omega) | (clear hb hfh k3; omega) | (clear h6 hfh k3; omega) | (clear hb h6; omega) | omega)))
  · first | (revert r_hfh; intro r_hfh) | have r_hfh := (hfh.resolve_right (by (clear hb h6 hfh k3; omega))) | have r_hfh := (hfh.resolve_left (by (clear hb h6 hfh k3; omega))) | skip
    refine g_aload_n dX6_failHere_17 rfl ?_
    refine x_g45_0 (n := 111) (⟨by decide, rfl⟩ : kx 110 45) ffX6_12 dX6_failHere_18 rfl ?_
    refine x_g46_6 (z := (P 111 6)) (⟨by decide, rfl⟩ : kx 111 46) ffX6_86 dX6_failHere_21 ((up_o (kx.ne (⟨by decide, rfl⟩ : kx 111 46) (⟨by decide, rfl⟩ : kx 110 45) rfl)).trans rfl) ?_
    refine g_goto (tgt := 34) dX6_failHere_24 (by decide) ?_
    refine x_p45_4 (⟨by decide, rfl⟩ : kx 110 45) pfX6_23 dX6_failHere_34 ?_
    have hB5 := by_45_4 (z := (P 111 6)) hB1 (⟨by decide, rfl⟩ : kx 110 45) ⟨by have q0 := bx_46_6 (o := 111) hB (⟨by decide, rfl⟩ : kx 111 46); (first | (clear hb h6 hfh k3; omega) | omega), by have q0 := bx_46_6 (o := 111) hB (⟨by decide, rfl⟩ : kx 111 46); (first | (clear hb h6 hfh k3; omega) | omega)⟩
    refine g_iconst dX6_failHere_37 ?_
    exact g_retZ dX6_failHere_38 rfl (by decide) (hQ 0 (by decide) _ hB5 (FrX.s (FrX.s FrX.rf (⟨by decide, rfl⟩ : kx 110 45) rfl) (⟨by decide, rfl⟩ : kx 110 45) rfl) (by have q0 := (((up_k (by decide)).trans up_same) : (up (up P 110 3 1) 110 4 (P 111 6)) 110 3 = 1); have q1 := (up_same : (up (up P 110 3 1) 110 4 (P 111 6)) 110 4 = (P 111 6)); have q2 := bx_46_6 (o := 111) hB (⟨by decide, rfl⟩ : kx 111 46); (first | (clear hb h6 hfh k3; omega) | (clear hb h6 hfh; omega) | (clear hb h6 k3; omega) | (clear hb hfh k3; omega) | (clear h6 hfh k3; omega) | (clear hb h6; omega) | omega)))
/-! What the class answers: X6_begin_B16. -/
set_option maxRecDepth 100000 in
set_option maxHeartbeats 4000000 in
theorem f_X6_begin_B16 (G : GT) (P : PH) (T : TT) (hB : BdX P) (p_tx : P 1 1 = T.2 ∧ ∀ i : Int, 0 ≤ i → i < T.2 → P 2 i = T.1 i) (v_OWN : OWN P) (Q : Option PV → PH → Prop) (hQ : ∀ (P1 : PH) (_ : BdX P1) (_ : FrX ([(45, 3), (45, 4), (46, 1), (46, 2), (46, 3), (46, 4), (46, 5), (46, 6), (46, 7), (46, 8)], []) P P1) (_ : P1 110 3 = 0 ∧ P1 110 4 = -1) (_ : TX P1) (_ : XT T P1) (_ : XS T 0 P1), Q none P1) : Ct WSX G 4 iX6_begin [vR 110, vR 1] P Q := by
  refine Ct.of (by decide) (l0 := [(0, vR 110), (1, vR 1)]) rfl (Nat.le_of_ble_eq_true rfl) ?_
  refine g_aload_n dX6_begin_0 rfl ?_
  refine g_iconst dX6_begin_1 ?_
  refine x_p45_3 (⟨by decide, rfl⟩ : kx 110 45) pfX6_82 dX6_begin_2 ?_
  have hB1 := by_45_3 (z := 0) hB (⟨by decide, rfl⟩ : kx 110 45) (by decide)
  refine g_aload_n dX6_begin_5 rfl ?_
  refine g_iconst dX6_begin_6 ?_
  refine x_p45_4 (⟨by decide, rfl⟩ : kx 110 45) pfX6_23 dX6_begin_7 ?_
  have hB2 := by_45_4 (z := (-1)) hB1 (⟨by decide, rfl⟩ : kx 110 45) (by decide)
  refine g_aload_n dX6_begin_10 rfl ?_
  refine x_g45_0 (n := 111) (⟨by decide, rfl⟩ : kx 110 45) ffX6_12 dX6_begin_11 rfl ?_
  refine g_aload_n dX6_begin_14 rfl ?_
  refine g_vV (av := [vR 1]) (o := 111) (st := []) (f_X7_begin_B16 G (up (up P 110 3 0) 110 4 (-1)) T  hB2 (⟨by have q := (((up_o (kx.ne (⟨by decide, rfl⟩ : kx 1 1) (⟨by decide, rfl⟩ : kx 110 45) rfl)).trans ((up_o (kx.ne (⟨by decide, rfl⟩ : kx 1 1) (⟨by decide, rfl⟩ : kx 110 45) rfl)).trans rfl)) : (up (up P 110 3 0) 110 4 (-1)) 1 1 = (P 1 1)); have q1 := p_tx.1; (first | (clear p_tx; omega) | omega), fun i h0 h1 => (((up_o (kx.ne (⟨by decide, rfl⟩ : kx 2 2) (⟨by decide, rfl⟩ : kx 110 45) rfl)).trans ((up_o (kx.ne (⟨by decide, rfl⟩ : kx 2 2) (⟨by decide, rfl⟩ : kx 110 45) rfl)).trans rfl))).trans (p_tx.2 i h0 h1)⟩) (OWN.fr (F := ([(45, 3), (45, 4)], [])) v_OWN (FrX.s (FrX.s FrX.rf (⟨by decide, rfl⟩ : kx 110 45) rfl) (⟨by decide, rfl⟩ : kx 110 45) rfl) rfl) _ (fun Pc3 hBc3 hFc3 vc3_TX ec3_0 ec3_1 => ⟨rfl, ?_⟩)) cf_X7_begin t_699 rfl (show kx 111 46 from (⟨by decide, rfl⟩ : kx 111 46)).1 ((show kx 111 46 from (⟨by decide, rfl⟩ : kx 111 46)).sh rfl) rfl rfl (Nat.le_of_ble_eq_true rfl) (by decide) rfl dX6_begin_15
  exact g_retV dX6_begin_18 rfl (hQ _ hBc3 (FrX.c (FrX.s (FrX.s FrX.rf (⟨by decide, rfl⟩ : kx 110 45) rfl) (⟨by decide, rfl⟩ : kx 110 45) rfl) hFc3 rfl) (by have q0 := (((FrX.g hFc3 (⟨by decide, rfl⟩ : kx 110 45) rfl).trans ((up_k (by decide)).trans up_same)) : Pc3 110 3 = 0); have q1 := (((FrX.g hFc3 (⟨by decide, rfl⟩ : kx 110 45) rfl).trans up_same) : Pc3 110 4 = (-1)); (first | (clear p_tx; omega) | omega)) vc3_TX (ec3_0) (ec3_1))
/-! What the class answers: X6_readSign. -/
set_option maxRecDepth 100000 in
set_option maxHeartbeats 4000000 in
theorem f_X6_readSign (G : GT) (P : PH) (T : TT) (p : Int) (a1 : Int) (h_a1 : (-2147483648) ≤ a1 ∧ a1 ≤ 2147483647) (hB : BdX P) (v_TX : TX P) (v_OWN : OWN P) (z0 : XT T P) (z1 : XS T p P) (Q : Option PV → PH → Prop) (hQ : ∀ (r : Int) (_ : 0 ≤ r ∧ r ≤ 1) (P1 : PH) (_ : BdX P1) (_ : FrX ([(45, 3), (45, 4), (46, 3), (46, 4), (46, 5), (46, 6), (46, 7), (46, 8)], []) P P1) (_ : (r = 1 ∧ (sgn T a1 p).1 = 0 ∧ P1 110 3 = P 110 3 ∧ P1 110 4 = P 110 4) ∨ (r = 0 ∧ (sgn T a1 p).1 ≠ 0 ∧ P1 110 3 = (sgn T a1 p).1 ∧ P1 110 4 = (sgn T a1 p).2)) (_ : CP (sgn T a1 p).1 (XS T (sgn T a1 p).2) P1), Q (some (vI r)) P1) : Ct WSX G 3 iX6_readSign [vR 110, vI a1] P Q := by
  refine Ct.of (by decide) (l0 := [(0, vR 110), (1, vI a1)]) rfl (Nat.le_of_ble_eq_true rfl) ?_
  have hsg := sgn_s T a1 p
  refine g_aload_n dX6_readSign_0 rfl ?_
  refine x_g45_0 (n := 111) (⟨by decide, rfl⟩ : kx 110 45) ffX6_12 dX6_readSign_1 rfl ?_
  refine g_iload_n dX6_readSign_4 rfl ?_
  refine g_vI (av := [vI a1]) (o := 111) (st := []) (f_X7_isSign G P T p a1 ⟨by (first | (clear hsg; omega) | omega), by (first | (clear hsg; omega) | omega)⟩ hB (z1) _ (fun rc1 hc1 gc1_f => ⟨rc1, rfl, ?_⟩)) cf_X7_isSign t_801 rfl (show kx 111 46 from (⟨by decide, rfl⟩ : kx 111 46)).1 ((show kx 111 46 from (⟨by decide, rfl⟩ : kx 111 46)).sh rfl) rfl rfl (Nat.le_of_ble_eq_true rfl) (by decide) rfl dX6_readSign_5
  refine g_if_ne (tgt := 16) dX6_readSign_8 (by decide) ⟨by (first | (clear hsg gc1_f; omega) | omega), by (first | (clear hsg gc1_f; omega) | omega)⟩ (fun k2 => ?_) (fun k2 => ?_)
  · have k2n : 1 ≤ rc1 := by (first | (clear hsg gc1_f k2; omega) | (clear hsg gc1_f; omega) | (clear hsg k2; omega) | (clear gc1_f k2; omega) | (clear hsg; omega) | omega)
    clear k2
    first | (revert r_gc1_f; intro r_gc1_f) | have r_gc1_f := (gc1_f.resolve_right (by (clear hsg gc1_f; omega))) | have r_gc1_f := (gc1_f.resolve_left (by (clear hsg gc1_f; omega))) | skip
    first | (revert r_hsg; intro r_hsg) | have r_hsg := (hsg.resolve_right (by (clear hsg gc1_f; omega))) | have r_hsg := (hsg.resolve_left (by (clear hsg gc1_f; omega))) | skip
    refine g_aload_n dX6_readSign_16 rfl ?_
    refine x_g45_0 (n := 111) (⟨by decide, rfl⟩ : kx 110 45) ffX6_12 dX6_readSign_17 rfl ?_
    refine g_vV (av := []) (o := 111) (st := []) (f_X7_step G P T (tE T p)  hB ((z1.stp (by (first | (clear hsg gc1_f; omega) | (clear hsg; omega) | (clear gc1_f; omega) | omega))).1) ((z1.stp (by (first | (clear hsg gc1_f; omega) | (clear hsg; omega) | (clear gc1_f; omega) | omega))).2) v_TX v_OWN (z0) _ (fun Pc3 hBc3 hFc3 ec3_0 => ⟨rfl, ?_⟩)) cf_X7_step t_731 rfl (show kx 111 46 from (⟨by decide, rfl⟩ : kx 111 46)).1 ((show kx 111 46 from (⟨by decide, rfl⟩ : kx 111 46)).sh rfl) rfl rfl (Nat.le_of_ble_eq_true rfl) (by decide) rfl dX6_readSign_20
    refine g_iconst dX6_readSign_23 ?_
    exact g_retZ dX6_readSign_24 rfl (by decide) (hQ 1 (by decide) _ hBc3 (FrX.c FrX.rf hFc3 rfl) (by have q0 := (((FrX.g hFc3 (⟨by decide, rfl⟩ : kx 110 45) rfl).trans rfl) : Pc3 110 3 = (P 110 3)); have q1 := bx_45_3 (o := 110) hB (⟨by decide, rfl⟩ : kx 110 45); have q2 := (((FrX.g hFc3 (⟨by decide, rfl⟩ : kx 110 45) rfl).trans rfl) : Pc3 110 4 = (P 110 4)); have q3 := bx_45_4 (o := 110) hB (⟨by decide, rfl⟩ : kx 110 45); (first | (clear hsg gc1_f; omega) | (clear hsg; omega) | (clear gc1_f; omega) | omega)) ((fun h0 => by first | exact (by first | (rw [show (sgn T a1 p).2 = (tE T p) by (first | (clear hsg gc1_f; omega) | (clear hsg; omega) | (clear gc1_f; omega) | omega)]; exact ec3_0)) | (exfalso; (first | (clear hsg gc1_f; omega) | (clear hsg; omega) | (clear gc1_f; omega) | omega)))))
  · first | (revert r_gc1_f; intro r_gc1_f) | have r_gc1_f := (gc1_f.resolve_right (by (clear hsg gc1_f k2; omega))) | have r_gc1_f := (gc1_f.resolve_left (by (clear hsg gc1_f k2; omega))) | skip
    first | (revert r_hsg; intro r_hsg) | have r_hsg := (hsg.resolve_right (by (clear hsg gc1_f k2; omega))) | have r_hsg := (hsg.resolve_left (by (clear hsg gc1_f k2; omega))) | skip
    refine g_aload_n dX6_readSign_11 rfl ?_
    refine g_vI (av := []) (o := 110) (st := []) (f_X6_failHere G P T p  hB (z1) _ (fun rc4 hc4 Pc4 hBc4 hFc4 gc4_f => ⟨rc4, rfl, ?_⟩)) cf_X6_failHere t_723 rfl (show kx 110 45 from (⟨by decide, rfl⟩ : kx 110 45)).1 ((show kx 110 45 from (⟨by decide, rfl⟩ : kx 110 45)).sh rfl) rfl rfl (Nat.le_of_ble_eq_true rfl) (by decide) rfl dX6_readSign_12
    exact g_retZ dX6_readSign_15 rfl (by (first | (clear hsg gc1_f k2; omega) | (clear hsg gc1_f; omega) | (clear hsg k2; omega) | (clear gc1_f k2; omega) | (clear hsg; omega) | omega)) (hQ rc4 ⟨by (first | (clear hsg gc1_f k2; omega) | omega), by (first | (clear hsg gc1_f k2; omega) | omega)⟩ _ hBc4 (FrX.c FrX.rf hFc4 rfl) (by have q0 := bx_45_3 (o := 110) hBc4 (⟨by decide, rfl⟩ : kx 110 45); have q1 := bx_45_4 (o := 110) hBc4 (⟨by decide, rfl⟩ : kx 110 45); (first | (clear hsg gc1_f k2; omega) | (clear hsg gc1_f; omega) | (clear hsg k2; omega) | (clear gc1_f k2; omega) | (clear hsg; omega) | omega)) ((fun h0 => by first | exact (by first | (rw [show (sgn T a1 p).2 = p by (first | (clear hsg gc1_f k2; omega) | (clear hsg gc1_f; omega) | (clear hsg k2; omega) | (clear gc1_f k2; omega) | (clear hsg; omega) | omega)]; exact (XS.fr (F := ([(45, 3), (45, 4)], [])) z1 (FrX.c FrX.rf hFc4 rfl) rfl))) | (exfalso; (first | (clear hsg gc1_f k2; omega) | (clear hsg gc1_f; omega) | (clear hsg k2; omega) | (clear gc1_f k2; omega) | (clear hsg; omega) | omega)))))
/-! What the class answers: X6_readNumber. -/
set_option maxRecDepth 100000 in
set_option maxHeartbeats 4000000 in
theorem f_X6_readNumber (G : GT) (P : PH) (T : TT) (p : Int) (a1 : Int) (a2 : Int) (h_a1 : (-2147483648) ≤ a1 ∧ a1 ≤ 2147483647) (h_a2 : (-2147483648) ≤ a2 ∧ a2 ≤ 2147483647) (hB : BdX P) (p_lo : 0 ≤ a1) (v_TX : TX P) (v_OWN : OWN P) (z0 : XT T P) (z1 : XS T p P) (Q : Option PV → PH → Prop) (hQ : ∀ (r : Int) (_ : (-2147483648) ≤ r ∧ r ≤ 2147483647) (P1 : PH) (_ : BdX P1) (_ : FrX ([(45, 3), (45, 4), (46, 3), (46, 4), (46, 5), (46, 6), (46, 7), (46, 8)], []) P P1) (_ : (r = tV T p ∧ a1 ≤ r ∧ r ≤ a2 ∧ (num T a1 a2 p).1 = 0 ∧ P1 110 3 = P 110 3 ∧ P1 110 4 = P 110 4) ∨ (r = -1 ∧ (num T a1 a2 p).1 ≠ 0 ∧ P1 110 3 = (num T a1 a2 p).1 ∧ P1 110 4 = (num T a1 a2 p).2)) (_ : CP (num T a1 a2 p).1 (XS T (num T a1 a2 p).2) P1), Q (some (vI r)) P1) : Ct WSX G 3 iX6_readNumber [vR 110, vI a1, vI a2] P Q := by
  refine Ct.of (by decide) (l0 := [(0, vR 110), (1, vI a1), (2, vI a2)]) rfl (Nat.le_of_ble_eq_true rfl) ?_
  have hsg := num_s T a1 a2 p
  have hb := z1.b
  have hv : tK T p = 2 → P 111 7 = tV T p := fun h => (z1.tok (by (first | (clear hsg hb; omega) | (clear hsg; omega) | (clear hb; omega) | omega))).2
  refine g_aload_n dX6_readNumber_0 rfl ?_
  refine x_g45_0 (n := 111) (⟨by decide, rfl⟩ : kx 110 45) ffX6_12 dX6_readNumber_1 rfl ?_
  refine x_g46_4 (z := (P 111 4)) (⟨by decide, rfl⟩ : kx 111 46) ffX6_40 dX6_readNumber_4 rfl ?_
  refine g_iconst dX6_readNumber_7 ?_
  have f1 := bx_46_4 (o := 111) hB (⟨by decide, rfl⟩ : kx 111 46)
  refine g_icmp_eq (tgt := 18) dX6_readNumber_8 (by decide) ⟨by have q0 := bx_46_4 (o := 111) hB (⟨by decide, rfl⟩ : kx 111 46); (first | (clear hsg hb hv; omega) | omega), by have q0 := bx_46_4 (o := 111) hB (⟨by decide, rfl⟩ : kx 111 46); (first | (clear hsg hb hv; omega) | omega)⟩ (by decide) (fun k2 => ?_) (fun k2 => ?_)
  · first | (revert r_hsg; intro r_hsg) | have r_hsg := (hsg.resolve_right (by (clear hsg hb hv k2; omega))) | have r_hsg := ((hsg.resolve_left (by (clear hsg hb hv k2; omega))).resolve_right (by (clear hsg hb hv k2; omega))) | have r_hsg := ((hsg.resolve_left (by (clear hsg hb hv k2; omega))).resolve_left (by (clear hsg hb hv k2; omega))) | skip
    refine g_aload_n dX6_readNumber_18 rfl ?_
    refine x_g45_0 (n := 111) (⟨by decide, rfl⟩ : kx 110 45) ffX6_12 dX6_readNumber_19 rfl ?_
    refine x_g46_7 (z := (P 111 7)) (⟨by decide, rfl⟩ : kx 111 46) ffX6_95 dX6_readNumber_22 rfl ?_
    refine g_istore_n (l1 := [(3, vI (P 111 7)), (0, vR 110), (1, vI a1), (2, vI a2)]) dX6_readNumber_25 (by decide) rfl ?_
    refine g_iload_n dX6_readNumber_26 rfl ?_
    refine g_iload_n dX6_readNumber_27 rfl ?_
    have f3 := bx_46_7 (o := 111) hB (⟨by decide, rfl⟩ : kx 111 46)
    refine g_icmp_lt (tgt := 36) dX6_readNumber_28 (by decide) ⟨by have q0 := bx_46_7 (o := 111) hB (⟨by decide, rfl⟩ : kx 111 46); (first | (clear hsg hb hv k2; omega) | omega), by have q0 := bx_46_7 (o := 111) hB (⟨by decide, rfl⟩ : kx 111 46); (first | (clear hsg hb hv k2; omega) | omega)⟩ ⟨by (first | (clear hsg hb hv k2; omega) | omega), by (first | (clear hsg hb hv k2; omega) | omega)⟩ (fun k4 => ?_) (fun k4 => ?_)
    · first | (revert r_hsg; intro r_hsg) | have r_hsg := (hsg.resolve_right (by (clear hsg hb hv k2 k4; omega))) | have r_hsg := ((hsg.resolve_left (by (clear hsg hb hv k2 k4; omega))).resolve_right (by (clear hsg hb hv k2 k4; omega))) | have r_hsg := ((hsg.resolve_left (by (clear hsg hb hv k2 k4; omega))).resolve_left (by (clear hsg hb hv k2 k4; omega))) | skip
      refine g_aload_n dX6_readNumber_36 rfl ?_
      refine g_iconst dX6_readNumber_37 ?_
      refine g_aload_n dX6_readNumber_38 rfl ?_
      refine x_g45_0 (n := 111) (⟨by decide, rfl⟩ : kx 110 45) ffX6_12 dX6_readNumber_39 rfl ?_
      refine x_g46_5 (z := (P 111 5)) (⟨by decide, rfl⟩ : kx 111 46) ffX6_72 dX6_readNumber_42 rfl ?_
      have f5 := bx_46_5 (o := 111) hB (⟨by decide, rfl⟩ : kx 111 46)
      refine g_vI (av := [vI 4, vI (P 111 5)]) (o := 110) (st := []) (f_X6_fail G P 4 (P 111 5) (by decide) ⟨by have q0 := bx_46_5 (o := 111) hB (⟨by decide, rfl⟩ : kx 111 46); (first | (clear hsg hb hv k2 k4; omega) | omega), by have q0 := bx_46_5 (o := 111) hB (⟨by decide, rfl⟩ : kx 111 46); (first | (clear hsg hb hv k2 k4; omega) | omega)⟩ hB  _ (fun rc6 hc6 Pc6 hBc6 hFc6 gc6_f => ⟨rc6, rfl, ?_⟩)) cf_X6_fail t_727 rfl (show kx 110 45 from (⟨by decide, rfl⟩ : kx 110 45)).1 ((show kx 110 45 from (⟨by decide, rfl⟩ : kx 110 45)).sh rfl) rfl rfl (Nat.le_of_ble_eq_true rfl) (by decide) rfl dX6_readNumber_45
      refine g_pop dX6_readNumber_48 rfl ?_
      refine g_iconst dX6_readNumber_49 ?_
      exact g_retI dX6_readNumber_50 rfl (hQ (-1) (by decide) _ hBc6 (FrX.c FrX.rf hFc6 rfl) (by have q0 := bx_45_3 (o := 110) hBc6 (⟨by decide, rfl⟩ : kx 110 45); have q1 := bx_45_4 (o := 110) hBc6 (⟨by decide, rfl⟩ : kx 110 45); (first | (clear hsg hb hv k2 k4; omega) | (clear hsg hb hv k2; omega) | (clear hsg hb hv k4; omega) | (clear hsg hb k2 k4; omega) | (clear hsg hv k2 k4; omega) | (clear hb hv k2 k4; omega) | (clear hsg hb hv; omega) | (clear hsg; omega) | omega)) ((fun h0 => by first | exact (by first | (rw [show (num T a1 a2 p).2 = p by (first | (clear hsg hb hv k2 k4; omega) | (clear hsg hb hv k2; omega) | (clear hsg hb hv k4; omega) | (clear hsg hb k2 k4; omega) | (clear hsg hv k2 k4; omega) | (clear hb hv k2 k4; omega) | (clear hsg hb hv; omega) | (clear hsg; omega) | omega)]; exact (XS.fr (F := ([(45, 3), (45, 4)], [])) z1 (FrX.c FrX.rf hFc6 rfl) rfl))) | (exfalso; (first | (clear hsg hb hv k2 k4; omega) | (clear hsg hb hv k2; omega) | (clear hsg hb hv k4; omega) | (clear hsg hb k2 k4; omega) | (clear hsg hv k2 k4; omega) | (clear hb hv k2 k4; omega) | (clear hsg hb hv; omega) | (clear hsg; omega) | omega)))))
    · first | (revert r_hsg; intro r_hsg) | have r_hsg := (hsg.resolve_right (by (clear hsg hb hv k2 k4; omega))) | have r_hsg := ((hsg.resolve_left (by (clear hsg hb hv k2 k4; omega))).resolve_right (by (clear hsg hb hv k2 k4; omega))) | have r_hsg := ((hsg.resolve_left (by (clear hsg hb hv k2 k4; omega))).resolve_left (by (clear hsg hb hv k2 k4; omega))) | skip
      refine g_iload_n dX6_readNumber_31 rfl ?_
      refine g_iload_n dX6_readNumber_32 rfl ?_
      refine g_icmp_le (tgt := 51) dX6_readNumber_33 (by decide) ⟨by have q0 := bx_46_7 (o := 111) hB (⟨by decide, rfl⟩ : kx 111 46); (first | (clear hsg hb hv k2 k4; omega) | omega), by have q0 := bx_46_7 (o := 111) hB (⟨by decide, rfl⟩ : kx 111 46); (first | (clear hsg hb hv k2 k4; omega) | omega)⟩ ⟨by (first | (clear hsg hb hv k2 k4; omega) | omega), by (first | (clear hsg hb hv k2 k4; omega) | omega)⟩ (fun k7 => ?_) (fun k7 => ?_)
      · first | (revert r_hsg; intro r_hsg) | have r_hsg := (hsg.resolve_right (by (clear hsg hb hv k2 k4; omega))) | have r_hsg := ((hsg.resolve_left (by (clear hsg hb hv k2 k4; omega))).resolve_right (by (clear hsg hb hv k2 k4; omega))) | have r_hsg := ((hsg.resolve_left (by (clear hsg hb hv k2 k4; omega))).resolve_left (by (clear hsg hb hv k2 k4; omega))) | skip
        refine g_aload_n dX6_readNumber_51 rfl ?_
        refine x_g45_0 (n := 111) (⟨by decide, rfl⟩ : kx 110 45) ffX6_12 dX6_readNumber_52 rfl ?_
        refine g_vV (av := []) (o := 111) (st := []) (f_X7_step G P T (tE T p)  hB ((z1.stp (by (first | (clear hsg hb hv k2 k4; omega) | (clear hsg hb hv k2; omega) | (clear hsg hb hv k4; omega) | (clear hsg hb k2 k4; omega) | (clear hsg hv k2 k4; omega) | (clear hb hv k2 k4; omega) | (clear hsg hb hv; omega) | (clear hsg; omega) | omega))).1) ((z1.stp (by (first | (clear hsg hb hv k2 k4; omega) | (clear hsg hb hv k2; omega) | (clear hsg hb hv k4; omega) | (clear hsg hb k2 k4; omega) | (clear hsg hv k2 k4; omega) | (clear hb hv k2 k4; omega) | (clear hsg hb hv; omega) | (clear hsg; omega) | omega))).2) v_TX v_OWN (z0) _ (fun Pc8 hBc8 hFc8 ec8_0 => ⟨rfl, ?_⟩)) cf_X7_step t_731 rfl (show kx 111 46 from (⟨by decide, rfl⟩ : kx 111 46)).1 ((show kx 111 46 from (⟨by decide, rfl⟩ : kx 111 46)).sh rfl) rfl rfl (Nat.le_of_ble_eq_true rfl) (by decide) rfl dX6_readNumber_55
        refine g_iload_n dX6_readNumber_58 rfl ?_
        exact g_retI dX6_readNumber_59 rfl (hQ (P 111 7) ⟨by have q0 := bx_46_7 (o := 111) hB (⟨by decide, rfl⟩ : kx 111 46); (first | (clear hsg hb hv k2 k4; omega) | omega), by have q0 := bx_46_7 (o := 111) hB (⟨by decide, rfl⟩ : kx 111 46); (first | (clear hsg hb hv k2 k4; omega) | omega)⟩ _ hBc8 (FrX.c FrX.rf hFc8 rfl) (by have q0 := bx_46_7 (o := 111) hB (⟨by decide, rfl⟩ : kx 111 46); have q1 := (((FrX.g hFc8 (⟨by decide, rfl⟩ : kx 110 45) rfl).trans rfl) : Pc8 110 3 = (P 110 3)); have q2 := bx_45_3 (o := 110) hB (⟨by decide, rfl⟩ : kx 110 45); have q3 := (((FrX.g hFc8 (⟨by decide, rfl⟩ : kx 110 45) rfl).trans rfl) : Pc8 110 4 = (P 110 4)); have q4 := bx_45_4 (o := 110) hB (⟨by decide, rfl⟩ : kx 110 45); (first | (clear hsg hb hv k2 k4; omega) | (clear hsg hb hv k2; omega) | (clear hsg hb hv k4; omega) | (clear hsg hb k2 k4; omega) | (clear hsg hv k2 k4; omega) | (clear hb hv k2 k4; omega) | (clear hsg hb hv; omega) | (clear hsg; omega) | omega)) ((fun h0 => by first | exact (by first | (rw [show (num T a1 a2 p).2 = (tE T p) by (first | (clear hsg hb hv k2 k4; omega) | (clear hsg hb hv k2; omega) | (clear hsg hb hv k4; omega) | (clear hsg hb k2 k4; omega) | (clear hsg hv k2 k4; omega) | (clear hb hv k2 k4; omega) | (clear hsg hb hv; omega) | (clear hsg; omega) | omega)]; exact ec8_0)) | (exfalso; (first | (clear hsg hb hv k2 k4; omega) | (clear hsg hb hv k2; omega) | (clear hsg hb hv k4; omega) | (clear hsg hb k2 k4; omega) | (clear hsg hv k2 k4; omega) | (clear hb hv k2 k4; omega) | (clear hsg hb hv; omega) | (clear hsg; omega) | omega)))))
      · first | (revert r_hsg; intro r_hsg) | have r_hsg := (hsg.resolve_right (by (clear hsg hb hv k2 k4; omega))) | have r_hsg := ((hsg.resolve_left (by (clear hsg hb hv k2 k4; omega))).resolve_right (by (clear hsg hb hv k2 k4; omega))) | have r_hsg := ((hsg.resolve_left (by (clear hsg hb hv k2 k4; omega))).resolve_left (by (clear hsg hb hv k2 k4; omega))) | skip
        refine g_aload_n dX6_readNumber_36 rfl ?_
        refine g_iconst dX6_readNumber_37 ?_
        refine g_aload_n dX6_readNumber_38 rfl ?_
        refine x_g45_0 (n := 111) (⟨by decide, rfl⟩ : kx 110 45) ffX6_12 dX6_readNumber_39 rfl ?_
        refine x_g46_5 (z := (P 111 5)) (⟨by decide, rfl⟩ : kx 111 46) ffX6_72 dX6_readNumber_42 rfl ?_
        have f9 := bx_46_5 (o := 111) hB (⟨by decide, rfl⟩ : kx 111 46)
        refine g_vI (av := [vI 4, vI (P 111 5)]) (o := 110) (st := []) (f_X6_fail G P 4 (P 111 5) (by decide) ⟨by have q0 := bx_46_5 (o := 111) hB (⟨by decide, rfl⟩ : kx 111 46); (first | (clear hsg hb hv k2 k4; omega) | omega), by have q0 := bx_46_5 (o := 111) hB (⟨by decide, rfl⟩ : kx 111 46); (first | (clear hsg hb hv k2 k4; omega) | omega)⟩ hB  _ (fun rc10 hc10 Pc10 hBc10 hFc10 gc10_f => ⟨rc10, rfl, ?_⟩)) cf_X6_fail t_727 rfl (show kx 110 45 from (⟨by decide, rfl⟩ : kx 110 45)).1 ((show kx 110 45 from (⟨by decide, rfl⟩ : kx 110 45)).sh rfl) rfl rfl (Nat.le_of_ble_eq_true rfl) (by decide) rfl dX6_readNumber_45
        refine g_pop dX6_readNumber_48 rfl ?_
        refine g_iconst dX6_readNumber_49 ?_
        exact g_retI dX6_readNumber_50 rfl (hQ (-1) (by decide) _ hBc10 (FrX.c FrX.rf hFc10 rfl) (by have q0 := bx_45_3 (o := 110) hBc10 (⟨by decide, rfl⟩ : kx 110 45); have q1 := bx_45_4 (o := 110) hBc10 (⟨by decide, rfl⟩ : kx 110 45); (first | (clear hsg hb hv k2 k4; omega) | (clear hsg hb hv k2; omega) | (clear hsg hb hv k4; omega) | (clear hsg hb k2 k4; omega) | (clear hsg hv k2 k4; omega) | (clear hb hv k2 k4; omega) | (clear hsg hb hv; omega) | (clear hsg; omega) | omega)) ((fun h0 => by first | exact (by first | (rw [show (num T a1 a2 p).2 = p by (first | (clear hsg hb hv k2 k4; omega) | (clear hsg hb hv k2; omega) | (clear hsg hb hv k4; omega) | (clear hsg hb k2 k4; omega) | (clear hsg hv k2 k4; omega) | (clear hb hv k2 k4; omega) | (clear hsg hb hv; omega) | (clear hsg; omega) | omega)]; exact (XS.fr (F := ([(45, 3), (45, 4)], [])) z1 (FrX.c FrX.rf hFc10 rfl) rfl))) | (exfalso; (first | (clear hsg hb hv k2 k4; omega) | (clear hsg hb hv k2; omega) | (clear hsg hb hv k4; omega) | (clear hsg hb k2 k4; omega) | (clear hsg hv k2 k4; omega) | (clear hb hv k2 k4; omega) | (clear hsg hb hv; omega) | (clear hsg; omega) | omega)))))
  · first | (revert r_hsg; intro r_hsg) | have r_hsg := (hsg.resolve_right (by (clear hsg hb hv k2; omega))) | have r_hsg := ((hsg.resolve_left (by (clear hsg hb hv k2; omega))).resolve_right (by (clear hsg hb hv k2; omega))) | have r_hsg := ((hsg.resolve_left (by (clear hsg hb hv k2; omega))).resolve_left (by (clear hsg hb hv k2; omega))) | skip
    refine g_aload_n dX6_readNumber_11 rfl ?_
    refine g_vI (av := []) (o := 110) (st := []) (f_X6_failHere G P T p  hB (z1) _ (fun rc11 hc11 Pc11 hBc11 hFc11 gc11_f => ⟨rc11, rfl, ?_⟩)) cf_X6_failHere t_723 rfl (show kx 110 45 from (⟨by decide, rfl⟩ : kx 110 45)).1 ((show kx 110 45 from (⟨by decide, rfl⟩ : kx 110 45)).sh rfl) rfl rfl (Nat.le_of_ble_eq_true rfl) (by decide) rfl dX6_readNumber_12
    refine g_pop dX6_readNumber_15 rfl ?_
    refine g_iconst dX6_readNumber_16 ?_
    exact g_retI dX6_readNumber_17 rfl (hQ (-1) (by decide) _ hBc11 (FrX.c FrX.rf hFc11 rfl) (by have q0 := bx_45_3 (o := 110) hBc11 (⟨by decide, rfl⟩ : kx 110 45); have q1 := bx_45_4 (o := 110) hBc11 (⟨by decide, rfl⟩ : kx 110 45); (first | (clear hsg hb hv k2; omega) | (clear hsg hb hv; omega) | (clear hsg hb k2; omega) | (clear hsg hv k2; omega) | (clear hb hv k2; omega) | (clear hsg hb; omega) | omega)) ((fun h0 => by first | exact (by first | (rw [show (num T a1 a2 p).2 = p by (first | (clear hsg hb hv k2; omega) | (clear hsg hb hv; omega) | (clear hsg hb k2; omega) | (clear hsg hv k2; omega) | (clear hb hv k2; omega) | (clear hsg hb; omega) | omega)]; exact (XS.fr (F := ([(45, 3), (45, 4)], [])) z1 (FrX.c FrX.rf hFc11 rfl) rfl))) | (exfalso; (first | (clear hsg hb hv k2; omega) | (clear hsg hb hv; omega) | (clear hsg hb k2; omega) | (clear hsg hv k2; omega) | (clear hb hv k2; omega) | (clear hsg hb; omega) | omega)))))
/-! What the class answers: X6_readRule. -/
set_option maxRecDepth 100000 in
set_option maxHeartbeats 4000000 in
theorem f_X6_readRule (G : GT) (P : PH) (T : TT) (p : Int) (M : PH) (o : Nat) (k_o : kx o 28) (hB : BdX P) (p_k0 : tO T p = 5) (v_TX : TX P) (v_OWN : OWN P) (z0 : XT T P) (z1 : XS T p P) (z2 : XM M o P) (z3 : RT o P) (Q : Option PV → PH → Prop) (hQ : ∀ (r : Int) (_ : 0 ≤ r ∧ r ≤ 1) (P1 : PH) (_ : BdX P1) (_ : FrX ([(28, 9), (45, 3), (45, 4), (46, 3), (46, 4), (46, 5), (46, 6), (46, 7), (46, 8)], []) P P1) (_ : (r = 1 ∧ (num T 0 3 (tE T p)).1 = 0 ∧ P1 110 3 = P 110 3 ∧ P1 110 4 = P 110 4) ∨ (r = 0 ∧ (num T 0 3 (tE T p)).1 ≠ 0 ∧ P1 110 3 = (num T 0 3 (tE T p)).1 ∧ P1 110 4 = (num T 0 3 (tE T p)).2)) (_ : CP (num T 0 3 (tE T p)).1 (XS T (num T 0 3 (tE T p)).2) P1) (_ : CP (num T 0 3 (tE T p)).1 (XM (up M 0 3 (tV T (tE T p))) o) P1) (_ : KT (tbX o) P P1), Q (some (vI r)) P1) : Ct WSX G 4 iX6_readRule [vR 110] P Q := by
  refine Ct.of (by decide) (l0 := [(0, vR 110)]) rfl (Nat.le_of_ble_eq_true rfl) ?_
  have kt0 : KT (tbX o) P P := KT.rf
  have hor := tO_r T p
  have hk1 : tK T p = 1 := by (first | (clear hor; omega) | omega)
  refine g_aload_n dX6_readRule_0 rfl ?_
  refine x_g45_0 (n := 111) (⟨by decide, rfl⟩ : kx 110 45) ffX6_12 dX6_readRule_1 rfl ?_
  refine g_vV (av := []) (o := 111) (st := []) (f_X7_step G P T (tE T p)  hB ((z1.stp (by (first | (clear hor; omega) | omega))).1) ((z1.stp (by (first | (clear hor; omega) | omega))).2) v_TX v_OWN (z0) _ (fun Pc1 hBc1 hFc1 ec1_0 => ⟨rfl, ?_⟩)) cf_X7_step t_731 rfl (show kx 111 46 from (⟨by decide, rfl⟩ : kx 111 46)).1 ((show kx 111 46 from (⟨by decide, rfl⟩ : kx 111 46)).sh rfl) rfl rfl (Nat.le_of_ble_eq_true rfl) (by decide) rfl dX6_readRule_4
  refine g_aload_n dX6_readRule_7 rfl ?_
  refine x_g45_2 (n := o) (⟨by decide, rfl⟩ : kx 110 45) ffX6_27 dX6_readRule_8 (RT.fr (F := ([(46, 3), (46, 4), (46, 5), (46, 6), (46, 7), (46, 8)], [])) z3 (FrX.c FrX.rf hFc1 rfl) rfl) ?_
  refine g_aload_n dX6_readRule_11 rfl ?_
  refine g_iconst dX6_readRule_12 ?_
  refine g_iconst dX6_readRule_13 ?_
  refine g_vI (av := [vI 0, vI 3]) (o := 110) (st := [vR o]) (f_X6_readNumber G Pc1 T (tE T p) 0 3 (by decide) (by decide) hBc1 (by (first | (clear hor; omega) | omega)) (TX.fr (F := ([(46, 3), (46, 4), (46, 5), (46, 6), (46, 7), (46, 8)], [])) v_TX (FrX.c FrX.rf hFc1 rfl) rfl) (OWN.fr (F := ([(46, 3), (46, 4), (46, 5), (46, 6), (46, 7), (46, 8)], [])) v_OWN (FrX.c FrX.rf hFc1 rfl) rfl) ((XT.fr (F := ([(46, 3), (46, 4), (46, 5), (46, 6), (46, 7), (46, 8)], [])) z0 (FrX.c FrX.rf hFc1 rfl) rfl)) (ec1_0) _ (fun rc2 hc2 Pc2 hBc2 hFc2 gc2_n ec2_0 => ⟨rc2, rfl, ?_⟩)) cf_X6_readNumber t_816 rfl (show kx 110 45 from (⟨by decide, rfl⟩ : kx 110 45)).1 ((show kx 110 45 from (⟨by decide, rfl⟩ : kx 110 45)).sh rfl) rfl rfl (Nat.le_of_ble_eq_true rfl) (by decide) rfl dX6_readRule_14
  have zq3 : Pc1 110 3 = (P 110 3) := ((FrX.g hFc1 (⟨by decide, rfl⟩ : kx 110 45) rfl).trans rfl)
  have zq4 : Pc1 110 4 = (P 110 4) := ((FrX.g hFc1 (⟨by decide, rfl⟩ : kx 110 45) rfl).trans rfl)
  refine x_p28_9 k_o pfX6_102 dX6_readRule_17 ?_
  have hB5 := by_28_9 (z := rc2) hBc2 k_o ⟨by (first | (clear hor gc2_n; omega) | omega), by (first | (clear hor gc2_n; omega) | omega)⟩
  have kt6 : KT (tbX o) P (up Pc2 o 9 rc2) := KT.w (KT.fr (F := ([(45, 3), (45, 4), (46, 3), (46, 4), (46, 5), (46, 6), (46, 7), (46, 8)], [])) kt0 (FrX.c (FrX.c FrX.rf hFc1 rfl) hFc2 rfl) rfl) (Or.inl rfl)
  refine g_aload_n dX6_readRule_20 rfl ?_
  refine x_g45_2 (n := o) (⟨by decide, rfl⟩ : kx 110 45) ffX6_27 dX6_readRule_21 (RT.fr (F := ([(28, 9), (45, 3), (45, 4), (46, 3), (46, 4), (46, 5), (46, 6), (46, 7), (46, 8)], [])) z3 (FrX.s (FrX.c (FrX.c FrX.rf hFc1 rfl) hFc2 rfl) k_o rfl) rfl) ?_
  refine x_g28_9 (z := rc2) k_o ffX6_102 dX6_readRule_24 up_same ?_
  refine g_iconst dX6_readRule_27 ?_
  refine g_icmp_eq (tgt := 35) dX6_readRule_28 (by decide) ⟨by (first | (clear hor gc2_n; omega) | omega), by (first | (clear hor gc2_n; omega) | omega)⟩ (by decide) (fun k7 => ?_) (fun k7 => ?_)
  · first | (revert r_gc2_n; intro r_gc2_n) | have r_gc2_n := (gc2_n.resolve_right (by (clear hor gc2_n k7; omega))) | have r_gc2_n := (gc2_n.resolve_left (by (clear hor gc2_n k7; omega))) | skip
    refine g_iconst dX6_readRule_35 ?_
    exact g_retZ dX6_readRule_36 rfl (by decide) (hQ 0 (by decide) _ hB5 (FrX.s (FrX.c (FrX.c FrX.rf hFc1 rfl) hFc2 rfl) k_o rfl) (by have q0 := (((up_o (kx.ne (⟨by decide, rfl⟩ : kx 110 45) k_o rfl)).trans rfl) : (up Pc2 o 9 rc2) 110 3 = (Pc2 110 3)); have q1 := bx_45_3 (o := 110) hBc2 (⟨by decide, rfl⟩ : kx 110 45); have q2 := (((up_o (kx.ne (⟨by decide, rfl⟩ : kx 110 45) k_o rfl)).trans rfl) : (up Pc2 o 9 rc2) 110 4 = (Pc2 110 4)); have q3 := bx_45_4 (o := 110) hBc2 (⟨by decide, rfl⟩ : kx 110 45); (first | (clear hor gc2_n k7; omega) | (clear hor gc2_n; omega) | (clear hor k7; omega) | (clear gc2_n k7; omega) | (clear hor; omega) | omega)) ((fun h0 => (XS.fr (F := ([(28, 9)], [])) (ec2_0 h0) (FrX.s FrX.rf k_o rfl) rfl))) (fun h0 => z2.rule ((up_k (by decide)).trans ((FrX.g hFc2 k_o rfl).trans ((FrX.g hFc1 k_o rfl).trans rfl))) ((up_k (by decide)).trans ((FrX.g hFc2 k_o rfl).trans ((FrX.g hFc1 k_o rfl).trans rfl))) ((up_k (by decide)).trans ((FrX.g hFc2 k_o rfl).trans ((FrX.g hFc1 k_o rfl).trans rfl))) ((up_same).trans (by (first | (clear hor gc2_n k7; omega) | (clear hor gc2_n; omega) | (clear hor k7; omega) | (clear gc2_n k7; omega) | (clear hor; omega) | omega))) ((up_k (by decide)).trans ((FrX.g hFc2 k_o rfl).trans ((FrX.g hFc1 k_o rfl).trans rfl))) (fun j => ((up_o (kx.ne (ck_28_1 k_o) k_o rfl)).trans ((FrX.g hFc2 (ck_28_1 k_o) rfl).trans ((FrX.g hFc1 (ck_28_1 k_o) rfl).trans rfl)))) (fun j => ((up_o (kx.ne (ck_28_4 k_o) k_o rfl)).trans ((FrX.g hFc2 (ck_28_4 k_o) rfl).trans ((FrX.g hFc1 (ck_28_4 k_o) rfl).trans rfl))))) (kt6))
  · first | (revert r_gc2_n; intro r_gc2_n) | have r_gc2_n := (gc2_n.resolve_right (by (clear hor gc2_n k7; omega))) | have r_gc2_n := (gc2_n.resolve_left (by (clear hor gc2_n k7; omega))) | skip
    refine g_iconst dX6_readRule_31 ?_
    refine g_goto (tgt := 36) dX6_readRule_32 (by decide) ?_
    exact g_retZ dX6_readRule_36 rfl (by decide) (hQ 1 (by decide) _ hB5 (FrX.s (FrX.c (FrX.c FrX.rf hFc1 rfl) hFc2 rfl) k_o rfl) (by have q0 := (((up_o (kx.ne (⟨by decide, rfl⟩ : kx 110 45) k_o rfl)).trans rfl) : (up Pc2 o 9 rc2) 110 3 = (Pc2 110 3)); have q1 := bx_45_3 (o := 110) hBc2 (⟨by decide, rfl⟩ : kx 110 45); have q2 := (((up_o (kx.ne (⟨by decide, rfl⟩ : kx 110 45) k_o rfl)).trans rfl) : (up Pc2 o 9 rc2) 110 4 = (Pc2 110 4)); have q3 := bx_45_4 (o := 110) hBc2 (⟨by decide, rfl⟩ : kx 110 45); (first | (clear hor gc2_n k7; omega) | (clear hor gc2_n; omega) | (clear hor k7; omega) | (clear gc2_n k7; omega) | (clear hor; omega) | omega)) ((fun h0 => (XS.fr (F := ([(28, 9)], [])) (ec2_0 h0) (FrX.s FrX.rf k_o rfl) rfl))) (fun h0 => z2.rule ((up_k (by decide)).trans ((FrX.g hFc2 k_o rfl).trans ((FrX.g hFc1 k_o rfl).trans rfl))) ((up_k (by decide)).trans ((FrX.g hFc2 k_o rfl).trans ((FrX.g hFc1 k_o rfl).trans rfl))) ((up_k (by decide)).trans ((FrX.g hFc2 k_o rfl).trans ((FrX.g hFc1 k_o rfl).trans rfl))) ((up_same).trans (by (first | (clear hor gc2_n k7; omega) | (clear hor gc2_n; omega) | (clear hor k7; omega) | (clear gc2_n k7; omega) | (clear hor; omega) | omega))) ((up_k (by decide)).trans ((FrX.g hFc2 k_o rfl).trans ((FrX.g hFc1 k_o rfl).trans rfl))) (fun j => ((up_o (kx.ne (ck_28_1 k_o) k_o rfl)).trans ((FrX.g hFc2 (ck_28_1 k_o) rfl).trans ((FrX.g hFc1 (ck_28_1 k_o) rfl).trans rfl)))) (fun j => ((up_o (kx.ne (ck_28_4 k_o) k_o rfl)).trans ((FrX.g hFc2 (ck_28_4 k_o) rfl).trans ((FrX.g hFc1 (ck_28_4 k_o) rfl).trans rfl))))) (kt6))
/-! What the class answers: X6_readBudget. -/
set_option maxRecDepth 100000 in
set_option maxHeartbeats 4000000 in
theorem f_X6_readBudget (G : GT) (P : PH) (T : TT) (p : Int) (M : PH) (o : Nat) (k_o : kx o 28) (hB : BdX P) (p_k0 : tO T p = 6) (v_TX : TX P) (v_OWN : OWN P) (z0 : XT T P) (z1 : XS T p P) (z2 : XM M o P) (z3 : RT o P) (Q : Option PV → PH → Prop) (hQ : ∀ (r : Int) (_ : 0 ≤ r ∧ r ≤ 1) (P1 : PH) (_ : BdX P1) (_ : FrX ([(28, 10), (45, 3), (45, 4), (46, 3), (46, 4), (46, 5), (46, 6), (46, 7), (46, 8)], []) P P1) (_ : (r = 1 ∧ (num T 1 999 (tE T p)).1 = 0 ∧ P1 110 3 = P 110 3 ∧ P1 110 4 = P 110 4) ∨ (r = 0 ∧ (num T 1 999 (tE T p)).1 ≠ 0 ∧ P1 110 3 = (num T 1 999 (tE T p)).1 ∧ P1 110 4 = (num T 1 999 (tE T p)).2)) (_ : CP (num T 1 999 (tE T p)).1 (XS T (num T 1 999 (tE T p)).2) P1) (_ : CP (num T 1 999 (tE T p)).1 (XM (up M 0 4 (tV T (tE T p))) o) P1) (_ : KT (tbX o) P P1), Q (some (vI r)) P1) : Ct WSX G 4 iX6_readBudget [vR 110] P Q := by
  refine Ct.of (by decide) (l0 := [(0, vR 110)]) rfl (Nat.le_of_ble_eq_true rfl) ?_
  have kt0 : KT (tbX o) P P := KT.rf
  have hor := tO_r T p
  have hk1 : tK T p = 1 := by (first | (clear hor; omega) | omega)
  refine g_aload_n dX6_readBudget_0 rfl ?_
  refine x_g45_0 (n := 111) (⟨by decide, rfl⟩ : kx 110 45) ffX6_12 dX6_readBudget_1 rfl ?_
  refine g_vV (av := []) (o := 111) (st := []) (f_X7_step G P T (tE T p)  hB ((z1.stp (by (first | (clear hor; omega) | omega))).1) ((z1.stp (by (first | (clear hor; omega) | omega))).2) v_TX v_OWN (z0) _ (fun Pc1 hBc1 hFc1 ec1_0 => ⟨rfl, ?_⟩)) cf_X7_step t_731 rfl (show kx 111 46 from (⟨by decide, rfl⟩ : kx 111 46)).1 ((show kx 111 46 from (⟨by decide, rfl⟩ : kx 111 46)).sh rfl) rfl rfl (Nat.le_of_ble_eq_true rfl) (by decide) rfl dX6_readBudget_4
  refine g_aload_n dX6_readBudget_7 rfl ?_
  refine x_g45_2 (n := o) (⟨by decide, rfl⟩ : kx 110 45) ffX6_27 dX6_readBudget_8 (RT.fr (F := ([(46, 3), (46, 4), (46, 5), (46, 6), (46, 7), (46, 8)], [])) z3 (FrX.c FrX.rf hFc1 rfl) rfl) ?_
  refine g_aload_n dX6_readBudget_11 rfl ?_
  refine g_iconst dX6_readBudget_12 ?_
  refine g_sipush dX6_readBudget_13 (by decide) ?_
  refine g_vI (av := [vI 1, vI 999]) (o := 110) (st := [vR o]) (f_X6_readNumber G Pc1 T (tE T p) 1 999 (by decide) (by decide) hBc1 (by (first | (clear hor; omega) | omega)) (TX.fr (F := ([(46, 3), (46, 4), (46, 5), (46, 6), (46, 7), (46, 8)], [])) v_TX (FrX.c FrX.rf hFc1 rfl) rfl) (OWN.fr (F := ([(46, 3), (46, 4), (46, 5), (46, 6), (46, 7), (46, 8)], [])) v_OWN (FrX.c FrX.rf hFc1 rfl) rfl) ((XT.fr (F := ([(46, 3), (46, 4), (46, 5), (46, 6), (46, 7), (46, 8)], [])) z0 (FrX.c FrX.rf hFc1 rfl) rfl)) (ec1_0) _ (fun rc2 hc2 Pc2 hBc2 hFc2 gc2_n ec2_0 => ⟨rc2, rfl, ?_⟩)) cf_X6_readNumber t_816 rfl (show kx 110 45 from (⟨by decide, rfl⟩ : kx 110 45)).1 ((show kx 110 45 from (⟨by decide, rfl⟩ : kx 110 45)).sh rfl) rfl rfl (Nat.le_of_ble_eq_true rfl) (by decide) rfl dX6_readBudget_16
  have zq3 : Pc1 110 3 = (P 110 3) := ((FrX.g hFc1 (⟨by decide, rfl⟩ : kx 110 45) rfl).trans rfl)
  have zq4 : Pc1 110 4 = (P 110 4) := ((FrX.g hFc1 (⟨by decide, rfl⟩ : kx 110 45) rfl).trans rfl)
  refine x_p28_10 k_o pfX6_105 dX6_readBudget_19 ?_
  have hB5 := by_28_10 (z := rc2) hBc2 k_o ⟨by (first | (clear hor gc2_n; omega) | omega), by (first | (clear hor gc2_n; omega) | omega)⟩
  have kt6 : KT (tbX o) P (up Pc2 o 10 rc2) := KT.w (KT.fr (F := ([(45, 3), (45, 4), (46, 3), (46, 4), (46, 5), (46, 6), (46, 7), (46, 8)], [])) kt0 (FrX.c (FrX.c FrX.rf hFc1 rfl) hFc2 rfl) rfl) (Or.inl rfl)
  refine g_aload_n dX6_readBudget_22 rfl ?_
  refine x_g45_2 (n := o) (⟨by decide, rfl⟩ : kx 110 45) ffX6_27 dX6_readBudget_23 (RT.fr (F := ([(28, 10), (45, 3), (45, 4), (46, 3), (46, 4), (46, 5), (46, 6), (46, 7), (46, 8)], [])) z3 (FrX.s (FrX.c (FrX.c FrX.rf hFc1 rfl) hFc2 rfl) k_o rfl) rfl) ?_
  refine x_g28_10 (z := rc2) k_o ffX6_105 dX6_readBudget_26 up_same ?_
  refine g_iconst dX6_readBudget_29 ?_
  refine g_icmp_eq (tgt := 37) dX6_readBudget_30 (by decide) ⟨by (first | (clear hor gc2_n; omega) | omega), by (first | (clear hor gc2_n; omega) | omega)⟩ (by decide) (fun k7 => ?_) (fun k7 => ?_)
  · first | (revert r_gc2_n; intro r_gc2_n) | have r_gc2_n := (gc2_n.resolve_right (by (clear hor gc2_n k7; omega))) | have r_gc2_n := (gc2_n.resolve_left (by (clear hor gc2_n k7; omega))) | skip
    refine g_iconst dX6_readBudget_37 ?_
    exact g_retZ dX6_readBudget_38 rfl (by decide) (hQ 0 (by decide) _ hB5 (FrX.s (FrX.c (FrX.c FrX.rf hFc1 rfl) hFc2 rfl) k_o rfl) (by have q0 := (((up_o (kx.ne (⟨by decide, rfl⟩ : kx 110 45) k_o rfl)).trans rfl) : (up Pc2 o 10 rc2) 110 3 = (Pc2 110 3)); have q1 := bx_45_3 (o := 110) hBc2 (⟨by decide, rfl⟩ : kx 110 45); have q2 := (((up_o (kx.ne (⟨by decide, rfl⟩ : kx 110 45) k_o rfl)).trans rfl) : (up Pc2 o 10 rc2) 110 4 = (Pc2 110 4)); have q3 := bx_45_4 (o := 110) hBc2 (⟨by decide, rfl⟩ : kx 110 45); (first | (clear hor gc2_n k7; omega) | (clear hor gc2_n; omega) | (clear hor k7; omega) | (clear gc2_n k7; omega) | (clear hor; omega) | omega)) ((fun h0 => (XS.fr (F := ([(28, 10)], [])) (ec2_0 h0) (FrX.s FrX.rf k_o rfl) rfl))) (fun h0 => z2.budget ((up_k (by decide)).trans ((FrX.g hFc2 k_o rfl).trans ((FrX.g hFc1 k_o rfl).trans rfl))) ((up_k (by decide)).trans ((FrX.g hFc2 k_o rfl).trans ((FrX.g hFc1 k_o rfl).trans rfl))) ((up_k (by decide)).trans ((FrX.g hFc2 k_o rfl).trans ((FrX.g hFc1 k_o rfl).trans rfl))) ((up_k (by decide)).trans ((FrX.g hFc2 k_o rfl).trans ((FrX.g hFc1 k_o rfl).trans rfl))) ((up_same).trans (by (first | (clear hor gc2_n k7; omega) | (clear hor gc2_n; omega) | (clear hor k7; omega) | (clear gc2_n k7; omega) | (clear hor; omega) | omega))) (fun j => ((up_o (kx.ne (ck_28_1 k_o) k_o rfl)).trans ((FrX.g hFc2 (ck_28_1 k_o) rfl).trans ((FrX.g hFc1 (ck_28_1 k_o) rfl).trans rfl)))) (fun j => ((up_o (kx.ne (ck_28_4 k_o) k_o rfl)).trans ((FrX.g hFc2 (ck_28_4 k_o) rfl).trans ((FrX.g hFc1 (ck_28_4 k_o) rfl).trans rfl))))) (kt6))
  · first | (revert r_gc2_n; intro r_gc2_n) | have r_gc2_n := (gc2_n.resolve_right (by (clear hor gc2_n k7; omega))) | have r_gc2_n := (gc2_n.resolve_left (by (clear hor gc2_n k7; omega))) | skip
    refine g_iconst dX6_readBudget_33 ?_
    refine g_goto (tgt := 38) dX6_readBudget_34 (by decide) ?_
    exact g_retZ dX6_readBudget_38 rfl (by decide) (hQ 1 (by decide) _ hB5 (FrX.s (FrX.c (FrX.c FrX.rf hFc1 rfl) hFc2 rfl) k_o rfl) (by have q0 := (((up_o (kx.ne (⟨by decide, rfl⟩ : kx 110 45) k_o rfl)).trans rfl) : (up Pc2 o 10 rc2) 110 3 = (Pc2 110 3)); have q1 := bx_45_3 (o := 110) hBc2 (⟨by decide, rfl⟩ : kx 110 45); have q2 := (((up_o (kx.ne (⟨by decide, rfl⟩ : kx 110 45) k_o rfl)).trans rfl) : (up Pc2 o 10 rc2) 110 4 = (Pc2 110 4)); have q3 := bx_45_4 (o := 110) hBc2 (⟨by decide, rfl⟩ : kx 110 45); (first | (clear hor gc2_n k7; omega) | (clear hor gc2_n; omega) | (clear hor k7; omega) | (clear gc2_n k7; omega) | (clear hor; omega) | omega)) ((fun h0 => (XS.fr (F := ([(28, 10)], [])) (ec2_0 h0) (FrX.s FrX.rf k_o rfl) rfl))) (fun h0 => z2.budget ((up_k (by decide)).trans ((FrX.g hFc2 k_o rfl).trans ((FrX.g hFc1 k_o rfl).trans rfl))) ((up_k (by decide)).trans ((FrX.g hFc2 k_o rfl).trans ((FrX.g hFc1 k_o rfl).trans rfl))) ((up_k (by decide)).trans ((FrX.g hFc2 k_o rfl).trans ((FrX.g hFc1 k_o rfl).trans rfl))) ((up_k (by decide)).trans ((FrX.g hFc2 k_o rfl).trans ((FrX.g hFc1 k_o rfl).trans rfl))) ((up_same).trans (by (first | (clear hor gc2_n k7; omega) | (clear hor gc2_n; omega) | (clear hor k7; omega) | (clear gc2_n k7; omega) | (clear hor; omega) | omega))) (fun j => ((up_o (kx.ne (ck_28_1 k_o) k_o rfl)).trans ((FrX.g hFc2 (ck_28_1 k_o) rfl).trans ((FrX.g hFc1 (ck_28_1 k_o) rfl).trans rfl)))) (fun j => ((up_o (kx.ne (ck_28_4 k_o) k_o rfl)).trans ((FrX.g hFc2 (ck_28_4 k_o) rfl).trans ((FrX.g hFc1 (ck_28_4 k_o) rfl).trans rfl))))) (kt6))
