/-! Contracts of the class: x4. -/
set_option maxRecDepth 100000 in
set_option maxHeartbeats 4000000 in
theorem m_X6_fail (G : GT) (P : PH) (a1 : Int) (a2 : Int) (h_a1 : (-2147483648) ≤ a1 ∧ a1 ≤ 2147483647) (h_a2 : (-2147483648) ≤ a2 ∧ a2 ≤ 2147483647) (hB : BdX P) (Q : Option PV → PH → Prop) (hQ : ∀ (r : Int) (_ : 0 ≤ r ∧ r ≤ 1) (P1 : PH) (_ : BdX P1) (_ : FrX ([(45, 3), (45, 4)], []) P P1), Q (some (vI r)) P1) : Ct WSX G 1 iX6_fail [vR 110, vI a1, vI a2] P Q := by
  refine Ct.of (by decide) (l0 := [(0, vR 110), (1, vI a1), (2, vI a2)]) rfl (Nat.le_of_ble_eq_true rfl) ?_
  refine g_aload_n dX6_fail_0 rfl ?_
  refine g_iload_n dX6_fail_1 rfl ?_
  refine x_p45_3 (⟨by decide, rfl⟩ : kx 110 45) pfX6_82 dX6_fail_2 ?_
  have hB1 := by_45_3 (z := a1) hB (⟨by decide, rfl⟩ : kx 110 45) ⟨by omega, by omega⟩
  refine g_aload_n dX6_fail_5 rfl ?_
  refine g_iload_n dX6_fail_6 rfl ?_
  refine x_p45_4 (⟨by decide, rfl⟩ : kx 110 45) pfX6_23 dX6_fail_7 ?_
  have hB2 := by_45_4 (z := a2) hB1 (⟨by decide, rfl⟩ : kx 110 45) ⟨by omega, by omega⟩
  refine g_iconst dX6_fail_10 ?_
  exact g_retZ dX6_fail_11 rfl (by decide) (hQ 0 (by decide) _ hB2 (FrX.s (FrX.s FrX.rf (⟨by decide, rfl⟩ : kx 110 45) rfl) (⟨by decide, rfl⟩ : kx 110 45) rfl) )
set_option maxRecDepth 100000 in
set_option maxHeartbeats 4000000 in
theorem m_X6_failHere (G : GT) (P : PH) (hB : BdX P) (Q : Option PV → PH → Prop) (hQ : ∀ (r : Int) (_ : 0 ≤ r ∧ r ≤ 1) (P1 : PH) (_ : BdX P1) (_ : FrX ([(45, 3), (45, 4)], []) P P1), Q (some (vI r)) P1) : Ct WSX G 1 iX6_failHere [vR 110] P Q := by
  refine Ct.of (by decide) (l0 := [(0, vR 110)]) rfl (Nat.le_of_ble_eq_true rfl) ?_
  refine g_aload_n dX6_failHere_0 rfl ?_
  refine g_iconst dX6_failHere_1 ?_
  refine x_p45_3 (⟨by decide, rfl⟩ : kx 110 45) pfX6_82 dX6_failHere_2 ?_
  have hB1 := by_45_3 (z := 1) hB (⟨by decide, rfl⟩ : kx 110 45) (by decide)
  refine g_aload_n dX6_failHere_5 rfl ?_
  refine g_aload_n dX6_failHere_6 rfl ?_
  refine x_g45_0 (n := 111) (⟨by decide, rfl⟩ : kx 110 45) ffX6_12 dX6_failHere_7 rfl ?_
  refine x_g46_4 (z := (P 111 4)) (⟨by decide, rfl⟩ : kx 111 46) ffX6_40 dX6_failHere_10 ((up_o (kx.ne (⟨by decide, rfl⟩ : kx 111 46) (⟨by decide, rfl⟩ : kx 110 45) rfl)).trans rfl) ?_
  refine g_iconst dX6_failHere_13 ?_
  have f2 := bx_46_4 (o := 111) hB (⟨by decide, rfl⟩ : kx 111 46)
  refine g_icmp_ne (tgt := 27) dX6_failHere_14 (by decide) ⟨by have q0 := bx_46_4 (o := 111) hB (⟨by decide, rfl⟩ : kx 111 46); omega, by have q0 := bx_46_4 (o := 111) hB (⟨by decide, rfl⟩ : kx 111 46); omega⟩ (by decide) (fun k3 => ?_) (fun k3 => ?_)
  · refine g_aload_n dX6_failHere_27 rfl ?_
    refine x_g45_0 (n := 111) (⟨by decide, rfl⟩ : kx 110 45) ffX6_12 dX6_failHere_28 rfl ?_
    refine x_g46_5 (z := (P 111 5)) (⟨by decide, rfl⟩ : kx 111 46) ffX6_72 dX6_failHere_31 ((up_o (kx.ne (⟨by decide, rfl⟩ : kx 111 46) (⟨by decide, rfl⟩ : kx 110 45) rfl)).trans rfl) ?_
    refine x_p45_4 (⟨by decide, rfl⟩ : kx 110 45) pfX6_23 dX6_failHere_34 ?_
    have hB4 := by_45_4 (z := (P 111 5)) hB1 (⟨by decide, rfl⟩ : kx 110 45) ⟨by have q0 := bx_46_5 (o := 111) hB (⟨by decide, rfl⟩ : kx 111 46); omega, by have q0 := bx_46_5 (o := 111) hB (⟨by decide, rfl⟩ : kx 111 46); omega⟩
    refine g_iconst dX6_failHere_37 ?_
    exact g_retZ dX6_failHere_38 rfl (by decide) (hQ 0 (by decide) _ hB4 (FrX.s (FrX.s FrX.rf (⟨by decide, rfl⟩ : kx 110 45) rfl) (⟨by decide, rfl⟩ : kx 110 45) rfl) )
  · refine g_aload_n dX6_failHere_17 rfl ?_
    refine x_g45_0 (n := 111) (⟨by decide, rfl⟩ : kx 110 45) ffX6_12 dX6_failHere_18 rfl ?_
    refine x_g46_6 (z := (P 111 6)) (⟨by decide, rfl⟩ : kx 111 46) ffX6_86 dX6_failHere_21 ((up_o (kx.ne (⟨by decide, rfl⟩ : kx 111 46) (⟨by decide, rfl⟩ : kx 110 45) rfl)).trans rfl) ?_
    refine g_goto (tgt := 34) dX6_failHere_24 (by decide) ?_
    refine x_p45_4 (⟨by decide, rfl⟩ : kx 110 45) pfX6_23 dX6_failHere_34 ?_
    have hB5 := by_45_4 (z := (P 111 6)) hB1 (⟨by decide, rfl⟩ : kx 110 45) ⟨by have q0 := bx_46_6 (o := 111) hB (⟨by decide, rfl⟩ : kx 111 46); omega, by have q0 := bx_46_6 (o := 111) hB (⟨by decide, rfl⟩ : kx 111 46); omega⟩
    refine g_iconst dX6_failHere_37 ?_
    exact g_retZ dX6_failHere_38 rfl (by decide) (hQ 0 (by decide) _ hB5 (FrX.s (FrX.s FrX.rf (⟨by decide, rfl⟩ : kx 110 45) rfl) (⟨by decide, rfl⟩ : kx 110 45) rfl) )
set_option maxRecDepth 100000 in
set_option maxHeartbeats 4000000 in
theorem m_X6_begin_B16 (G : GT) (P : PH) (hB : BdX P) (Q : Option PV → PH → Prop) (hQ : ∀ (P1 : PH) (_ : BdX P1) (_ : FrX ([(45, 3), (45, 4), (46, 1), (46, 2), (46, 3), (46, 4), (46, 5), (46, 6), (46, 7), (46, 8)], []) P P1) (_ : TX P1), Q none P1) : Ct WSX G 4 iX6_begin [vR 110, vR 1] P Q := by
  refine Ct.of (by decide) (l0 := [(0, vR 110), (1, vR 1)]) rfl (Nat.le_of_ble_eq_true rfl) ?_
  refine g_aload_n dX6_begin_0 rfl ?_
  refine g_iconst dX6_begin_1 ?_
  refine x_p45_3 (⟨by decide, rfl⟩ : kx 110 45) pfX6_82 dX6_begin_2 ?_
  have hB1 := by_45_3 (z := 0) hB (⟨by decide, rfl⟩ : kx 110 45) (by decide)
  refine g_aload_n dX6_begin_5 rfl ?_
  refine g_iconst dX6_begin_6 ?_
  refine x_p45_4 (⟨by decide, rfl⟩ : kx 110 45) pfX6_23 dX6_begin_7 ?_
  have hB2 := by_45_4 (z := (-1)) hB1 (⟨by decide, rfl⟩ : kx 110 45) (by decide)
  refine g_aload_n dX6_begin_10 rfl ?_
  refine x_g45_0 (n := 111) (⟨by decide, rfl⟩ : kx 110 45) ffX6_12 dX6_begin_11 rfl ?_
  refine g_aload_n dX6_begin_14 rfl ?_
  refine g_vV (av := [vR 1]) (o := 111) (st := []) (m_X7_begin_B16 G (up (up P 110 3 0) 110 4 (-1))  hB2  _ (fun Pc3 hBc3 hFc3 vc3_TX => ⟨rfl, ?_⟩)) cf_X7_begin t_699 rfl (show kx 111 46 from (⟨by decide, rfl⟩ : kx 111 46)).1 ((show kx 111 46 from (⟨by decide, rfl⟩ : kx 111 46)).sh rfl) rfl rfl (Nat.le_of_ble_eq_true rfl) (by decide) rfl dX6_begin_15
  exact g_retV dX6_begin_18 rfl (hQ _ hBc3 (FrX.c (FrX.s (FrX.s FrX.rf (⟨by decide, rfl⟩ : kx 110 45) rfl) (⟨by decide, rfl⟩ : kx 110 45) rfl) hFc3 rfl) vc3_TX)
set_option maxRecDepth 100000 in
set_option maxHeartbeats 4000000 in
theorem m_X6_readSign (G : GT) (P : PH) (a1 : Int) (h_a1 : (-2147483648) ≤ a1 ∧ a1 ≤ 2147483647) (hB : BdX P) (v_TX : TX P) (Q : Option PV → PH → Prop) (hQ : ∀ (r : Int) (_ : 0 ≤ r ∧ r ≤ 1) (P1 : PH) (_ : BdX P1) (_ : FrX ([(45, 3), (45, 4), (46, 3), (46, 4), (46, 5), (46, 6), (46, 7), (46, 8)], []) P P1), Q (some (vI r)) P1) : Ct WSX G 3 iX6_readSign [vR 110, vI a1] P Q := by
  refine Ct.of (by decide) (l0 := [(0, vR 110), (1, vI a1)]) rfl (Nat.le_of_ble_eq_true rfl) ?_
  refine g_aload_n dX6_readSign_0 rfl ?_
  refine x_g45_0 (n := 111) (⟨by decide, rfl⟩ : kx 110 45) ffX6_12 dX6_readSign_1 rfl ?_
  refine g_iload_n dX6_readSign_4 rfl ?_
  refine g_vI (av := [vI a1]) (o := 111) (st := []) (m_X7_isSign G P a1 ⟨by omega, by omega⟩ hB  _ (fun rc1 hc1 => ⟨rc1, rfl, ?_⟩)) cf_X7_isSign t_801 rfl (show kx 111 46 from (⟨by decide, rfl⟩ : kx 111 46)).1 ((show kx 111 46 from (⟨by decide, rfl⟩ : kx 111 46)).sh rfl) rfl rfl (Nat.le_of_ble_eq_true rfl) (by decide) rfl dX6_readSign_5
  refine g_if_ne (tgt := 16) dX6_readSign_8 (by decide) ⟨by omega, by omega⟩ (fun k2 => ?_) (fun k2 => ?_)
  · refine g_aload_n dX6_readSign_16 rfl ?_
    refine x_g45_0 (n := 111) (⟨by decide, rfl⟩ : kx 110 45) ffX6_12 dX6_readSign_17 rfl ?_
    refine g_vV (av := []) (o := 111) (st := []) (m_X7_step G P  hB v_TX _ (fun Pc3 hBc3 hFc3 => ⟨rfl, ?_⟩)) cf_X7_step t_731 rfl (show kx 111 46 from (⟨by decide, rfl⟩ : kx 111 46)).1 ((show kx 111 46 from (⟨by decide, rfl⟩ : kx 111 46)).sh rfl) rfl rfl (Nat.le_of_ble_eq_true rfl) (by decide) rfl dX6_readSign_20
    refine g_iconst dX6_readSign_23 ?_
    exact g_retZ dX6_readSign_24 rfl (by decide) (hQ 1 (by decide) _ hBc3 (FrX.c FrX.rf hFc3 rfl) )
  · refine g_aload_n dX6_readSign_11 rfl ?_
    refine g_vI (av := []) (o := 110) (st := []) (m_X6_failHere G P  hB  _ (fun rc4 hc4 Pc4 hBc4 hFc4 => ⟨rc4, rfl, ?_⟩)) cf_X6_failHere t_723 rfl (show kx 110 45 from (⟨by decide, rfl⟩ : kx 110 45)).1 ((show kx 110 45 from (⟨by decide, rfl⟩ : kx 110 45)).sh rfl) rfl rfl (Nat.le_of_ble_eq_true rfl) (by decide) rfl dX6_readSign_12
    exact g_retZ dX6_readSign_15 rfl (by omega) (hQ rc4 ⟨by omega, by omega⟩ _ hBc4 (FrX.c FrX.rf hFc4 rfl) )
set_option maxRecDepth 100000 in
set_option maxHeartbeats 4000000 in
theorem m_X6_readNumber (G : GT) (P : PH) (a1 : Int) (a2 : Int) (h_a1 : (-2147483648) ≤ a1 ∧ a1 ≤ 2147483647) (h_a2 : (-2147483648) ≤ a2 ∧ a2 ≤ 2147483647) (hB : BdX P) (v_TX : TX P) (Q : Option PV → PH → Prop) (hQ : ∀ (r : Int) (_ : (-2147483648) ≤ r ∧ r ≤ 2147483647) (P1 : PH) (_ : BdX P1) (_ : FrX ([(45, 3), (45, 4), (46, 3), (46, 4), (46, 5), (46, 6), (46, 7), (46, 8)], []) P P1), Q (some (vI r)) P1) : Ct WSX G 3 iX6_readNumber [vR 110, vI a1, vI a2] P Q := by
  refine Ct.of (by decide) (l0 := [(0, vR 110), (1, vI a1), (2, vI a2)]) rfl (Nat.le_of_ble_eq_true rfl) ?_
  refine g_aload_n dX6_readNumber_0 rfl ?_
  refine x_g45_0 (n := 111) (⟨by decide, rfl⟩ : kx 110 45) ffX6_12 dX6_readNumber_1 rfl ?_
  refine x_g46_4 (z := (P 111 4)) (⟨by decide, rfl⟩ : kx 111 46) ffX6_40 dX6_readNumber_4 rfl ?_
  refine g_iconst dX6_readNumber_7 ?_
  have f1 := bx_46_4 (o := 111) hB (⟨by decide, rfl⟩ : kx 111 46)
  refine g_icmp_eq (tgt := 18) dX6_readNumber_8 (by decide) ⟨by have q0 := bx_46_4 (o := 111) hB (⟨by decide, rfl⟩ : kx 111 46); omega, by have q0 := bx_46_4 (o := 111) hB (⟨by decide, rfl⟩ : kx 111 46); omega⟩ (by decide) (fun k2 => ?_) (fun k2 => ?_)
  · refine g_aload_n dX6_readNumber_18 rfl ?_
    refine x_g45_0 (n := 111) (⟨by decide, rfl⟩ : kx 110 45) ffX6_12 dX6_readNumber_19 rfl ?_
    refine x_g46_7 (z := (P 111 7)) (⟨by decide, rfl⟩ : kx 111 46) ffX6_95 dX6_readNumber_22 rfl ?_
    refine g_istore_n (l1 := [(3, vI (P 111 7)), (0, vR 110), (1, vI a1), (2, vI a2)]) dX6_readNumber_25 (by decide) rfl ?_
    refine g_iload_n dX6_readNumber_26 rfl ?_
    refine g_iload_n dX6_readNumber_27 rfl ?_
    have f3 := bx_46_7 (o := 111) hB (⟨by decide, rfl⟩ : kx 111 46)
    refine g_icmp_lt (tgt := 36) dX6_readNumber_28 (by decide) ⟨by have q0 := bx_46_7 (o := 111) hB (⟨by decide, rfl⟩ : kx 111 46); omega, by have q0 := bx_46_7 (o := 111) hB (⟨by decide, rfl⟩ : kx 111 46); omega⟩ ⟨by omega, by omega⟩ (fun k4 => ?_) (fun k4 => ?_)
    · refine g_aload_n dX6_readNumber_36 rfl ?_
      refine g_iconst dX6_readNumber_37 ?_
      refine g_aload_n dX6_readNumber_38 rfl ?_
      refine x_g45_0 (n := 111) (⟨by decide, rfl⟩ : kx 110 45) ffX6_12 dX6_readNumber_39 rfl ?_
      refine x_g46_5 (z := (P 111 5)) (⟨by decide, rfl⟩ : kx 111 46) ffX6_72 dX6_readNumber_42 rfl ?_
      have f5 := bx_46_5 (o := 111) hB (⟨by decide, rfl⟩ : kx 111 46)
      refine g_vI (av := [vI 4, vI (P 111 5)]) (o := 110) (st := []) (m_X6_fail G P 4 (P 111 5) (by decide) ⟨by have q0 := bx_46_5 (o := 111) hB (⟨by decide, rfl⟩ : kx 111 46); omega, by have q0 := bx_46_5 (o := 111) hB (⟨by decide, rfl⟩ : kx 111 46); omega⟩ hB  _ (fun rc6 hc6 Pc6 hBc6 hFc6 => ⟨rc6, rfl, ?_⟩)) cf_X6_fail t_727 rfl (show kx 110 45 from (⟨by decide, rfl⟩ : kx 110 45)).1 ((show kx 110 45 from (⟨by decide, rfl⟩ : kx 110 45)).sh rfl) rfl rfl (Nat.le_of_ble_eq_true rfl) (by decide) rfl dX6_readNumber_45
      refine g_pop dX6_readNumber_48 rfl ?_
      refine g_iconst dX6_readNumber_49 ?_
      exact g_retI dX6_readNumber_50 rfl (hQ (-1) (by decide) _ hBc6 (FrX.c FrX.rf hFc6 rfl) )
    · refine g_iload_n dX6_readNumber_31 rfl ?_
      refine g_iload_n dX6_readNumber_32 rfl ?_
      refine g_icmp_le (tgt := 51) dX6_readNumber_33 (by decide) ⟨by have q0 := bx_46_7 (o := 111) hB (⟨by decide, rfl⟩ : kx 111 46); omega, by have q0 := bx_46_7 (o := 111) hB (⟨by decide, rfl⟩ : kx 111 46); omega⟩ ⟨by omega, by omega⟩ (fun k7 => ?_) (fun k7 => ?_)
      · refine g_aload_n dX6_readNumber_51 rfl ?_
        refine x_g45_0 (n := 111) (⟨by decide, rfl⟩ : kx 110 45) ffX6_12 dX6_readNumber_52 rfl ?_
        refine g_vV (av := []) (o := 111) (st := []) (m_X7_step G P  hB v_TX _ (fun Pc8 hBc8 hFc8 => ⟨rfl, ?_⟩)) cf_X7_step t_731 rfl (show kx 111 46 from (⟨by decide, rfl⟩ : kx 111 46)).1 ((show kx 111 46 from (⟨by decide, rfl⟩ : kx 111 46)).sh rfl) rfl rfl (Nat.le_of_ble_eq_true rfl) (by decide) rfl dX6_readNumber_55
        refine g_iload_n dX6_readNumber_58 rfl ?_
        exact g_retI dX6_readNumber_59 rfl (hQ (P 111 7) ⟨by have q0 := bx_46_7 (o := 111) hB (⟨by decide, rfl⟩ : kx 111 46); omega, by have q0 := bx_46_7 (o := 111) hB (⟨by decide, rfl⟩ : kx 111 46); omega⟩ _ hBc8 (FrX.c FrX.rf hFc8 rfl) )
      · refine g_aload_n dX6_readNumber_36 rfl ?_
        refine g_iconst dX6_readNumber_37 ?_
        refine g_aload_n dX6_readNumber_38 rfl ?_
        refine x_g45_0 (n := 111) (⟨by decide, rfl⟩ : kx 110 45) ffX6_12 dX6_readNumber_39 rfl ?_
        refine x_g46_5 (z := (P 111 5)) (⟨by decide, rfl⟩ : kx 111 46) ffX6_72 dX6_readNumber_42 rfl ?_
        have f9 := bx_46_5 (o := 111) hB (⟨by decide, rfl⟩ : kx 111 46)
        refine g_vI (av := [vI 4, vI (P 111 5)]) (o := 110) (st := []) (m_X6_fail G P 4 (P 111 5) (by decide) ⟨by have q0 := bx_46_5 (o := 111) hB (⟨by decide, rfl⟩ : kx 111 46); omega, by have q0 := bx_46_5 (o := 111) hB (⟨by decide, rfl⟩ : kx 111 46); omega⟩ hB  _ (fun rc10 hc10 Pc10 hBc10 hFc10 => ⟨rc10, rfl, ?_⟩)) cf_X6_fail t_727 rfl (show kx 110 45 from (⟨by decide, rfl⟩ : kx 110 45)).1 ((show kx 110 45 from (⟨by decide, rfl⟩ : kx 110 45)).sh rfl) rfl rfl (Nat.le_of_ble_eq_true rfl) (by decide) rfl dX6_readNumber_45
        refine g_pop dX6_readNumber_48 rfl ?_
        refine g_iconst dX6_readNumber_49 ?_
        exact g_retI dX6_readNumber_50 rfl (hQ (-1) (by decide) _ hBc10 (FrX.c FrX.rf hFc10 rfl) )
  · refine g_aload_n dX6_readNumber_11 rfl ?_
    refine g_vI (av := []) (o := 110) (st := []) (m_X6_failHere G P  hB  _ (fun rc11 hc11 Pc11 hBc11 hFc11 => ⟨rc11, rfl, ?_⟩)) cf_X6_failHere t_723 rfl (show kx 110 45 from (⟨by decide, rfl⟩ : kx 110 45)).1 ((show kx 110 45 from (⟨by decide, rfl⟩ : kx 110 45)).sh rfl) rfl rfl (Nat.le_of_ble_eq_true rfl) (by decide) rfl dX6_readNumber_12
    refine g_pop dX6_readNumber_15 rfl ?_
    refine g_iconst dX6_readNumber_16 ?_
    exact g_retI dX6_readNumber_17 rfl (hQ (-1) (by decide) _ hBc11 (FrX.c FrX.rf hFc11 rfl) )
set_option maxRecDepth 100000 in
set_option maxHeartbeats 4000000 in
theorem m_X6_readRule (G : GT) (P : PH) (hB : BdX P) (v_TX : TX P) (Q : Option PV → PH → Prop) (hQ : ∀ (r : Int) (_ : 0 ≤ r ∧ r ≤ 1) (P1 : PH) (_ : BdX P1) (_ : FrX ([(28, 9), (45, 3), (45, 4), (46, 3), (46, 4), (46, 5), (46, 6), (46, 7), (46, 8)], []) P P1), Q (some (vI r)) P1) : Ct WSX G 4 iX6_readRule [vR 110] P Q := by
  refine Ct.of (by decide) (l0 := [(0, vR 110)]) rfl (Nat.le_of_ble_eq_true rfl) ?_
  refine g_aload_n dX6_readRule_0 rfl ?_
  refine x_g45_0 (n := 111) (⟨by decide, rfl⟩ : kx 110 45) ffX6_12 dX6_readRule_1 rfl ?_
  refine g_vV (av := []) (o := 111) (st := []) (m_X7_step G P  hB v_TX _ (fun Pc1 hBc1 hFc1 => ⟨rfl, ?_⟩)) cf_X7_step t_731 rfl (show kx 111 46 from (⟨by decide, rfl⟩ : kx 111 46)).1 ((show kx 111 46 from (⟨by decide, rfl⟩ : kx 111 46)).sh rfl) rfl rfl (Nat.le_of_ble_eq_true rfl) (by decide) rfl dX6_readRule_4
  refine g_aload_n dX6_readRule_7 rfl ?_
  refine x_g45_2 (n := (P 110 2).toNat) (⟨by decide, rfl⟩ : kx 110 45) ffX6_27 dX6_readRule_8 ((FrX.g hFc1 (⟨by decide, rfl⟩ : kx 110 45) rfl).trans (br_110_2 hB)) ?_
  refine g_aload_n dX6_readRule_11 rfl ?_
  refine g_iconst dX6_readRule_12 ?_
  refine g_iconst dX6_readRule_13 ?_
  refine g_vI (av := [vI 0, vI 3]) (o := 110) (st := [vR (P 110 2).toNat]) (m_X6_readNumber G Pc1 0 3 (by decide) (by decide) hBc1 (TX.fr (F := ([(46, 3), (46, 4), (46, 5), (46, 6), (46, 7), (46, 8)], [])) v_TX (FrX.c FrX.rf hFc1 rfl) rfl) _ (fun rc2 hc2 Pc2 hBc2 hFc2 => ⟨rc2, rfl, ?_⟩)) cf_X6_readNumber t_816 rfl (show kx 110 45 from (⟨by decide, rfl⟩ : kx 110 45)).1 ((show kx 110 45 from (⟨by decide, rfl⟩ : kx 110 45)).sh rfl) rfl rfl (Nat.le_of_ble_eq_true rfl) (by decide) rfl dX6_readRule_14
  refine x_p28_9 (bk_110_2 hB) pfX6_102 dX6_readRule_17 ?_
  have hB3 := by_28_9 (z := rc2) hBc2 (bk_110_2 hB) ⟨by omega, by omega⟩
  refine g_aload_n dX6_readRule_20 rfl ?_
  refine x_g45_2 (n := (P 110 2).toNat) (⟨by decide, rfl⟩ : kx 110 45) ffX6_27 dX6_readRule_21 ((up_o (kx.ne (⟨by decide, rfl⟩ : kx 110 45) (bk_110_2 hB) rfl)).trans ((FrX.g hFc2 (⟨by decide, rfl⟩ : kx 110 45) rfl).trans ((FrX.g hFc1 (⟨by decide, rfl⟩ : kx 110 45) rfl).trans (br_110_2 hB)))) ?_
  refine x_g28_9 (z := rc2) (bk_110_2 hB) ffX6_102 dX6_readRule_24 up_same ?_
  refine g_iconst dX6_readRule_27 ?_
  refine g_icmp_eq (tgt := 35) dX6_readRule_28 (by decide) ⟨by omega, by omega⟩ (by decide) (fun k4 => ?_) (fun k4 => ?_)
  · refine g_iconst dX6_readRule_35 ?_
    exact g_retZ dX6_readRule_36 rfl (by decide) (hQ 0 (by decide) _ hB3 (FrX.s (FrX.c (FrX.c FrX.rf hFc1 rfl) hFc2 rfl) (bk_110_2 hB) rfl) )
  · refine g_iconst dX6_readRule_31 ?_
    refine g_goto (tgt := 36) dX6_readRule_32 (by decide) ?_
    exact g_retZ dX6_readRule_36 rfl (by decide) (hQ 1 (by decide) _ hB3 (FrX.s (FrX.c (FrX.c FrX.rf hFc1 rfl) hFc2 rfl) (bk_110_2 hB) rfl) )
set_option maxRecDepth 100000 in
set_option maxHeartbeats 4000000 in
theorem m_X6_readBudget (G : GT) (P : PH) (hB : BdX P) (v_TX : TX P) (Q : Option PV → PH → Prop) (hQ : ∀ (r : Int) (_ : 0 ≤ r ∧ r ≤ 1) (P1 : PH) (_ : BdX P1) (_ : FrX ([(28, 10), (45, 3), (45, 4), (46, 3), (46, 4), (46, 5), (46, 6), (46, 7), (46, 8)], []) P P1), Q (some (vI r)) P1) : Ct WSX G 4 iX6_readBudget [vR 110] P Q := by
  refine Ct.of (by decide) (l0 := [(0, vR 110)]) rfl (Nat.le_of_ble_eq_true rfl) ?_
  refine g_aload_n dX6_readBudget_0 rfl ?_
  refine x_g45_0 (n := 111) (⟨by decide, rfl⟩ : kx 110 45) ffX6_12 dX6_readBudget_1 rfl ?_
  refine g_vV (av := []) (o := 111) (st := []) (m_X7_step G P  hB v_TX _ (fun Pc1 hBc1 hFc1 => ⟨rfl, ?_⟩)) cf_X7_step t_731 rfl (show kx 111 46 from (⟨by decide, rfl⟩ : kx 111 46)).1 ((show kx 111 46 from (⟨by decide, rfl⟩ : kx 111 46)).sh rfl) rfl rfl (Nat.le_of_ble_eq_true rfl) (by decide) rfl dX6_readBudget_4
  refine g_aload_n dX6_readBudget_7 rfl ?_
  refine x_g45_2 (n := (P 110 2).toNat) (⟨by decide, rfl⟩ : kx 110 45) ffX6_27 dX6_readBudget_8 ((FrX.g hFc1 (⟨by decide, rfl⟩ : kx 110 45) rfl).trans (br_110_2 hB)) ?_
  refine g_aload_n dX6_readBudget_11 rfl ?_
  refine g_iconst dX6_readBudget_12 ?_
  refine g_sipush dX6_readBudget_13 (by decide) ?_
  refine g_vI (av := [vI 1, vI 999]) (o := 110) (st := [vR (P 110 2).toNat]) (m_X6_readNumber G Pc1 1 999 (by decide) (by decide) hBc1 (TX.fr (F := ([(46, 3), (46, 4), (46, 5), (46, 6), (46, 7), (46, 8)], [])) v_TX (FrX.c FrX.rf hFc1 rfl) rfl) _ (fun rc2 hc2 Pc2 hBc2 hFc2 => ⟨rc2, rfl, ?_⟩)) cf_X6_readNumber t_816 rfl (show kx 110 45 from (⟨by decide, rfl⟩ : kx 110 45)).1 ((show kx 110 45 from (⟨by decide, rfl⟩ : kx 110 45)).sh rfl) rfl rfl (Nat.le_of_ble_eq_true rfl) (by decide) rfl dX6_readBudget_16
  refine x_p28_10 (bk_110_2 hB) pfX6_105 dX6_readBudget_19 ?_
  have hB3 := by_28_10 (z := rc2) hBc2 (bk_110_2 hB) ⟨by omega, by omega⟩
  refine g_aload_n dX6_readBudget_22 rfl ?_
  refine x_g45_2 (n := (P 110 2).toNat) (⟨by decide, rfl⟩ : kx 110 45) ffX6_27 dX6_readBudget_23 ((up_o (kx.ne (⟨by decide, rfl⟩ : kx 110 45) (bk_110_2 hB) rfl)).trans ((FrX.g hFc2 (⟨by decide, rfl⟩ : kx 110 45) rfl).trans ((FrX.g hFc1 (⟨by decide, rfl⟩ : kx 110 45) rfl).trans (br_110_2 hB)))) ?_
  refine x_g28_10 (z := rc2) (bk_110_2 hB) ffX6_105 dX6_readBudget_26 up_same ?_
  refine g_iconst dX6_readBudget_29 ?_
  refine g_icmp_eq (tgt := 37) dX6_readBudget_30 (by decide) ⟨by omega, by omega⟩ (by decide) (fun k4 => ?_) (fun k4 => ?_)
  · refine g_iconst dX6_readBudget_37 ?_
    exact g_retZ dX6_readBudget_38 rfl (by decide) (hQ 0 (by decide) _ hB3 (FrX.s (FrX.c (FrX.c FrX.rf hFc1 rfl) hFc2 rfl) (bk_110_2 hB) rfl) )
  · refine g_iconst dX6_readBudget_33 ?_
    refine g_goto (tgt := 38) dX6_readBudget_34 (by decide) ?_
    exact g_retZ dX6_readBudget_38 rfl (by decide) (hQ 1 (by decide) _ hB3 (FrX.s (FrX.c (FrX.c FrX.rf hFc1 rfl) hFc2 rfl) (bk_110_2 hB) rfl) )
set_option maxRecDepth 100000 in
set_option maxHeartbeats 4000000 in
theorem m_X6_isNewName (G : GT) (P : PH) (hB : BdX P) (Q : Option PV → PH → Prop) (hQ : ∀ (r : Int) (_ : 0 ≤ r ∧ r ≤ 1) (P1 : PH) (_ : BdX P1) (_ : FrX ([(45, 3), (45, 4)], []) P P1), Q (some (vI r)) P1) : Ct WSX G 2 iX6_isNewName [vR 110] P Q := by
  refine Ct.of (by decide) (l0 := [(0, vR 110)]) rfl (Nat.le_of_ble_eq_true rfl) ?_
  refine g_aload_n dX6_isNewName_0 rfl ?_
  refine x_g45_0 (n := 111) (⟨by decide, rfl⟩ : kx 110 45) ffX6_12 dX6_isNewName_1 rfl ?_
  refine g_vI (av := []) (o := 111) (st := []) (m_X7_isName G P  hB  _ (fun rc1 hc1 => ⟨rc1, rfl, ?_⟩)) cf_X7_isName t_736 rfl (show kx 111 46 from (⟨by decide, rfl⟩ : kx 111 46)).1 ((show kx 111 46 from (⟨by decide, rfl⟩ : kx 111 46)).sh rfl) rfl rfl (Nat.le_of_ble_eq_true rfl) (by decide) rfl dX6_isNewName_4
  refine g_if_ne (tgt := 15) dX6_isNewName_7 (by decide) ⟨by omega, by omega⟩ (fun k2 => ?_) (fun k2 => ?_)
  · refine g_aload_n dX6_isNewName_15 rfl ?_
    refine x_g45_2 (n := (P 110 2).toNat) (⟨by decide, rfl⟩ : kx 110 45) ffX6_27 dX6_isNewName_16 (br_110_2 hB) ?_
    refine x_g28_0 (n := (crX (P 110 2).toNat 0)) (bk_110_2 hB) ffX6_108 dX6_isNewName_19 rfl ?_
    refine g_astore_n (l1 := [(1, vR (crX (P 110 2).toNat 0)), (0, vR 110)]) dX6_isNewName_22 (by decide) rfl ?_
    refine g_aload_n dX6_isNewName_23 rfl ?_
    refine g_aload_n dX6_isNewName_24 rfl ?_
    refine x_g45_0 (n := 111) (⟨by decide, rfl⟩ : kx 110 45) ffX6_12 dX6_isNewName_25 rfl ?_
    refine x_g46_7 (z := (P 111 7)) (⟨by decide, rfl⟩ : kx 111 46) ffX6_95 dX6_isNewName_28 rfl ?_
    have f3 := bx_46_7 (o := 111) hB (⟨by decide, rfl⟩ : kx 111 46)
    refine g_vI (av := [vI (P 111 7)]) (o := (crX (P 110 2).toNat 0)) (st := []) (m_X3_kindNamed G P (crX (P 110 2).toNat 0) (P 111 7) (ck_28_0 (bk_110_2 hB)) ⟨by have q0 := bx_46_7 (o := 111) hB (⟨by decide, rfl⟩ : kx 111 46); omega, by have q0 := bx_46_7 (o := 111) hB (⟨by decide, rfl⟩ : kx 111 46); omega⟩ hB  _ (fun rc4 hc4 => ⟨rc4, rfl, ?_⟩)) cf_X3_kindNamed t_740 rfl (show kx (crX (P 110 2).toNat 0) 29 from (ck_28_0 (bk_110_2 hB))).1 ((show kx (crX (P 110 2).toNat 0) 29 from (ck_28_0 (bk_110_2 hB))).sh rfl) rfl rfl (Nat.le_of_ble_eq_true rfl) (by decide) rfl dX6_isNewName_31
    refine g_iconst dX6_isNewName_34 ?_
    refine g_icmp_ne (tgt := 53) dX6_isNewName_35 (by decide) ⟨by omega, by omega⟩ (by decide) (fun k5 => ?_) (fun k5 => ?_)
    · refine g_aload_n dX6_isNewName_53 rfl ?_
      refine g_iconst dX6_isNewName_54 ?_
      refine g_aload_n dX6_isNewName_55 rfl ?_
      refine x_g45_0 (n := 111) (⟨by decide, rfl⟩ : kx 110 45) ffX6_12 dX6_isNewName_56 rfl ?_
      refine x_g46_5 (z := (P 111 5)) (⟨by decide, rfl⟩ : kx 111 46) ffX6_72 dX6_isNewName_59 rfl ?_
      have f6 := bx_46_5 (o := 111) hB (⟨by decide, rfl⟩ : kx 111 46)
      refine g_vI (av := [vI 2, vI (P 111 5)]) (o := 110) (st := []) (m_X6_fail G P 2 (P 111 5) (by decide) ⟨by have q0 := bx_46_5 (o := 111) hB (⟨by decide, rfl⟩ : kx 111 46); omega, by have q0 := bx_46_5 (o := 111) hB (⟨by decide, rfl⟩ : kx 111 46); omega⟩ hB  _ (fun rc7 hc7 Pc7 hBc7 hFc7 => ⟨rc7, rfl, ?_⟩)) cf_X6_fail t_727 rfl (show kx 110 45 from (⟨by decide, rfl⟩ : kx 110 45)).1 ((show kx 110 45 from (⟨by decide, rfl⟩ : kx 110 45)).sh rfl) rfl rfl (Nat.le_of_ble_eq_true rfl) (by decide) rfl dX6_isNewName_62
      exact g_retZ dX6_isNewName_65 rfl (by omega) (hQ rc7 ⟨by omega, by omega⟩ _ hBc7 (FrX.c FrX.rf hFc7 rfl) )
    · refine g_aload_n dX6_isNewName_38 rfl ?_
      refine g_aload_n dX6_isNewName_39 rfl ?_
      refine x_g45_0 (n := 111) (⟨by decide, rfl⟩ : kx 110 45) ffX6_12 dX6_isNewName_40 rfl ?_
      refine x_g46_7 (z := (P 111 7)) (⟨by decide, rfl⟩ : kx 111 46) ffX6_95 dX6_isNewName_43 rfl ?_
      refine g_vI (av := [vI (P 111 7)]) (o := (crX (P 110 2).toNat 0)) (st := []) (m_X3_conNamed G P (crX (P 110 2).toNat 0) (P 111 7) (ck_28_0 (bk_110_2 hB)) ⟨by have q0 := bx_46_7 (o := 111) hB (⟨by decide, rfl⟩ : kx 111 46); omega, by have q0 := bx_46_7 (o := 111) hB (⟨by decide, rfl⟩ : kx 111 46); omega⟩ hB  _ (fun rc8 hc8 => ⟨rc8, rfl, ?_⟩)) cf_X3_conNamed t_744 rfl (show kx (crX (P 110 2).toNat 0) 29 from (ck_28_0 (bk_110_2 hB))).1 ((show kx (crX (P 110 2).toNat 0) 29 from (ck_28_0 (bk_110_2 hB))).sh rfl) rfl rfl (Nat.le_of_ble_eq_true rfl) (by decide) rfl dX6_isNewName_46
      refine g_iconst dX6_isNewName_49 ?_
      refine g_icmp_eq (tgt := 66) dX6_isNewName_50 (by decide) ⟨by omega, by omega⟩ (by decide) (fun k9 => ?_) (fun k9 => ?_)
      · refine g_iconst dX6_isNewName_66 ?_
        exact g_retZ dX6_isNewName_67 rfl (by decide) (hQ 1 (by decide) _ hB FrX.rf )
      · refine g_aload_n dX6_isNewName_53 rfl ?_
        refine g_iconst dX6_isNewName_54 ?_
        refine g_aload_n dX6_isNewName_55 rfl ?_
        refine x_g45_0 (n := 111) (⟨by decide, rfl⟩ : kx 110 45) ffX6_12 dX6_isNewName_56 rfl ?_
        refine x_g46_5 (z := (P 111 5)) (⟨by decide, rfl⟩ : kx 111 46) ffX6_72 dX6_isNewName_59 rfl ?_
        have f10 := bx_46_5 (o := 111) hB (⟨by decide, rfl⟩ : kx 111 46)
        refine g_vI (av := [vI 2, vI (P 111 5)]) (o := 110) (st := []) (m_X6_fail G P 2 (P 111 5) (by decide) ⟨by have q0 := bx_46_5 (o := 111) hB (⟨by decide, rfl⟩ : kx 111 46); omega, by have q0 := bx_46_5 (o := 111) hB (⟨by decide, rfl⟩ : kx 111 46); omega⟩ hB  _ (fun rc11 hc11 Pc11 hBc11 hFc11 => ⟨rc11, rfl, ?_⟩)) cf_X6_fail t_727 rfl (show kx 110 45 from (⟨by decide, rfl⟩ : kx 110 45)).1 ((show kx 110 45 from (⟨by decide, rfl⟩ : kx 110 45)).sh rfl) rfl rfl (Nat.le_of_ble_eq_true rfl) (by decide) rfl dX6_isNewName_62
        exact g_retZ dX6_isNewName_65 rfl (by omega) (hQ rc11 ⟨by omega, by omega⟩ _ hBc11 (FrX.c FrX.rf hFc11 rfl) )
  · refine g_aload_n dX6_isNewName_10 rfl ?_
    refine g_vI (av := []) (o := 110) (st := []) (m_X6_failHere G P  hB  _ (fun rc12 hc12 Pc12 hBc12 hFc12 => ⟨rc12, rfl, ?_⟩)) cf_X6_failHere t_723 rfl (show kx 110 45 from (⟨by decide, rfl⟩ : kx 110 45)).1 ((show kx 110 45 from (⟨by decide, rfl⟩ : kx 110 45)).sh rfl) rfl rfl (Nat.le_of_ble_eq_true rfl) (by decide) rfl dX6_isNewName_11
    exact g_retZ dX6_isNewName_14 rfl (by omega) (hQ rc12 ⟨by omega, by omega⟩ _ hBc12 (FrX.c FrX.rf hFc12 rfl) )
set_option maxRecDepth 100000 in
set_option maxHeartbeats 4000000 in
theorem m_X6_readKind (G : GT) (P : PH) (hB : BdX P) (v_TX : TX P) (Q : Option PV → PH → Prop) (hQ : ∀ (r : Int) (_ : 0 ≤ r ∧ r ≤ 1) (P1 : PH) (_ : BdX P1) (_ : FrX ([(29, 9), (45, 3), (45, 4), (46, 3), (46, 4), (46, 5), (46, 6), (46, 7), (46, 8)], [30, 31, 32, 33]) P P1), Q (some (vI r)) P1) : Ct WSX G 3 iX6_readKind [vR 110] P Q := by
  refine Ct.of (by decide) (l0 := [(0, vR 110)]) rfl (Nat.le_of_ble_eq_true rfl) ?_
  refine g_aload_n dX6_readKind_0 rfl ?_
  refine x_g45_2 (n := (P 110 2).toNat) (⟨by decide, rfl⟩ : kx 110 45) ffX6_27 dX6_readKind_1 (br_110_2 hB) ?_
  refine x_g28_6 (z := (P (P 110 2).toNat 6)) (bk_110_2 hB) ffX6_79 dX6_readKind_4 rfl ?_
  have f1 := bx_28_6 (o := (P 110 2).toNat) hB (bk_110_2 hB)
  refine g_if_le (tgt := 15) dX6_readKind_7 (by decide) ⟨by have q0 := bx_28_6 (o := (P 110 2).toNat) hB (bk_110_2 hB); omega, by have q0 := bx_28_6 (o := (P 110 2).toNat) hB (bk_110_2 hB); omega⟩ (fun k2 => ?_) (fun k2 => ?_)
  · refine g_aload_n dX6_readKind_15 rfl ?_
    refine x_g45_2 (n := (P 110 2).toNat) (⟨by decide, rfl⟩ : kx 110 45) ffX6_27 dX6_readKind_16 (br_110_2 hB) ?_
    refine x_g28_0 (n := (crX (P 110 2).toNat 0)) (bk_110_2 hB) ffX6_108 dX6_readKind_19 rfl ?_
    refine x_g29_9 (z := (P (crX (P 110 2).toNat 0) 9)) (ck_28_0 (bk_110_2 hB)) ffX6_112 dX6_readKind_22 rfl ?_
    refine g_iconst dX6_readKind_25 ?_
    have f3 := bx_29_9 (o := (crX (P 110 2).toNat 0)) hB (ck_28_0 (bk_110_2 hB))
    refine g_icmp_lt (tgt := 43) dX6_readKind_26 (by decide) ⟨by have q0 := bx_29_9 (o := (crX (P 110 2).toNat 0)) hB (ck_28_0 (bk_110_2 hB)); omega, by have q0 := bx_29_9 (o := (crX (P 110 2).toNat 0)) hB (ck_28_0 (bk_110_2 hB)); omega⟩ (by decide) (fun k4 => ?_) (fun k4 => ?_)
    · refine g_aload_n dX6_readKind_43 rfl ?_
      refine x_g45_0 (n := 111) (⟨by decide, rfl⟩ : kx 110 45) ffX6_12 dX6_readKind_44 rfl ?_
      refine g_vV (av := []) (o := 111) (st := []) (m_X7_step G P  hB v_TX _ (fun Pc5 hBc5 hFc5 => ⟨rfl, ?_⟩)) cf_X7_step t_731 rfl (show kx 111 46 from (⟨by decide, rfl⟩ : kx 111 46)).1 ((show kx 111 46 from (⟨by decide, rfl⟩ : kx 111 46)).sh rfl) rfl rfl (Nat.le_of_ble_eq_true rfl) (by decide) rfl dX6_readKind_47
      refine g_aload_n dX6_readKind_50 rfl ?_
      refine g_vI (av := []) (o := 110) (st := []) (m_X6_isNewName G Pc5  hBc5  _ (fun rc6 hc6 Pc6 hBc6 hFc6 => ⟨rc6, rfl, ?_⟩)) cf_X6_isNewName t_732 rfl (show kx 110 45 from (⟨by decide, rfl⟩ : kx 110 45)).1 ((show kx 110 45 from (⟨by decide, rfl⟩ : kx 110 45)).sh rfl) rfl rfl (Nat.le_of_ble_eq_true rfl) (by decide) rfl dX6_readKind_51
      refine g_if_ne (tgt := 59) dX6_readKind_54 (by decide) ⟨by omega, by omega⟩ (fun k7 => ?_) (fun k7 => ?_)
      · refine g_aload_n dX6_readKind_59 rfl ?_
        refine x_g45_2 (n := (P 110 2).toNat) (⟨by decide, rfl⟩ : kx 110 45) ffX6_27 dX6_readKind_60 ((FrX.g hFc6 (⟨by decide, rfl⟩ : kx 110 45) rfl).trans ((FrX.g hFc5 (⟨by decide, rfl⟩ : kx 110 45) rfl).trans (br_110_2 hB))) ?_
        refine x_g28_0 (n := (crX (P 110 2).toNat 0)) (bk_110_2 hB) ffX6_108 dX6_readKind_63 rfl ?_
        refine g_aload_n dX6_readKind_66 rfl ?_
        refine x_g45_0 (n := 111) (⟨by decide, rfl⟩ : kx 110 45) ffX6_12 dX6_readKind_67 rfl ?_
        refine x_g46_7 (z := (Pc5 111 7)) (⟨by decide, rfl⟩ : kx 111 46) ffX6_95 dX6_readKind_70 ((FrX.g hFc6 (⟨by decide, rfl⟩ : kx 111 46) rfl).trans rfl) ?_
        have f8 := bx_46_7 (o := 111) hBc5 (⟨by decide, rfl⟩ : kx 111 46)
        refine g_vV (av := [vI (Pc5 111 7)]) (o := (crX (P 110 2).toNat 0)) (st := []) (m_X3_addKind G Pc6 (crX (P 110 2).toNat 0) (Pc5 111 7) (ck_28_0 (bk_110_2 hB)) ⟨by have q0 := bx_46_7 (o := 111) hBc5 (⟨by decide, rfl⟩ : kx 111 46); omega, by have q0 := bx_46_7 (o := 111) hBc5 (⟨by decide, rfl⟩ : kx 111 46); omega⟩ hBc6  _ (fun Pc9 hBc9 hFc9 => ⟨rfl, ?_⟩)) cf_X3_addKind t_748 rfl (show kx (crX (P 110 2).toNat 0) 29 from (ck_28_0 (bk_110_2 hB))).1 ((show kx (crX (P 110 2).toNat 0) 29 from (ck_28_0 (bk_110_2 hB))).sh rfl) rfl rfl (Nat.le_of_ble_eq_true rfl) (by decide) rfl dX6_readKind_73
        refine g_aload_n dX6_readKind_76 rfl ?_
        refine x_g45_0 (n := 111) (⟨by decide, rfl⟩ : kx 110 45) ffX6_12 dX6_readKind_77 rfl ?_
        refine g_vV (av := []) (o := 111) (st := []) (m_X7_step G Pc9  hBc9 (TX.fr (F := ([(29, 9), (45, 3), (45, 4), (46, 3), (46, 4), (46, 5), (46, 6), (46, 7), (46, 8)], [30, 31, 32, 33])) v_TX (FrX.c (FrX.c (FrX.c FrX.rf hFc5 rfl) hFc6 rfl) hFc9 rfl) rfl) _ (fun Pc10 hBc10 hFc10 => ⟨rfl, ?_⟩)) cf_X7_step t_731 rfl (show kx 111 46 from (⟨by decide, rfl⟩ : kx 111 46)).1 ((show kx 111 46 from (⟨by decide, rfl⟩ : kx 111 46)).sh rfl) rfl rfl (Nat.le_of_ble_eq_true rfl) (by decide) rfl dX6_readKind_80
        refine g_iconst dX6_readKind_83 ?_
        exact g_retZ dX6_readKind_84 rfl (by decide) (hQ 1 (by decide) _ hBc10 (FrX.c (FrX.c (FrX.c (FrX.c FrX.rf hFc5 rfl) hFc6 rfl) hFc9 rfl) hFc10 rfl) )
      · refine g_iconst dX6_readKind_57 ?_
        exact g_retZ dX6_readKind_58 rfl (by decide) (hQ 0 (by decide) _ hBc6 (FrX.c (FrX.c FrX.rf hFc5 rfl) hFc6 rfl) )
    · refine g_aload_n dX6_readKind_29 rfl ?_
      refine g_bipush dX6_readKind_30 (by decide) ?_
      refine g_aload_n dX6_readKind_32 rfl ?_
      refine x_g45_0 (n := 111) (⟨by decide, rfl⟩ : kx 110 45) ffX6_12 dX6_readKind_33 rfl ?_
      refine x_g46_5 (z := (P 111 5)) (⟨by decide, rfl⟩ : kx 111 46) ffX6_72 dX6_readKind_36 rfl ?_
      have f11 := bx_46_5 (o := 111) hB (⟨by decide, rfl⟩ : kx 111 46)
      refine g_vI (av := [vI 6, vI (P 111 5)]) (o := 110) (st := []) (m_X6_fail G P 6 (P 111 5) (by decide) ⟨by have q0 := bx_46_5 (o := 111) hB (⟨by decide, rfl⟩ : kx 111 46); omega, by have q0 := bx_46_5 (o := 111) hB (⟨by decide, rfl⟩ : kx 111 46); omega⟩ hB  _ (fun rc12 hc12 Pc12 hBc12 hFc12 => ⟨rc12, rfl, ?_⟩)) cf_X6_fail t_727 rfl (show kx 110 45 from (⟨by decide, rfl⟩ : kx 110 45)).1 ((show kx 110 45 from (⟨by decide, rfl⟩ : kx 110 45)).sh rfl) rfl rfl (Nat.le_of_ble_eq_true rfl) (by decide) rfl dX6_readKind_39
      exact g_retZ dX6_readKind_42 rfl (by omega) (hQ rc12 ⟨by omega, by omega⟩ _ hBc12 (FrX.c FrX.rf hFc12 rfl) )
  · refine g_aload_n dX6_readKind_10 rfl ?_
    refine g_vI (av := []) (o := 110) (st := []) (m_X6_failHere G P  hB  _ (fun rc13 hc13 Pc13 hBc13 hFc13 => ⟨rc13, rfl, ?_⟩)) cf_X6_failHere t_723 rfl (show kx 110 45 from (⟨by decide, rfl⟩ : kx 110 45)).1 ((show kx 110 45 from (⟨by decide, rfl⟩ : kx 110 45)).sh rfl) rfl rfl (Nat.le_of_ble_eq_true rfl) (by decide) rfl dX6_readKind_11
    exact g_retZ dX6_readKind_14 rfl (by omega) (hQ rc13 ⟨by omega, by omega⟩ _ hBc13 (FrX.c FrX.rf hFc13 rfl) )
set_option maxRecDepth 100000 in
set_option maxHeartbeats 4000000 in
theorem m_X6_isKindWord (G : GT) (P : PH) (hB : BdX P) (Q : Option PV → PH → Prop) (hQ : ∀ (r : Int) (_ : 0 ≤ r ∧ r ≤ 1), Q (some (vI r)) P) : Ct WSX G 2 iX6_isKindWord [vR 110] P Q := by
  refine Ct.of (by decide) (l0 := [(0, vR 110)]) rfl (Nat.le_of_ble_eq_true rfl) ?_
  refine g_aload_n dX6_isKindWord_0 rfl ?_
  refine x_g45_0 (n := 111) (⟨by decide, rfl⟩ : kx 110 45) ffX6_12 dX6_isKindWord_1 rfl ?_
  refine g_vI (av := []) (o := 111) (st := []) (m_X7_isName G P  hB  _ (fun rc1 hc1 => ⟨rc1, rfl, ?_⟩)) cf_X7_isName t_736 rfl (show kx 111 46 from (⟨by decide, rfl⟩ : kx 111 46)).1 ((show kx 111 46 from (⟨by decide, rfl⟩ : kx 111 46)).sh rfl) rfl rfl (Nat.le_of_ble_eq_true rfl) (by decide) rfl dX6_isKindWord_4
  refine g_if_ne (tgt := 22) dX6_isKindWord_7 (by decide) ⟨by omega, by omega⟩ (fun k2 => ?_) (fun k2 => ?_)
  · refine g_iconst dX6_isKindWord_22 ?_
    refine g_goto (tgt := 27) dX6_isKindWord_23 (by decide) ?_
    exact g_retZ dX6_isKindWord_27 rfl (by decide) (hQ 1 (by decide) )
  · refine g_aload_n dX6_isKindWord_10 rfl ?_
    refine x_g45_0 (n := 111) (⟨by decide, rfl⟩ : kx 110 45) ffX6_12 dX6_isKindWord_11 rfl ?_
    refine x_g46_8 (z := (P 111 8)) (⟨by decide, rfl⟩ : kx 111 46) ffX6_43 dX6_isKindWord_14 rfl ?_
    refine g_bipush dX6_isKindWord_17 (by decide) ?_
    have f3 := bx_46_8 (o := 111) hB (⟨by decide, rfl⟩ : kx 111 46)
    refine g_icmp_ne (tgt := 26) dX6_isKindWord_19 (by decide) ⟨by have q0 := bx_46_8 (o := 111) hB (⟨by decide, rfl⟩ : kx 111 46); omega, by have q0 := bx_46_8 (o := 111) hB (⟨by decide, rfl⟩ : kx 111 46); omega⟩ (by decide) (fun k4 => ?_) (fun k4 => ?_)
    · refine g_iconst dX6_isKindWord_26 ?_
      exact g_retZ dX6_isKindWord_27 rfl (by decide) (hQ 0 (by decide) )
    · refine g_iconst dX6_isKindWord_22 ?_
      refine g_goto (tgt := 27) dX6_isKindWord_23 (by decide) ?_
      exact g_retZ dX6_isKindWord_27 rfl (by decide) (hQ 1 (by decide) )
set_option maxRecDepth 100000 in
set_option maxHeartbeats 4000000 in
theorem m_X6_kindHere (G : GT) (P : PH) (hB : BdX P) (Q : Option PV → PH → Prop) (hQ : ∀ (r : Int) (_ : (-1) ≤ r ∧ r ≤ 3), Q (some (vI r)) P) : Ct WSX G 2 iX6_kindHere [vR 110] P Q := by
  refine Ct.of (by decide) (l0 := [(0, vR 110)]) rfl (Nat.le_of_ble_eq_true rfl) ?_
  refine g_aload_n dX6_kindHere_0 rfl ?_
  refine x_g45_0 (n := 111) (⟨by decide, rfl⟩ : kx 110 45) ffX6_12 dX6_kindHere_1 rfl ?_
  refine x_g46_8 (z := (P 111 8)) (⟨by decide, rfl⟩ : kx 111 46) ffX6_43 dX6_kindHere_4 rfl ?_
  refine g_bipush dX6_kindHere_7 (by decide) ?_
  have f1 := bx_46_8 (o := 111) hB (⟨by decide, rfl⟩ : kx 111 46)
  refine g_icmp_ne (tgt := 16) dX6_kindHere_9 (by decide) ⟨by have q0 := bx_46_8 (o := 111) hB (⟨by decide, rfl⟩ : kx 111 46); omega, by have q0 := bx_46_8 (o := 111) hB (⟨by decide, rfl⟩ : kx 111 46); omega⟩ (by decide) (fun k2 => ?_) (fun k2 => ?_)
  · refine g_aload_n dX6_kindHere_16 rfl ?_
    refine x_g45_2 (n := (P 110 2).toNat) (⟨by decide, rfl⟩ : kx 110 45) ffX6_27 dX6_kindHere_17 (br_110_2 hB) ?_
    refine x_g28_0 (n := (crX (P 110 2).toNat 0)) (bk_110_2 hB) ffX6_108 dX6_kindHere_20 rfl ?_
    refine g_aload_n dX6_kindHere_23 rfl ?_
    refine x_g45_0 (n := 111) (⟨by decide, rfl⟩ : kx 110 45) ffX6_12 dX6_kindHere_24 rfl ?_
    refine x_g46_7 (z := (P 111 7)) (⟨by decide, rfl⟩ : kx 111 46) ffX6_95 dX6_kindHere_27 rfl ?_
    have f3 := bx_46_7 (o := 111) hB (⟨by decide, rfl⟩ : kx 111 46)
    refine g_vI (av := [vI (P 111 7)]) (o := (crX (P 110 2).toNat 0)) (st := []) (m_X3_kindNamed G P (crX (P 110 2).toNat 0) (P 111 7) (ck_28_0 (bk_110_2 hB)) ⟨by have q0 := bx_46_7 (o := 111) hB (⟨by decide, rfl⟩ : kx 111 46); omega, by have q0 := bx_46_7 (o := 111) hB (⟨by decide, rfl⟩ : kx 111 46); omega⟩ hB  _ (fun rc4 hc4 => ⟨rc4, rfl, ?_⟩)) cf_X3_kindNamed t_740 rfl (show kx (crX (P 110 2).toNat 0) 29 from (ck_28_0 (bk_110_2 hB))).1 ((show kx (crX (P 110 2).toNat 0) 29 from (ck_28_0 (bk_110_2 hB))).sh rfl) rfl rfl (Nat.le_of_ble_eq_true rfl) (by decide) rfl dX6_kindHere_30
    exact g_retI dX6_kindHere_33 rfl (hQ rc4 ⟨by omega, by omega⟩ )
  · refine g_iconst dX6_kindHere_12 ?_
    refine g_goto (tgt := 33) dX6_kindHere_13 (by decide) ?_
    exact g_retI dX6_kindHere_33 rfl (hQ (-1) (by decide) )
set_option maxRecDepth 100000 in
set_option maxHeartbeats 4000000 in
theorem m_X6_isKindHere (G : GT) (P : PH) (a1 : Int) (h_a1 : (-2147483648) ≤ a1 ∧ a1 ≤ 2147483647) (hB : BdX P) (Q : Option PV → PH → Prop) (hQ : ∀ (r : Int) (_ : 0 ≤ r ∧ r ≤ 1), Q (some (vI r)) P) : Ct WSX G 3 iX6_isKindHere [vR 110, vI a1] P Q := by
  refine Ct.of (by decide) (l0 := [(0, vR 110), (1, vI a1)]) rfl (Nat.le_of_ble_eq_true rfl) ?_
  refine g_aload_n dX6_isKindHere_0 rfl ?_
  refine x_g45_0 (n := 111) (⟨by decide, rfl⟩ : kx 110 45) ffX6_12 dX6_isKindHere_1 rfl ?_
  refine x_g46_8 (z := (P 111 8)) (⟨by decide, rfl⟩ : kx 111 46) ffX6_43 dX6_isKindHere_4 rfl ?_
  refine g_bipush dX6_isKindHere_7 (by decide) ?_
  have f1 := bx_46_8 (o := 111) hB (⟨by decide, rfl⟩ : kx 111 46)
  refine g_icmp_ne (tgt := 14) dX6_isKindHere_9 (by decide) ⟨by have q0 := bx_46_8 (o := 111) hB (⟨by decide, rfl⟩ : kx 111 46); omega, by have q0 := bx_46_8 (o := 111) hB (⟨by decide, rfl⟩ : kx 111 46); omega⟩ (by decide) (fun k2 => ?_) (fun k2 => ?_)
  · refine g_aload_n dX6_isKindHere_14 rfl ?_
    refine g_vI (av := []) (o := 110) (st := []) (m_X6_kindHere G P  hB  _ (fun rc3 hc3 => ⟨rc3, rfl, ?_⟩)) cf_X6_kindHere t_772 rfl (show kx 110 45 from (⟨by decide, rfl⟩ : kx 110 45)).1 ((show kx 110 45 from (⟨by decide, rfl⟩ : kx 110 45)).sh rfl) rfl rfl (Nat.le_of_ble_eq_true rfl) (by decide) rfl dX6_isKindHere_15
    refine g_istore_n (l1 := [(2, vI rc3), (0, vR 110), (1, vI a1)]) dX6_isKindHere_18 (by decide) rfl ?_
    refine g_iload_n dX6_isKindHere_19 rfl ?_
    refine g_iconst dX6_isKindHere_20 ?_
    refine g_icmp_eq (tgt := 47) dX6_isKindHere_21 (by decide) ⟨by omega, by omega⟩ (by decide) (fun k4 => ?_) (fun k4 => ?_)
    · refine g_iconst dX6_isKindHere_47 ?_
      exact g_retZ dX6_isKindHere_48 rfl (by decide) (hQ 0 (by decide) )
    · refine g_iload_n dX6_isKindHere_24 rfl ?_
      refine g_iload_n dX6_isKindHere_25 rfl ?_
      refine g_icmp_eq (tgt := 47) dX6_isKindHere_26 (by decide) ⟨by omega, by omega⟩ ⟨by omega, by omega⟩ (fun k5 => ?_) (fun k5 => ?_)
      · refine g_iconst dX6_isKindHere_47 ?_
        exact g_retZ dX6_isKindHere_48 rfl (by decide) (hQ 0 (by decide) )
      · refine g_aload_n dX6_isKindHere_29 rfl ?_
        refine x_g45_2 (n := (P 110 2).toNat) (⟨by decide, rfl⟩ : kx 110 45) ffX6_27 dX6_isKindHere_30 (br_110_2 hB) ?_
        refine x_g28_0 (n := (crX (P 110 2).toNat 0)) (bk_110_2 hB) ffX6_108 dX6_isKindHere_33 rfl ?_
        refine g_iload_n dX6_isKindHere_36 rfl ?_
        refine g_vI (av := [vI rc3]) (o := (crX (P 110 2).toNat 0)) (st := []) (m_X3_consOf G P (crX (P 110 2).toNat 0) rc3 (ck_28_0 (bk_110_2 hB)) ⟨by omega, by omega⟩ hB  _ (fun rc6 hc6 => ⟨rc6, rfl, ?_⟩)) cf_X3_consOf t_756 rfl (show kx (crX (P 110 2).toNat 0) 29 from (ck_28_0 (bk_110_2 hB))).1 ((show kx (crX (P 110 2).toNat 0) 29 from (ck_28_0 (bk_110_2 hB))).sh rfl) rfl rfl (Nat.le_of_ble_eq_true rfl) (by decide) rfl dX6_isKindHere_37
        refine g_if_le (tgt := 47) dX6_isKindHere_40 (by decide) ⟨by omega, by omega⟩ (fun k7 => ?_) (fun k7 => ?_)
        · refine g_iconst dX6_isKindHere_47 ?_
          exact g_retZ dX6_isKindHere_48 rfl (by decide) (hQ 0 (by decide) )
        · refine g_iconst dX6_isKindHere_43 ?_
          refine g_goto (tgt := 48) dX6_isKindHere_44 (by decide) ?_
          exact g_retZ dX6_isKindHere_48 rfl (by decide) (hQ 1 (by decide) )
  · refine g_iconst dX6_isKindHere_12 ?_
    exact g_retZ dX6_isKindHere_13 rfl (by decide) (hQ 1 (by decide) )
set_option maxRecDepth 100000 in
set_option maxHeartbeats 4000000 in
theorem m_X6_readCon (G : GT) (P : PH) (hB : BdX P) (v_TX : TX P) (Q : Option PV → PH → Prop) (hQ : ∀ (r : Int) (_ : 0 ≤ r ∧ r ≤ 1) (P1 : PH) (_ : BdX P1) (_ : FrX ([(29, 10), (45, 3), (45, 4), (46, 3), (46, 4), (46, 5), (46, 6), (46, 7), (46, 8)], [32, 33, 34, 35, 36, 37, 38]) P P1), Q (some (vI r)) P1) : Ct WSX G 4 iX6_readCon [vR 110] P Q := by
  refine Ct.of (by decide) (l0 := [(0, vR 110)]) rfl (Nat.le_of_ble_eq_true rfl) ?_
  refine g_aload_n dX6_readCon_0 rfl ?_
  refine x_g45_2 (n := (P 110 2).toNat) (⟨by decide, rfl⟩ : kx 110 45) ffX6_27 dX6_readCon_1 (br_110_2 hB) ?_
  refine x_g28_0 (n := (crX (P 110 2).toNat 0)) (bk_110_2 hB) ffX6_108 dX6_readCon_4 rfl ?_
  refine g_astore_n (l1 := [(1, vR (crX (P 110 2).toNat 0)), (0, vR 110)]) dX6_readCon_7 (by decide) rfl ?_
  refine g_aload_n dX6_readCon_8 rfl ?_
  refine x_g29_9 (z := (P (crX (P 110 2).toNat 0) 9)) (ck_28_0 (bk_110_2 hB)) ffX6_112 dX6_readCon_9 rfl ?_
  refine g_iconst dX6_readCon_12 ?_
  refine g_isub dX6_readCon_13 ?_
  refine g_istore_n (l1 := [(2, vI ((P (crX (P 110 2).toNat 0) 9) - 1)), (1, vR (crX (P 110 2).toNat 0)), (0, vR 110)]) dX6_readCon_14 (by decide) rfl ?_
  refine g_aload_n dX6_readCon_15 rfl ?_
  refine x_g45_2 (n := (P 110 2).toNat) (⟨by decide, rfl⟩ : kx 110 45) ffX6_27 dX6_readCon_16 (br_110_2 hB) ?_
  refine x_g28_6 (z := (P (P 110 2).toNat 6)) (bk_110_2 hB) ffX6_79 dX6_readCon_19 rfl ?_
  have f1 := bx_28_6 (o := (P 110 2).toNat) hB (bk_110_2 hB)
  have J29_304 : ∀ (_ : True), Go WSX G 4 iX6_readCon 29 [(0, vR 110)] [] P Q := by
    intro _
    refine g_aload_n dX6_readCon_29 rfl ?_
    refine g_vI (av := []) (o := 110) (st := []) (m_X6_failHere G P  hB  _ (fun rc306 hc306 Pc306 hBc306 hFc306 => ⟨rc306, rfl, ?_⟩)) cf_X6_failHere t_723 rfl (show kx 110 45 from (⟨by decide, rfl⟩ : kx 110 45)).1 ((show kx 110 45 from (⟨by decide, rfl⟩ : kx 110 45)).sh rfl) rfl rfl (Nat.le_of_ble_eq_true rfl) (by decide) rfl dX6_readCon_30
    exact g_retZ dX6_readCon_33 rfl (by omega) (hQ rc306 ⟨by omega, by omega⟩ _ hBc306 (FrX.c FrX.rf hFc306 rfl) )
  refine g_if_gt (tgt := 29) dX6_readCon_22 (by decide) ⟨by have q0 := bx_28_6 (o := (P 110 2).toNat) hB (bk_110_2 hB); omega, by have q0 := bx_28_6 (o := (P 110 2).toNat) hB (bk_110_2 hB); omega⟩ (fun k307 => ?_) (fun k307 => ?_)
  · refine g_forget (l1 := [(0, vR 110)]) (by intro q hq; simp only [List.mem_cons, List.not_mem_nil, or_false] at hq ⊢; rcases hq with rfl <;> simp) ?_
    exact J29_304 trivial
  · refine g_iload_n dX6_readCon_25 rfl ?_
    have f308 := bx_29_9 (o := (crX (P 110 2).toNat 0)) hB (ck_28_0 (bk_110_2 hB))
    refine g_if_ge (tgt := 34) dX6_readCon_26 (by decide) ⟨by have q0 := bx_29_9 (o := (crX (P 110 2).toNat 0)) hB (ck_28_0 (bk_110_2 hB)); omega, by have q0 := bx_29_9 (o := (crX (P 110 2).toNat 0)) hB (ck_28_0 (bk_110_2 hB)); omega⟩ (fun k309 => ?_) (fun k309 => ?_)
    · refine g_aload_n dX6_readCon_34 rfl ?_
      refine g_iload_n dX6_readCon_35 rfl ?_
      refine g_vI (av := [vI ((P (crX (P 110 2).toNat 0) 9) - 1)]) (o := (crX (P 110 2).toNat 0)) (st := []) (m_X3_consOf G P (crX (P 110 2).toNat 0) ((P (crX (P 110 2).toNat 0) 9) - 1) (ck_28_0 (bk_110_2 hB)) ⟨by have q0 := bx_29_9 (o := (crX (P 110 2).toNat 0)) hB (ck_28_0 (bk_110_2 hB)); omega, by have q0 := bx_29_9 (o := (crX (P 110 2).toNat 0)) hB (ck_28_0 (bk_110_2 hB)); omega⟩ hB  _ (fun rc310 hc310 => ⟨rc310, rfl, ?_⟩)) cf_X3_consOf t_756 rfl (show kx (crX (P 110 2).toNat 0) 29 from (ck_28_0 (bk_110_2 hB))).1 ((show kx (crX (P 110 2).toNat 0) 29 from (ck_28_0 (bk_110_2 hB))).sh rfl) rfl rfl (Nat.le_of_ble_eq_true rfl) (by decide) rfl dX6_readCon_36
      refine g_bipush dX6_readCon_39 (by decide) ?_
      refine g_icmp_lt (tgt := 58) dX6_readCon_41 (by decide) ⟨by omega, by omega⟩ (by decide) (fun k311 => ?_) (fun k311 => ?_)
      · refine g_aload_n dX6_readCon_58 rfl ?_
        refine x_g45_0 (n := 111) (⟨by decide, rfl⟩ : kx 110 45) ffX6_12 dX6_readCon_59 rfl ?_
        refine g_vV (av := []) (o := 111) (st := []) (m_X7_step G P  hB v_TX _ (fun Pc312 hBc312 hFc312 => ⟨rfl, ?_⟩)) cf_X7_step t_731 rfl (show kx 111 46 from (⟨by decide, rfl⟩ : kx 111 46)).1 ((show kx 111 46 from (⟨by decide, rfl⟩ : kx 111 46)).sh rfl) rfl rfl (Nat.le_of_ble_eq_true rfl) (by decide) rfl dX6_readCon_62
        refine g_aload_n dX6_readCon_65 rfl ?_
        refine g_vI (av := []) (o := 110) (st := []) (m_X6_isNewName G Pc312  hBc312  _ (fun rc313 hc313 Pc313 hBc313 hFc313 => ⟨rc313, rfl, ?_⟩)) cf_X6_isNewName t_732 rfl (show kx 110 45 from (⟨by decide, rfl⟩ : kx 110 45)).1 ((show kx 110 45 from (⟨by decide, rfl⟩ : kx 110 45)).sh rfl) rfl rfl (Nat.le_of_ble_eq_true rfl) (by decide) rfl dX6_readCon_66
        refine g_if_ne (tgt := 74) dX6_readCon_69 (by decide) ⟨by omega, by omega⟩ (fun k314 => ?_) (fun k314 => ?_)
        · refine g_aload_n dX6_readCon_74 rfl ?_
          refine x_g45_0 (n := 111) (⟨by decide, rfl⟩ : kx 110 45) ffX6_12 dX6_readCon_75 rfl ?_
          refine x_g46_7 (z := (Pc312 111 7)) (⟨by decide, rfl⟩ : kx 111 46) ffX6_95 dX6_readCon_78 ((FrX.g hFc313 (⟨by decide, rfl⟩ : kx 111 46) rfl).trans rfl) ?_
          refine g_istore_n (l1 := [(3, vI (Pc312 111 7)), (2, vI ((P (crX (P 110 2).toNat 0) 9) - 1)), (1, vR (crX (P 110 2).toNat 0)), (0, vR 110)]) dX6_readCon_81 (by decide) rfl ?_
          refine g_iconst dX6_readCon_82 ?_
          refine g_istore (l1 := [(4, vI 0), (3, vI (Pc312 111 7)), (2, vI ((P (crX (P 110 2).toNat 0) 9) - 1)), (1, vR (crX (P 110 2).toNat 0)), (0, vR 110)]) dX6_readCon_83 (by decide) rfl ?_
          refine g_iconst dX6_readCon_85 ?_
          refine g_istore (l1 := [(5, vI (-1)), (4, vI 0), (3, vI (Pc312 111 7)), (2, vI ((P (crX (P 110 2).toNat 0) 9) - 1)), (1, vR (crX (P 110 2).toNat 0)), (0, vR 110)]) dX6_readCon_86 (by decide) rfl ?_
          refine g_iconst dX6_readCon_88 ?_
          refine g_istore (l1 := [(6, vI (-1)), (5, vI (-1)), (4, vI 0), (3, vI (Pc312 111 7)), (2, vI ((P (crX (P 110 2).toNat 0) 9) - 1)), (1, vR (crX (P 110 2).toNat 0)), (0, vR 110)]) dX6_readCon_89 (by decide) rfl ?_
          refine g_iconst dX6_readCon_91 ?_
          refine g_istore (l1 := [(7, vI 1), (6, vI (-1)), (5, vI (-1)), (4, vI 0), (3, vI (Pc312 111 7)), (2, vI ((P (crX (P 110 2).toNat 0) 9) - 1)), (1, vR (crX (P 110 2).toNat 0)), (0, vR 110)]) dX6_readCon_92 (by decide) rfl ?_
          refine g_aload_n dX6_readCon_94 rfl ?_
          refine x_g45_0 (n := 111) (⟨by decide, rfl⟩ : kx 110 45) ffX6_12 dX6_readCon_95 rfl ?_
          refine g_vV (av := []) (o := 111) (st := []) (m_X7_step G Pc313  hBc313 (TX.fr (F := ([(45, 3), (45, 4), (46, 3), (46, 4), (46, 5), (46, 6), (46, 7), (46, 8)], [])) v_TX (FrX.c (FrX.c FrX.rf hFc312 rfl) hFc313 rfl) rfl) _ (fun Pc315 hBc315 hFc315 => ⟨rfl, ?_⟩)) cf_X7_step t_731 rfl (show kx 111 46 from (⟨by decide, rfl⟩ : kx 111 46)).1 ((show kx 111 46 from (⟨by decide, rfl⟩ : kx 111 46)).sh rfl) rfl rfl (Nat.le_of_ble_eq_true rfl) (by decide) rfl dX6_readCon_98
          have L101_315 : ∀ (n101_315 : Nat) (x101_7_315 : Int) (h_x101_7_315 : (-2147483648) ≤ x101_7_315 ∧ x101_7_315 ≤ 2147483647) (x101_6_315 : Int) (h_x101_6_315 : (-1) ≤ x101_6_315 ∧ x101_6_315 ≤ 3) (x101_5_315 : Int) (h_x101_5_315 : (-1) ≤ x101_5_315 ∧ x101_5_315 ≤ 3) (x101_4_315 : Int) (h_x101_4_315 : 0 ≤ x101_4_315 ∧ x101_4_315 ≤ 2) (H101_315 : PH) (hB101_315 : BdX H101_315) (hE101_315 : FrX ([(46, 3), (46, 4), (46, 5), (46, 6), (46, 7), (46, 8)], []) Pc315 H101_315) (hm101_315 : ((3 - x101_4_315) : Int).toNat < n101_315), Go WSX G 4 iX6_readCon 101 [(0, vR 110), (1, vR (crX (P 110 2).toNat 0)), (2, vI ((P (crX (P 110 2).toNat 0) 9) - 1)), (3, vI (Pc312 111 7)), (4, vI x101_4_315), (5, vI x101_5_315), (6, vI x101_6_315), (7, vI x101_7_315)] [] H101_315 Q := by
            intro n101_315
            induction n101_315 with
            | zero => intro x101_7_315 h_x101_7_315 x101_6_315 h_x101_6_315 x101_5_315 h_x101_5_315 x101_4_315 h_x101_4_315 H101_315 hB101_315 hE101_315 hm101_315; exact absurd hm101_315 (Nat.not_lt_zero _)
            | succ n101_315 ih101_315 =>
            intro x101_7_315 h_x101_7_315 x101_6_315 h_x101_6_315 x101_5_315 h_x101_5_315 x101_4_315 h_x101_4_315 H101_315 hB101_315 hE101_315 hm101_315
            refine g_aload_n dX6_readCon_101 rfl ?_
            refine g_vI (av := []) (o := 110) (st := []) (m_X6_isKindWord G H101_315  hB101_315  _ (fun rc557 hc557 => ⟨rc557, rfl, ?_⟩)) cf_X6_isKindWord t_764 rfl (show kx 110 45 from (⟨by decide, rfl⟩ : kx 110 45)).1 ((show kx 110 45 from (⟨by decide, rfl⟩ : kx 110 45)).sh rfl) rfl rfl (Nat.le_of_ble_eq_true rfl) (by decide) rfl dX6_readCon_102
            have J228_581 : ∀ (_ : True), Go WSX G 4 iX6_readCon 228 [(1, vR (crX (P 110 2).toNat 0)), (3, vI (Pc312 111 7)), (4, vI x101_4_315), (5, vI x101_5_315), (6, vI x101_6_315), (7, vI x101_7_315)] [] H101_315 Q := by
              intro _
              refine g_aload_n dX6_readCon_228 rfl ?_
              refine g_iload_n dX6_readCon_229 rfl ?_
              refine g_iload dX6_readCon_230 rfl ?_
              refine g_iload dX6_readCon_232 rfl ?_
              refine g_iload dX6_readCon_234 rfl ?_
              refine g_iload dX6_readCon_236 rfl ?_
              have f583 := bx_46_7 (o := 111) hBc312 (⟨by decide, rfl⟩ : kx 111 46)
              refine g_vV (av := [vI (Pc312 111 7), vI x101_4_315, vI x101_5_315, vI x101_6_315, vI x101_7_315]) (o := (crX (P 110 2).toNat 0)) (st := []) (m_X3_addCon G H101_315 (crX (P 110 2).toNat 0) (Pc312 111 7) x101_4_315 x101_5_315 x101_6_315 x101_7_315 (ck_28_0 (bk_110_2 hB)) ⟨by have q0 := bx_46_7 (o := 111) hBc312 (⟨by decide, rfl⟩ : kx 111 46); omega, by have q0 := bx_46_7 (o := 111) hBc312 (⟨by decide, rfl⟩ : kx 111 46); omega⟩ ⟨by omega, by omega⟩ ⟨by omega, by omega⟩ ⟨by omega, by omega⟩ ⟨by omega, by omega⟩ hB101_315  _ (fun Pc584 hBc584 hFc584 => ⟨rfl, ?_⟩)) cf_X3_addCon t_780 rfl (show kx (crX (P 110 2).toNat 0) 29 from (ck_28_0 (bk_110_2 hB))).1 ((show kx (crX (P 110 2).toNat 0) 29 from (ck_28_0 (bk_110_2 hB))).sh rfl) rfl rfl (Nat.le_of_ble_eq_true rfl) (by decide) rfl dX6_readCon_238
              refine g_iconst dX6_readCon_241 ?_
              exact g_retZ dX6_readCon_242 rfl (by decide) (hQ 1 (by decide) _ hBc584 (FrX.c (FrX.c (FrX.c (FrX.c (FrX.c FrX.rf hFc312 rfl) hFc313 rfl) hFc315 rfl) hE101_315 rfl) hFc584 rfl) )
            refine g_if_eq (tgt := 228) dX6_readCon_105 (by decide) ⟨by omega, by omega⟩ (fun k585 => ?_) (fun k585 => ?_)
            · refine g_forget (l1 := [(1, vR (crX (P 110 2).toNat 0)), (3, vI (Pc312 111 7)), (4, vI x101_4_315), (5, vI x101_5_315), (6, vI x101_6_315), (7, vI x101_7_315)]) (by intro q hq; simp only [List.mem_cons, List.not_mem_nil, or_false] at hq ⊢; rcases hq with rfl | rfl | rfl | rfl | rfl | rfl <;> simp) ?_
              exact J228_581 trivial
            · refine g_iload dX6_readCon_108 rfl ?_
              refine g_iconst dX6_readCon_110 ?_
              refine g_icmp_gt (tgt := 228) dX6_readCon_111 (by decide) ⟨by omega, by omega⟩ (by decide) (fun k586 => by exfalso; omega) (fun k586 => ?_)
              refine g_iload dX6_readCon_114 rfl ?_
              refine g_iconst dX6_readCon_116 ?_
              refine g_icmp_ne (tgt := 134) dX6_readCon_117 (by decide) ⟨by omega, by omega⟩ (by decide) (fun k587 => ?_) (fun k587 => ?_)
              · refine g_aload_n dX6_readCon_134 rfl ?_
                refine g_iload_n dX6_readCon_135 rfl ?_
                refine g_vI (av := [vI ((P (crX (P 110 2).toNat 0) 9) - 1)]) (o := 110) (st := []) (m_X6_isKindHere G H101_315 ((P (crX (P 110 2).toNat 0) 9) - 1) ⟨by have q0 := bx_29_9 (o := (crX (P 110 2).toNat 0)) hB (ck_28_0 (bk_110_2 hB)); omega, by have q0 := bx_29_9 (o := (crX (P 110 2).toNat 0)) hB (ck_28_0 (bk_110_2 hB)); omega⟩ hB101_315  _ (fun rc588 hc588 => ⟨rc588, rfl, ?_⟩)) cf_X6_isKindHere t_768 rfl (show kx 110 45 from (⟨by decide, rfl⟩ : kx 110 45)).1 ((show kx 110 45 from (⟨by decide, rfl⟩ : kx 110 45)).sh rfl) rfl rfl (Nat.le_of_ble_eq_true rfl) (by decide) rfl dX6_readCon_136
                refine g_if_ne (tgt := 155) dX6_readCon_139 (by decide) ⟨by omega, by omega⟩ (fun k589 => ?_) (fun k589 => ?_)
                · refine g_aload_n dX6_readCon_155 rfl ?_
                  refine g_vI (av := []) (o := 110) (st := []) (m_X6_kindHere G H101_315  hB101_315  _ (fun rc590 hc590 => ⟨rc590, rfl, ?_⟩)) cf_X6_kindHere t_772 rfl (show kx 110 45 from (⟨by decide, rfl⟩ : kx 110 45)).1 ((show kx 110 45 from (⟨by decide, rfl⟩ : kx 110 45)).sh rfl) rfl rfl (Nat.le_of_ble_eq_true rfl) (by decide) rfl dX6_readCon_156
                  refine g_istore (l1 := [(8, vI rc590), (0, vR 110), (1, vR (crX (P 110 2).toNat 0)), (2, vI ((P (crX (P 110 2).toNat 0) 9) - 1)), (3, vI (Pc312 111 7)), (4, vI x101_4_315), (5, vI x101_5_315), (6, vI x101_6_315), (7, vI x101_7_315)]) dX6_readCon_159 (by decide) rfl ?_
                  refine g_iload dX6_readCon_161 rfl ?_
                  refine g_aload_n dX6_readCon_163 rfl ?_
                  refine g_iload dX6_readCon_164 rfl ?_
                  refine g_vI (av := [vI rc590]) (o := (crX (P 110 2).toNat 0)) (st := [vI x101_7_315]) (m_X3_sizeOf G H101_315 (crX (P 110 2).toNat 0) rc590 (ck_28_0 (bk_110_2 hB)) ⟨by omega, by omega⟩ hB101_315  _ (fun rc591 hc591 => ⟨rc591, rfl, ?_⟩)) cf_X3_sizeOf t_776 rfl (show kx (crX (P 110 2).toNat 0) 29 from (ck_28_0 (bk_110_2 hB))).1 ((show kx (crX (P 110 2).toNat 0) 29 from (ck_28_0 (bk_110_2 hB))).sh rfl) rfl rfl (Nat.le_of_ble_eq_true rfl) (by decide) rfl dX6_readCon_166
                  refine g_imul dX6_readCon_169 ?_
                  refine g_norm (fun r592 h_r592 e_r592 => ?_)
                  refine g_istore (l1 := [(7, vI r592), (8, vI rc590), (0, vR 110), (1, vR (crX (P 110 2).toNat 0)), (2, vI ((P (crX (P 110 2).toNat 0) 9) - 1)), (3, vI (Pc312 111 7)), (4, vI x101_4_315), (5, vI x101_5_315), (6, vI x101_6_315)]) dX6_readCon_170 (by decide) rfl ?_
                  refine g_aload_n dX6_readCon_172 rfl ?_
                  refine g_iload_n dX6_readCon_173 rfl ?_
                  refine g_vI (av := [vI ((P (crX (P 110 2).toNat 0) 9) - 1)]) (o := (crX (P 110 2).toNat 0)) (st := []) (m_X3_sizeOf G H101_315 (crX (P 110 2).toNat 0) ((P (crX (P 110 2).toNat 0) 9) - 1) (ck_28_0 (bk_110_2 hB)) ⟨by have q0 := bx_29_9 (o := (crX (P 110 2).toNat 0)) hB (ck_28_0 (bk_110_2 hB)); omega, by have q0 := bx_29_9 (o := (crX (P 110 2).toNat 0)) hB (ck_28_0 (bk_110_2 hB)); omega⟩ hB101_315  _ (fun rc593 hc593 => ⟨rc593, rfl, ?_⟩)) cf_X3_sizeOf t_776 rfl (show kx (crX (P 110 2).toNat 0) 29 from (ck_28_0 (bk_110_2 hB))).1 ((show kx (crX (P 110 2).toNat 0) 29 from (ck_28_0 (bk_110_2 hB))).sh rfl) rfl rfl (Nat.le_of_ble_eq_true rfl) (by decide) rfl dX6_readCon_174
                  refine g_iload dX6_readCon_177 rfl ?_
                  refine g_iadd dX6_readCon_179 ?_
                  refine g_norm (fun r594 h_r594 e_r594 => ?_)
                  refine g_sipush dX6_readCon_180 (by decide) ?_
                  refine g_icmp_le (tgt := 199) dX6_readCon_183 (by decide) ⟨by omega, by omega⟩ (by decide) (fun k595 => ?_) (fun k595 => ?_)
                  · refine g_iload dX6_readCon_199 rfl ?_
                    have J215_597 : ∀ (x215_6_597 : Int) (h_x215_6_597 : (-1) ≤ x215_6_597 ∧ x215_6_597 ≤ 3) (x215_5_597 : Int) (h_x215_5_597 : (-1) ≤ x215_5_597 ∧ x215_5_597 ≤ 3), Go WSX G 4 iX6_readCon 215 [(0, vR 110), (1, vR (crX (P 110 2).toNat 0)), (2, vI ((P (crX (P 110 2).toNat 0) 9) - 1)), (3, vI (Pc312 111 7)), (4, vI x101_4_315), (5, vI x215_5_597), (6, vI x215_6_597), (7, vI r592)] [] H101_315 Q := by
                      intro x215_6_597 h_x215_6_597 x215_5_597 h_x215_5_597
                      refine g_iinc (l1 := [(4, vI (x101_4_315 + 1)), (0, vR 110), (1, vR (crX (P 110 2).toNat 0)), (2, vI ((P (crX (P 110 2).toNat 0) 9) - 1)), (3, vI (Pc312 111 7)), (5, vI x215_5_597), (6, vI x215_6_597), (7, vI r592)]) dX6_readCon_215 rfl (by decide) rfl ?_
                      refine g_aload_n dX6_readCon_218 rfl ?_
                      refine x_g45_0 (n := 111) (⟨by decide, rfl⟩ : kx 110 45) ffX6_12 dX6_readCon_219 rfl ?_
                      refine g_vV (av := []) (o := 111) (st := []) (m_X7_step G H101_315  hB101_315 (TX.fr (F := ([(45, 3), (45, 4), (46, 3), (46, 4), (46, 5), (46, 6), (46, 7), (46, 8)], [])) v_TX (FrX.c (FrX.c (FrX.c (FrX.c FrX.rf hFc312 rfl) hFc313 rfl) hFc315 rfl) hE101_315 rfl) rfl) _ (fun Pc599 hBc599 hFc599 => ⟨rfl, ?_⟩)) cf_X7_step t_731 rfl (show kx 111 46 from (⟨by decide, rfl⟩ : kx 111 46)).1 ((show kx 111 46 from (⟨by decide, rfl⟩ : kx 111 46)).sh rfl) rfl rfl (Nat.le_of_ble_eq_true rfl) (by decide) rfl dX6_readCon_222
                      refine g_goto (tgt := 101) dX6_readCon_225 (by decide) ?_
                      refine g_forget (l1 := [(0, vR 110), (1, vR (crX (P 110 2).toNat 0)), (2, vI ((P (crX (P 110 2).toNat 0) 9) - 1)), (3, vI (Pc312 111 7)), (4, vI (x101_4_315 + 1)), (5, vI x215_5_597), (6, vI x215_6_597), (7, vI r592)]) (by intro q hq; simp only [List.mem_cons, List.not_mem_nil, or_false] at hq ⊢; rcases hq with rfl | rfl | rfl | rfl | rfl | rfl | rfl | rfl <;> simp) ?_
                      exact ih101_315 r592 ⟨by omega, by omega⟩ x215_6_597 ⟨by omega, by omega⟩ x215_5_597 ⟨by omega, by omega⟩ (x101_4_315 + 1) ⟨by omega, by omega⟩ _ hBc599 (FrX.c (FrX.c FrX.rf hE101_315 rfl) hFc599 rfl) (by omega)
                    refine g_if_ne (tgt := 211) dX6_readCon_201 (by decide) ⟨by omega, by omega⟩ (fun k600 => ?_) (fun k600 => ?_)
                    · refine g_iload dX6_readCon_211 rfl ?_
                      refine g_istore (l1 := [(6, vI rc590), (7, vI r592), (8, vI rc590), (0, vR 110), (1, vR (crX (P 110 2).toNat 0)), (2, vI ((P (crX (P 110 2).toNat 0) 9) - 1)), (3, vI (Pc312 111 7)), (4, vI x101_4_315), (5, vI x101_5_315)]) dX6_readCon_213 (by decide) rfl ?_
                      refine g_forget (l1 := [(0, vR 110), (1, vR (crX (P 110 2).toNat 0)), (2, vI ((P (crX (P 110 2).toNat 0) 9) - 1)), (3, vI (Pc312 111 7)), (4, vI x101_4_315), (5, vI x101_5_315), (6, vI rc590), (7, vI r592)]) (by intro q hq; simp only [List.mem_cons, List.not_mem_nil, or_false] at hq ⊢; rcases hq with rfl | rfl | rfl | rfl | rfl | rfl | rfl | rfl <;> simp) ?_
                      exact J215_597 rc590 ⟨by omega, by omega⟩ x101_5_315 ⟨by omega, by omega⟩
                    · refine g_iload dX6_readCon_204 rfl ?_
                      refine g_istore (l1 := [(5, vI rc590), (7, vI r592), (8, vI rc590), (0, vR 110), (1, vR (crX (P 110 2).toNat 0)), (2, vI ((P (crX (P 110 2).toNat 0) 9) - 1)), (3, vI (Pc312 111 7)), (4, vI x101_4_315), (6, vI x101_6_315)]) dX6_readCon_206 (by decide) rfl ?_
                      refine g_goto (tgt := 215) dX6_readCon_208 (by decide) ?_
                      refine g_forget (l1 := [(0, vR 110), (1, vR (crX (P 110 2).toNat 0)), (2, vI ((P (crX (P 110 2).toNat 0) 9) - 1)), (3, vI (Pc312 111 7)), (4, vI x101_4_315), (5, vI rc590), (6, vI x101_6_315), (7, vI r592)]) (by intro q hq; simp only [List.mem_cons, List.not_mem_nil, or_false] at hq ⊢; rcases hq with rfl | rfl | rfl | rfl | rfl | rfl | rfl | rfl <;> simp) ?_
                      exact J215_597 x101_6_315 ⟨by omega, by omega⟩ rc590 ⟨by omega, by omega⟩
                  · refine g_aload_n dX6_readCon_186 rfl ?_
                    refine g_iconst dX6_readCon_187 ?_
                    refine g_aload_n dX6_readCon_188 rfl ?_
                    refine x_g45_0 (n := 111) (⟨by decide, rfl⟩ : kx 110 45) ffX6_12 dX6_readCon_189 rfl ?_
                    refine x_g46_5 (z := (H101_315 111 5)) (⟨by decide, rfl⟩ : kx 111 46) ffX6_72 dX6_readCon_192 rfl ?_
                    have f601 := bx_46_5 (o := 111) hB101_315 (⟨by decide, rfl⟩ : kx 111 46)
                    refine g_vI (av := [vI 4, vI (H101_315 111 5)]) (o := 110) (st := []) (m_X6_fail G H101_315 4 (H101_315 111 5) (by decide) ⟨by have q0 := bx_46_5 (o := 111) hB101_315 (⟨by decide, rfl⟩ : kx 111 46); omega, by have q0 := bx_46_5 (o := 111) hB101_315 (⟨by decide, rfl⟩ : kx 111 46); omega⟩ hB101_315  _ (fun rc602 hc602 Pc602 hBc602 hFc602 => ⟨rc602, rfl, ?_⟩)) cf_X6_fail t_727 rfl (show kx 110 45 from (⟨by decide, rfl⟩ : kx 110 45)).1 ((show kx 110 45 from (⟨by decide, rfl⟩ : kx 110 45)).sh rfl) rfl rfl (Nat.le_of_ble_eq_true rfl) (by decide) rfl dX6_readCon_195
                    exact g_retZ dX6_readCon_198 rfl (by omega) (hQ rc602 ⟨by omega, by omega⟩ _ hBc602 (FrX.c (FrX.c (FrX.c (FrX.c (FrX.c FrX.rf hFc312 rfl) hFc313 rfl) hFc315 rfl) hE101_315 rfl) hFc602 rfl) )
                · refine g_aload_n dX6_readCon_142 rfl ?_
                  refine g_iconst dX6_readCon_143 ?_
                  refine g_aload_n dX6_readCon_144 rfl ?_
                  refine x_g45_0 (n := 111) (⟨by decide, rfl⟩ : kx 110 45) ffX6_12 dX6_readCon_145 rfl ?_
                  refine x_g46_5 (z := (H101_315 111 5)) (⟨by decide, rfl⟩ : kx 111 46) ffX6_72 dX6_readCon_148 rfl ?_
                  have f603 := bx_46_5 (o := 111) hB101_315 (⟨by decide, rfl⟩ : kx 111 46)
                  refine g_vI (av := [vI 3, vI (H101_315 111 5)]) (o := 110) (st := []) (m_X6_fail G H101_315 3 (H101_315 111 5) (by decide) ⟨by have q0 := bx_46_5 (o := 111) hB101_315 (⟨by decide, rfl⟩ : kx 111 46); omega, by have q0 := bx_46_5 (o := 111) hB101_315 (⟨by decide, rfl⟩ : kx 111 46); omega⟩ hB101_315  _ (fun rc604 hc604 Pc604 hBc604 hFc604 => ⟨rc604, rfl, ?_⟩)) cf_X6_fail t_727 rfl (show kx 110 45 from (⟨by decide, rfl⟩ : kx 110 45)).1 ((show kx 110 45 from (⟨by decide, rfl⟩ : kx 110 45)).sh rfl) rfl rfl (Nat.le_of_ble_eq_true rfl) (by decide) rfl dX6_readCon_151
                  exact g_retZ dX6_readCon_154 rfl (by omega) (hQ rc604 ⟨by omega, by omega⟩ _ hBc604 (FrX.c (FrX.c (FrX.c (FrX.c (FrX.c FrX.rf hFc312 rfl) hFc313 rfl) hFc315 rfl) hE101_315 rfl) hFc604 rfl) )
              · refine g_aload_n dX6_readCon_120 rfl ?_
                refine g_bipush dX6_readCon_121 (by decide) ?_
                refine g_aload_n dX6_readCon_123 rfl ?_
                refine x_g45_0 (n := 111) (⟨by decide, rfl⟩ : kx 110 45) ffX6_12 dX6_readCon_124 rfl ?_
                refine x_g46_5 (z := (H101_315 111 5)) (⟨by decide, rfl⟩ : kx 111 46) ffX6_72 dX6_readCon_127 rfl ?_
                have f605 := bx_46_5 (o := 111) hB101_315 (⟨by decide, rfl⟩ : kx 111 46)
                refine g_vI (av := [vI 6, vI (H101_315 111 5)]) (o := 110) (st := []) (m_X6_fail G H101_315 6 (H101_315 111 5) (by decide) ⟨by have q0 := bx_46_5 (o := 111) hB101_315 (⟨by decide, rfl⟩ : kx 111 46); omega, by have q0 := bx_46_5 (o := 111) hB101_315 (⟨by decide, rfl⟩ : kx 111 46); omega⟩ hB101_315  _ (fun rc606 hc606 Pc606 hBc606 hFc606 => ⟨rc606, rfl, ?_⟩)) cf_X6_fail t_727 rfl (show kx 110 45 from (⟨by decide, rfl⟩ : kx 110 45)).1 ((show kx 110 45 from (⟨by decide, rfl⟩ : kx 110 45)).sh rfl) rfl rfl (Nat.le_of_ble_eq_true rfl) (by decide) rfl dX6_readCon_130
                exact g_retZ dX6_readCon_133 rfl (by omega) (hQ rc606 ⟨by omega, by omega⟩ _ hBc606 (FrX.c (FrX.c (FrX.c (FrX.c (FrX.c FrX.rf hFc312 rfl) hFc313 rfl) hFc315 rfl) hE101_315 rfl) hFc606 rfl) )
          refine g_forget (l1 := [(0, vR 110), (1, vR (crX (P 110 2).toNat 0)), (2, vI ((P (crX (P 110 2).toNat 0) 9) - 1)), (3, vI (Pc312 111 7)), (4, vI 0), (5, vI (-1)), (6, vI (-1)), (7, vI 1)]) (by intro q hq; simp only [List.mem_cons, List.not_mem_nil, or_false] at hq ⊢; rcases hq with rfl | rfl | rfl | rfl | rfl | rfl | rfl | rfl <;> simp) ?_
          exact L101_315 _ 1 (by decide) (-1) (by decide) (-1) (by decide) 0 (by decide) _ hBc315 FrX.rf (Nat.lt_succ_self _)
        · refine g_iconst dX6_readCon_72 ?_
          exact g_retZ dX6_readCon_73 rfl (by decide) (hQ 0 (by decide) _ hBc313 (FrX.c (FrX.c FrX.rf hFc312 rfl) hFc313 rfl) )
      · refine g_aload_n dX6_readCon_44 rfl ?_
        refine g_bipush dX6_readCon_45 (by decide) ?_
        refine g_aload_n dX6_readCon_47 rfl ?_
        refine x_g45_0 (n := 111) (⟨by decide, rfl⟩ : kx 110 45) ffX6_12 dX6_readCon_48 rfl ?_
        refine x_g46_5 (z := (P 111 5)) (⟨by decide, rfl⟩ : kx 111 46) ffX6_72 dX6_readCon_51 rfl ?_
        have f607 := bx_46_5 (o := 111) hB (⟨by decide, rfl⟩ : kx 111 46)
        refine g_vI (av := [vI 6, vI (P 111 5)]) (o := 110) (st := []) (m_X6_fail G P 6 (P 111 5) (by decide) ⟨by have q0 := bx_46_5 (o := 111) hB (⟨by decide, rfl⟩ : kx 111 46); omega, by have q0 := bx_46_5 (o := 111) hB (⟨by decide, rfl⟩ : kx 111 46); omega⟩ hB  _ (fun rc608 hc608 Pc608 hBc608 hFc608 => ⟨rc608, rfl, ?_⟩)) cf_X6_fail t_727 rfl (show kx 110 45 from (⟨by decide, rfl⟩ : kx 110 45)).1 ((show kx 110 45 from (⟨by decide, rfl⟩ : kx 110 45)).sh rfl) rfl rfl (Nat.le_of_ble_eq_true rfl) (by decide) rfl dX6_readCon_54
        exact g_retZ dX6_readCon_57 rfl (by omega) (hQ rc608 ⟨by omega, by omega⟩ _ hBc608 (FrX.c FrX.rf hFc608 rfl) )
    · refine g_forget (l1 := [(0, vR 110)]) (by intro q hq; simp only [List.mem_cons, List.not_mem_nil, or_false] at hq ⊢; rcases hq with rfl <;> simp) ?_
      exact J29_304 trivial
set_option maxRecDepth 100000 in
set_option maxHeartbeats 4000000 in
theorem m_X6_readColumns (G : GT) (P : PH) (hB : BdX P) (v_TX : TX P) (Q : Option PV → PH → Prop) (hQ : ∀ (r : Int) (_ : 0 ≤ r ∧ r ≤ 1) (P1 : PH) (_ : BdX P1) (_ : FrX ([(28, 6), (28, 7), (45, 3), (45, 4), (46, 3), (46, 4), (46, 5), (46, 6), (46, 7), (46, 8)], [39, 40, 41, 44]) P P1), Q (some (vI r)) P1) : Ct WSX G 4 iX6_readColumns [vR 110] P Q := by
  refine Ct.of (by decide) (l0 := [(0, vR 110)]) rfl (Nat.le_of_ble_eq_true rfl) ?_
  refine g_aload_n dX6_readColumns_0 rfl ?_
  refine x_g45_2 (n := (P 110 2).toNat) (⟨by decide, rfl⟩ : kx 110 45) ffX6_27 dX6_readColumns_1 (br_110_2 hB) ?_
  refine x_g28_6 (z := (P (P 110 2).toNat 6)) (bk_110_2 hB) ffX6_79 dX6_readColumns_4 rfl ?_
  have f1 := bx_28_6 (o := (P 110 2).toNat) hB (bk_110_2 hB)
  refine g_if_le (tgt := 24) dX6_readColumns_7 (by decide) ⟨by have q0 := bx_28_6 (o := (P 110 2).toNat) hB (bk_110_2 hB); omega, by have q0 := bx_28_6 (o := (P 110 2).toNat) hB (bk_110_2 hB); omega⟩ (fun k2 => ?_) (fun k2 => ?_)
  · refine g_aload_n dX6_readColumns_24 rfl ?_
    refine x_g45_0 (n := 111) (⟨by decide, rfl⟩ : kx 110 45) ffX6_12 dX6_readColumns_25 rfl ?_
    refine g_vV (av := []) (o := 111) (st := []) (m_X7_step G P  hB v_TX _ (fun Pc3 hBc3 hFc3 => ⟨rfl, ?_⟩)) cf_X7_step t_731 rfl (show kx 111 46 from (⟨by decide, rfl⟩ : kx 111 46)).1 ((show kx 111 46 from (⟨by decide, rfl⟩ : kx 111 46)).sh rfl) rfl rfl (Nat.le_of_ble_eq_true rfl) (by decide) rfl dX6_readColumns_28
    refine g_aload_n dX6_readColumns_31 rfl ?_
    refine g_vI (av := []) (o := 110) (st := []) (m_X6_isKindWord G Pc3  hBc3  _ (fun rc4 hc4 => ⟨rc4, rfl, ?_⟩)) cf_X6_isKindWord t_764 rfl (show kx 110 45 from (⟨by decide, rfl⟩ : kx 110 45)).1 ((show kx 110 45 from (⟨by decide, rfl⟩ : kx 110 45)).sh rfl) rfl rfl (Nat.le_of_ble_eq_true rfl) (by decide) rfl dX6_readColumns_32
    refine g_if_ne (tgt := 43) dX6_readColumns_35 (by decide) ⟨by omega, by omega⟩ (fun k5 => ?_) (fun k5 => ?_)
    · refine g_iconst dX6_readColumns_43 ?_
      refine g_istore_n (l1 := [(1, vI 1), (0, vR 110)]) dX6_readColumns_44 (by decide) rfl ?_
      refine g_iconst dX6_readColumns_45 ?_
      refine g_istore_n (l1 := [(2, vI 0), (1, vI 1), (0, vR 110)]) dX6_readColumns_46 (by decide) rfl ?_
      have L47_5 : ∀ (n47_5 : Nat) (x47_2_5 : Int) (h_x47_2_5 : 0 ≤ x47_2_5 ∧ x47_2_5 ≤ 4) (x47_1_5 : Int) (h_x47_1_5 : (-2147483648) ≤ x47_1_5 ∧ x47_1_5 ≤ 20000) (H47_5 : PH) (hB47_5 : BdX H47_5) (hE47_5 : FrX ([(28, 6), (28, 7), (46, 3), (46, 4), (46, 5), (46, 6), (46, 7), (46, 8)], [39, 40, 41, 44]) Pc3 H47_5) (hm47_5 : ((5 - x47_2_5) : Int).toNat < n47_5), Go WSX G 4 iX6_readColumns 47 [(0, vR 110), (1, vI x47_1_5), (2, vI x47_2_5)] [] H47_5 Q := by
        intro n47_5
        induction n47_5 with
        | zero => intro x47_2_5 h_x47_2_5 x47_1_5 h_x47_1_5 H47_5 hB47_5 hE47_5 hm47_5; exact absurd hm47_5 (Nat.not_lt_zero _)
        | succ n47_5 ih47_5 =>
        intro x47_2_5 h_x47_2_5 x47_1_5 h_x47_1_5 H47_5 hB47_5 hE47_5 hm47_5
        refine g_iload_n dX6_readColumns_47 rfl ?_
        refine g_iconst dX6_readColumns_48 ?_
        refine g_icmp_gt (tgt := 159) dX6_readColumns_49 (by decide) ⟨by omega, by omega⟩ (by decide) (fun k124 => by exfalso; omega) (fun k124 => ?_)
        refine g_aload_n dX6_readColumns_52 rfl ?_
        refine g_vI (av := []) (o := 110) (st := []) (m_X6_isKindWord G H47_5  hB47_5  _ (fun rc125 hc125 => ⟨rc125, rfl, ?_⟩)) cf_X6_isKindWord t_764 rfl (show kx 110 45 from (⟨by decide, rfl⟩ : kx 110 45)).1 ((show kx 110 45 from (⟨by decide, rfl⟩ : kx 110 45)).sh rfl) rfl rfl (Nat.le_of_ble_eq_true rfl) (by decide) rfl dX6_readColumns_53
        refine g_if_eq (tgt := 159) dX6_readColumns_56 (by decide) ⟨by omega, by omega⟩ (fun k126 => ?_) (fun k126 => ?_)
        · refine g_iconst dX6_readColumns_159 ?_
          exact g_retZ dX6_readColumns_160 rfl (by decide) (hQ 1 (by decide) _ hB47_5 (FrX.c (FrX.c FrX.rf hFc3 rfl) hE47_5 rfl) )
        · refine g_iload_n dX6_readColumns_59 rfl ?_
          refine g_iconst dX6_readColumns_60 ?_
          refine g_icmp_ne (tgt := 78) dX6_readColumns_61 (by decide) ⟨by omega, by omega⟩ (by decide) (fun k127 => ?_) (fun k127 => ?_)
          · refine g_aload_n dX6_readColumns_78 rfl ?_
            refine g_iconst dX6_readColumns_79 ?_
            refine g_vI (av := [vI (-1)]) (o := 110) (st := []) (m_X6_isKindHere G H47_5 (-1) (by decide) hB47_5  _ (fun rc128 hc128 => ⟨rc128, rfl, ?_⟩)) cf_X6_isKindHere t_768 rfl (show kx 110 45 from (⟨by decide, rfl⟩ : kx 110 45)).1 ((show kx 110 45 from (⟨by decide, rfl⟩ : kx 110 45)).sh rfl) rfl rfl (Nat.le_of_ble_eq_true rfl) (by decide) rfl dX6_readColumns_80
            refine g_if_ne (tgt := 99) dX6_readColumns_83 (by decide) ⟨by omega, by omega⟩ (fun k129 => ?_) (fun k129 => ?_)
            · refine g_aload_n dX6_readColumns_99 rfl ?_
              refine g_vI (av := []) (o := 110) (st := []) (m_X6_kindHere G H47_5  hB47_5  _ (fun rc130 hc130 => ⟨rc130, rfl, ?_⟩)) cf_X6_kindHere t_772 rfl (show kx 110 45 from (⟨by decide, rfl⟩ : kx 110 45)).1 ((show kx 110 45 from (⟨by decide, rfl⟩ : kx 110 45)).sh rfl) rfl rfl (Nat.le_of_ble_eq_true rfl) (by decide) rfl dX6_readColumns_100
              refine g_istore_n (l1 := [(3, vI rc130), (0, vR 110), (1, vI x47_1_5), (2, vI x47_2_5)]) dX6_readColumns_103 (by decide) rfl ?_
              refine g_iload_n dX6_readColumns_104 rfl ?_
              refine g_aload_n dX6_readColumns_105 rfl ?_
              refine x_g45_2 (n := (P 110 2).toNat) (⟨by decide, rfl⟩ : kx 110 45) ffX6_27 dX6_readColumns_106 ((FrX.g hE47_5 (⟨by decide, rfl⟩ : kx 110 45) rfl).trans ((FrX.g hFc3 (⟨by decide, rfl⟩ : kx 110 45) rfl).trans (br_110_2 hB))) ?_
              refine x_g28_0 (n := (crX (P 110 2).toNat 0)) (bk_110_2 hB) ffX6_108 dX6_readColumns_109 rfl ?_
              refine g_iload_n dX6_readColumns_112 rfl ?_
              refine g_vI (av := [vI rc130]) (o := (crX (P 110 2).toNat 0)) (st := [vI x47_1_5]) (m_X3_sizeOf G H47_5 (crX (P 110 2).toNat 0) rc130 (ck_28_0 (bk_110_2 hB)) ⟨by omega, by omega⟩ hB47_5  _ (fun rc131 hc131 => ⟨rc131, rfl, ?_⟩)) cf_X3_sizeOf t_776 rfl (show kx (crX (P 110 2).toNat 0) 29 from (ck_28_0 (bk_110_2 hB))).1 ((show kx (crX (P 110 2).toNat 0) 29 from (ck_28_0 (bk_110_2 hB))).sh rfl) rfl rfl (Nat.le_of_ble_eq_true rfl) (by decide) rfl dX6_readColumns_113
              refine g_imul dX6_readColumns_116 ?_
              refine g_norm (fun r132 h_r132 e_r132 => ?_)
              refine g_istore_n (l1 := [(1, vI r132), (3, vI rc130), (0, vR 110), (2, vI x47_2_5)]) dX6_readColumns_117 (by decide) rfl ?_
              refine g_iload_n dX6_readColumns_118 rfl ?_
              refine g_sipush dX6_readColumns_119 (by decide) ?_
              refine g_icmp_le (tgt := 138) dX6_readColumns_122 (by decide) ⟨by omega, by omega⟩ (by decide) (fun k133 => ?_) (fun k133 => ?_)
              · refine g_aload_n dX6_readColumns_138 rfl ?_
                refine x_g45_2 (n := (P 110 2).toNat) (⟨by decide, rfl⟩ : kx 110 45) ffX6_27 dX6_readColumns_139 ((FrX.g hE47_5 (⟨by decide, rfl⟩ : kx 110 45) rfl).trans ((FrX.g hFc3 (⟨by decide, rfl⟩ : kx 110 45) rfl).trans (br_110_2 hB))) ?_
                refine g_iload_n dX6_readColumns_142 rfl ?_
                refine g_vV (av := [vI rc130]) (o := (P 110 2).toNat) (st := []) (m_X9_addColumn G H47_5 (P 110 2).toNat rc130 (bk_110_2 hB) ⟨by omega, by omega⟩ hB47_5  _ (fun Pc134 hBc134 hFc134 => ⟨rfl, ?_⟩)) cf_X9_addColumn t_788 rfl (show kx (P 110 2).toNat 28 from (bk_110_2 hB)).1 ((show kx (P 110 2).toNat 28 from (bk_110_2 hB)).sh rfl) rfl rfl (Nat.le_of_ble_eq_true rfl) (by decide) rfl dX6_readColumns_143
                refine g_aload_n dX6_readColumns_146 rfl ?_
                refine x_g45_0 (n := 111) (⟨by decide, rfl⟩ : kx 110 45) ffX6_12 dX6_readColumns_147 rfl ?_
                refine g_vV (av := []) (o := 111) (st := []) (m_X7_step G Pc134  hBc134 (TX.fr (F := ([(28, 6), (28, 7), (46, 3), (46, 4), (46, 5), (46, 6), (46, 7), (46, 8)], [39, 40, 41, 44])) v_TX (FrX.c (FrX.c (FrX.c FrX.rf hFc3 rfl) hE47_5 rfl) hFc134 rfl) rfl) _ (fun Pc135 hBc135 hFc135 => ⟨rfl, ?_⟩)) cf_X7_step t_731 rfl (show kx 111 46 from (⟨by decide, rfl⟩ : kx 111 46)).1 ((show kx 111 46 from (⟨by decide, rfl⟩ : kx 111 46)).sh rfl) rfl rfl (Nat.le_of_ble_eq_true rfl) (by decide) rfl dX6_readColumns_150
                refine g_iinc (l1 := [(2, vI (x47_2_5 + 1)), (1, vI r132), (3, vI rc130), (0, vR 110)]) dX6_readColumns_153 rfl (by decide) rfl ?_
                refine g_goto (tgt := 47) dX6_readColumns_156 (by decide) ?_
                refine g_forget (l1 := [(0, vR 110), (1, vI r132), (2, vI (x47_2_5 + 1))]) (by intro q hq; simp only [List.mem_cons, List.not_mem_nil, or_false] at hq ⊢; rcases hq with rfl | rfl | rfl <;> simp) ?_
                exact ih47_5 (x47_2_5 + 1) ⟨by omega, by omega⟩ r132 ⟨by omega, by omega⟩ _ hBc135 (FrX.c (FrX.c (FrX.c FrX.rf hE47_5 rfl) hFc134 rfl) hFc135 rfl) (by omega)
              · refine g_aload_n dX6_readColumns_125 rfl ?_
                refine g_iconst dX6_readColumns_126 ?_
                refine g_aload_n dX6_readColumns_127 rfl ?_
                refine x_g45_0 (n := 111) (⟨by decide, rfl⟩ : kx 110 45) ffX6_12 dX6_readColumns_128 rfl ?_
                refine x_g46_5 (z := (H47_5 111 5)) (⟨by decide, rfl⟩ : kx 111 46) ffX6_72 dX6_readColumns_131 rfl ?_
                have f136 := bx_46_5 (o := 111) hB47_5 (⟨by decide, rfl⟩ : kx 111 46)
                refine g_vI (av := [vI 4, vI (H47_5 111 5)]) (o := 110) (st := []) (m_X6_fail G H47_5 4 (H47_5 111 5) (by decide) ⟨by have q0 := bx_46_5 (o := 111) hB47_5 (⟨by decide, rfl⟩ : kx 111 46); omega, by have q0 := bx_46_5 (o := 111) hB47_5 (⟨by decide, rfl⟩ : kx 111 46); omega⟩ hB47_5  _ (fun rc137 hc137 Pc137 hBc137 hFc137 => ⟨rc137, rfl, ?_⟩)) cf_X6_fail t_727 rfl (show kx 110 45 from (⟨by decide, rfl⟩ : kx 110 45)).1 ((show kx 110 45 from (⟨by decide, rfl⟩ : kx 110 45)).sh rfl) rfl rfl (Nat.le_of_ble_eq_true rfl) (by decide) rfl dX6_readColumns_134
                exact g_retZ dX6_readColumns_137 rfl (by omega) (hQ rc137 ⟨by omega, by omega⟩ _ hBc137 (FrX.c (FrX.c (FrX.c FrX.rf hFc3 rfl) hE47_5 rfl) hFc137 rfl) )
            · refine g_aload_n dX6_readColumns_86 rfl ?_
              refine g_iconst dX6_readColumns_87 ?_
              refine g_aload_n dX6_readColumns_88 rfl ?_
              refine x_g45_0 (n := 111) (⟨by decide, rfl⟩ : kx 110 45) ffX6_12 dX6_readColumns_89 rfl ?_
              refine x_g46_5 (z := (H47_5 111 5)) (⟨by decide, rfl⟩ : kx 111 46) ffX6_72 dX6_readColumns_92 rfl ?_
              have f138 := bx_46_5 (o := 111) hB47_5 (⟨by decide, rfl⟩ : kx 111 46)
              refine g_vI (av := [vI 3, vI (H47_5 111 5)]) (o := 110) (st := []) (m_X6_fail G H47_5 3 (H47_5 111 5) (by decide) ⟨by have q0 := bx_46_5 (o := 111) hB47_5 (⟨by decide, rfl⟩ : kx 111 46); omega, by have q0 := bx_46_5 (o := 111) hB47_5 (⟨by decide, rfl⟩ : kx 111 46); omega⟩ hB47_5  _ (fun rc139 hc139 Pc139 hBc139 hFc139 => ⟨rc139, rfl, ?_⟩)) cf_X6_fail t_727 rfl (show kx 110 45 from (⟨by decide, rfl⟩ : kx 110 45)).1 ((show kx 110 45 from (⟨by decide, rfl⟩ : kx 110 45)).sh rfl) rfl rfl (Nat.le_of_ble_eq_true rfl) (by decide) rfl dX6_readColumns_95
              exact g_retZ dX6_readColumns_98 rfl (by omega) (hQ rc139 ⟨by omega, by omega⟩ _ hBc139 (FrX.c (FrX.c (FrX.c FrX.rf hFc3 rfl) hE47_5 rfl) hFc139 rfl) )
          · refine g_aload_n dX6_readColumns_64 rfl ?_
            refine g_bipush dX6_readColumns_65 (by decide) ?_
            refine g_aload_n dX6_readColumns_67 rfl ?_
            refine x_g45_0 (n := 111) (⟨by decide, rfl⟩ : kx 110 45) ffX6_12 dX6_readColumns_68 rfl ?_
            refine x_g46_5 (z := (H47_5 111 5)) (⟨by decide, rfl⟩ : kx 111 46) ffX6_72 dX6_readColumns_71 rfl ?_
            have f140 := bx_46_5 (o := 111) hB47_5 (⟨by decide, rfl⟩ : kx 111 46)
            refine g_vI (av := [vI 6, vI (H47_5 111 5)]) (o := 110) (st := []) (m_X6_fail G H47_5 6 (H47_5 111 5) (by decide) ⟨by have q0 := bx_46_5 (o := 111) hB47_5 (⟨by decide, rfl⟩ : kx 111 46); omega, by have q0 := bx_46_5 (o := 111) hB47_5 (⟨by decide, rfl⟩ : kx 111 46); omega⟩ hB47_5  _ (fun rc141 hc141 Pc141 hBc141 hFc141 => ⟨rc141, rfl, ?_⟩)) cf_X6_fail t_727 rfl (show kx 110 45 from (⟨by decide, rfl⟩ : kx 110 45)).1 ((show kx 110 45 from (⟨by decide, rfl⟩ : kx 110 45)).sh rfl) rfl rfl (Nat.le_of_ble_eq_true rfl) (by decide) rfl dX6_readColumns_74
            exact g_retZ dX6_readColumns_77 rfl (by omega) (hQ rc141 ⟨by omega, by omega⟩ _ hBc141 (FrX.c (FrX.c (FrX.c FrX.rf hFc3 rfl) hE47_5 rfl) hFc141 rfl) )
      refine g_forget (l1 := [(0, vR 110), (1, vI 1), (2, vI 0)]) (by intro q hq; simp only [List.mem_cons, List.not_mem_nil, or_false] at hq ⊢; rcases hq with rfl | rfl | rfl <;> simp) ?_
      exact L47_5 _ 0 (by decide) 1 (by decide) _ hBc3 FrX.rf (Nat.lt_succ_self _)
    · refine g_aload_n dX6_readColumns_38 rfl ?_
      refine g_vI (av := []) (o := 110) (st := []) (m_X6_failHere G Pc3  hBc3  _ (fun rc142 hc142 Pc142 hBc142 hFc142 => ⟨rc142, rfl, ?_⟩)) cf_X6_failHere t_723 rfl (show kx 110 45 from (⟨by decide, rfl⟩ : kx 110 45)).1 ((show kx 110 45 from (⟨by decide, rfl⟩ : kx 110 45)).sh rfl) rfl rfl (Nat.le_of_ble_eq_true rfl) (by decide) rfl dX6_readColumns_39
      exact g_retZ dX6_readColumns_42 rfl (by omega) (hQ rc142 ⟨by omega, by omega⟩ _ hBc142 (FrX.c (FrX.c FrX.rf hFc3 rfl) hFc142 rfl) )
  · refine g_aload_n dX6_readColumns_10 rfl ?_
    refine g_bipush dX6_readColumns_11 (by decide) ?_
    refine g_aload_n dX6_readColumns_13 rfl ?_
    refine x_g45_0 (n := 111) (⟨by decide, rfl⟩ : kx 110 45) ffX6_12 dX6_readColumns_14 rfl ?_
    refine x_g46_5 (z := (P 111 5)) (⟨by decide, rfl⟩ : kx 111 46) ffX6_72 dX6_readColumns_17 rfl ?_
    have f143 := bx_46_5 (o := 111) hB (⟨by decide, rfl⟩ : kx 111 46)
    refine g_vI (av := [vI 6, vI (P 111 5)]) (o := 110) (st := []) (m_X6_fail G P 6 (P 111 5) (by decide) ⟨by have q0 := bx_46_5 (o := 111) hB (⟨by decide, rfl⟩ : kx 111 46); omega, by have q0 := bx_46_5 (o := 111) hB (⟨by decide, rfl⟩ : kx 111 46); omega⟩ hB  _ (fun rc144 hc144 Pc144 hBc144 hFc144 => ⟨rc144, rfl, ?_⟩)) cf_X6_fail t_727 rfl (show kx 110 45 from (⟨by decide, rfl⟩ : kx 110 45)).1 ((show kx 110 45 from (⟨by decide, rfl⟩ : kx 110 45)).sh rfl) rfl rfl (Nat.le_of_ble_eq_true rfl) (by decide) rfl dX6_readColumns_20
    exact g_retZ dX6_readColumns_23 rfl (by omega) (hQ rc144 ⟨by omega, by omega⟩ _ hBc144 (FrX.c FrX.rf hFc144 rfl) )
set_option maxRecDepth 100000 in
set_option maxHeartbeats 4000000 in
theorem m_X6_fill (G : GT) (P : PH) (o1 : Nat) (a1 : Int) (a2 : Int) (a3 : Int) (k_o1 : kx o1 50) (h_a1 : (-2147483648) ≤ a1 ∧ a1 ≤ 2147483647) (h_a2 : (-2147483648) ≤ a2 ∧ a2 ≤ 2147483647) (h_a3 : (-2147483648) ≤ a3 ∧ a3 ≤ 2147483647) (hB : BdX P) (Q : Option PV → PH → Prop) (hQ : ∀ (P1 : PH) (_ : BdX P1) (_ : FrX ([], [50]) P P1), Q none P1) : Ct WSX G 2 iX6_fill [vR o1, vI a1, vI a2, vI a3] P Q := by
  refine Ct.of (by decide) (l0 := [(0, vR o1), (1, vI a1), (2, vI a2), (3, vI a3)]) rfl (Nat.le_of_ble_eq_true rfl) ?_
  refine g_iload_n dX6_fill_0 rfl ?_
  refine g_iconst dX6_fill_1 ?_
  refine g_sI (av := [vI a1, vI 0]) (st := []) (m_J9_max_7cf53 G P a1 0 ⟨by omega, by omega⟩ (by decide) hB  _ (fun rc1 hc1 gc1_m => ⟨rc1, rfl, ?_⟩)) cf_J9_max_7cf53 t_811 rfl (Nat.le_of_ble_eq_true rfl) (by decide) rfl dX6_fill_2
  refine g_istore (l1 := [(4, vI rc1), (0, vR o1), (1, vI a1), (2, vI a2), (3, vI a3)]) dX6_fill_5 (by decide) rfl ?_
  have L7_1 : ∀ (n7_1 : Nat) (x7_4_1 : Int) (h_x7_4_1 : 0 ≤ x7_4_1 ∧ x7_4_1 ≤ 2147483647) (H7_1 : PH) (hB7_1 : BdX H7_1) (hE7_1 : FrX ([], [50]) P H7_1) (hm7_1 : ((2147483648 - x7_4_1) : Int).toNat < n7_1), Go WSX G 2 iX6_fill 7 [(0, vR o1), (2, vI a2), (3, vI a3), (4, vI x7_4_1)] [] H7_1 Q := by
    intro n7_1
    induction n7_1 with
    | zero => intro x7_4_1 h_x7_4_1 H7_1 hB7_1 hE7_1 hm7_1; exact absurd hm7_1 (Nat.not_lt_zero _)
    | succ n7_1 ih7_1 =>
    intro x7_4_1 h_x7_4_1 H7_1 hB7_1 hE7_1 hm7_1
    refine g_iload dX6_fill_7 rfl ?_
    refine g_iload_n dX6_fill_9 rfl ?_
    refine g_icmp_gt (tgt := 31) dX6_fill_10 (by decide) ⟨by omega, by omega⟩ ⟨by omega, by omega⟩ (fun k15 => ?_) (fun k15 => ?_)
    · exact g_retV dX6_fill_31 rfl (hQ _ hB7_1 (FrX.c FrX.rf hE7_1 rfl) )
    · refine g_iload dX6_fill_13 rfl ?_
      refine g_aload_n dX6_fill_15 rfl ?_
      refine x_n50 k_o1 dX6_fill_16 ?_
      refine g_icmp_ge (tgt := 31) dX6_fill_17 (by decide) ⟨by omega, by omega⟩ (by decide) (fun k16 => ?_) (fun k16 => ?_)
      · exact g_retV dX6_fill_31 rfl (hQ _ hB7_1 (FrX.c FrX.rf hE7_1 rfl) )
      · refine g_aload_n dX6_fill_20 rfl ?_
        refine g_iload dX6_fill_21 rfl ?_
        refine g_iload_n dX6_fill_23 rfl ?_
        refine x_s50 k_o1 dX6_fill_24 ⟨by omega, by omega⟩ ?_
        have hB17 := by_50 (z := a3) (k := x7_4_1) hB7_1 k_o1 ⟨by omega, by omega⟩
        refine g_iinc (l1 := [(4, vI (x7_4_1 + 1)), (0, vR o1), (2, vI a2), (3, vI a3)]) dX6_fill_25 rfl (by decide) rfl ?_
        refine g_goto (tgt := 7) dX6_fill_28 (by decide) ?_
        refine g_forget (l1 := [(0, vR o1), (2, vI a2), (3, vI a3), (4, vI (x7_4_1 + 1))]) (by intro q hq; simp only [List.mem_cons, List.not_mem_nil, or_false] at hq ⊢; rcases hq with rfl | rfl | rfl | rfl <;> simp) ?_
        exact ih7_1 (x7_4_1 + 1) ⟨by omega, by omega⟩ _ hB17 (FrX.s (FrX.c FrX.rf hE7_1 rfl) k_o1 rfl) (by omega)
  refine g_forget (l1 := [(0, vR o1), (2, vI a2), (3, vI a3), (4, vI rc1)]) (by intro q hq; simp only [List.mem_cons, List.not_mem_nil, or_false] at hq ⊢; rcases hq with rfl | rfl | rfl | rfl <;> simp) ?_
  exact L7_1 _ rc1 ⟨by omega, by omega⟩ _ hB FrX.rf (Nat.lt_succ_self _)
set_option maxRecDepth 100000 in
set_option maxHeartbeats 4000000 in
theorem m_X6_readRange (G : GT) (P : PH) (a1 : Int) (h_a1 : 0 ≤ a1 ∧ a1 ≤ 9) (hB : BdX P) (v_TX : TX P) (Q : Option PV → PH → Prop) (hQ : ∀ (r : Int) (_ : 0 ≤ r ∧ r ≤ 1) (P1 : PH) (_ : BdX P1) (_ : FrX ([(45, 3), (45, 4), (46, 3), (46, 4), (46, 5), (46, 6), (46, 7), (46, 8)], [50]) P P1), Q (some (vI r)) P1) : Ct WSX G 4 iX6_readRange [vR 110, vI a1] P Q := by
  refine Ct.of (by decide) (l0 := [(0, vR 110), (1, vI a1)]) rfl (Nat.le_of_ble_eq_true rfl) ?_
  refine g_aload_n dX6_readRange_0 rfl ?_
  refine x_g45_0 (n := 111) (⟨by decide, rfl⟩ : kx 110 45) ffX6_12 dX6_readRange_1 rfl ?_
  refine x_g46_8 (z := (P 111 8)) (⟨by decide, rfl⟩ : kx 111 46) ffX6_43 dX6_readRange_4 rfl ?_
  refine g_bipush dX6_readRange_7 (by decide) ?_
  have f1 := bx_46_8 (o := 111) hB (⟨by decide, rfl⟩ : kx 111 46)
  refine g_icmp_ne (tgt := 34) dX6_readRange_9 (by decide) ⟨by have q0 := bx_46_8 (o := 111) hB (⟨by decide, rfl⟩ : kx 111 46); omega, by have q0 := bx_46_8 (o := 111) hB (⟨by decide, rfl⟩ : kx 111 46); omega⟩ (by decide) (fun k2 => ?_) (fun k2 => ?_)
  · refine g_aload_n dX6_readRange_34 rfl ?_
    refine g_iconst dX6_readRange_35 ?_
    refine g_bipush dX6_readRange_36 (by decide) ?_
    refine g_vI (av := [vI 0, vI 19]) (o := 110) (st := []) (m_X6_readNumber G P 0 19 (by decide) (by decide) hB v_TX _ (fun rc3 hc3 Pc3 hBc3 hFc3 => ⟨rc3, rfl, ?_⟩)) cf_X6_readNumber t_816 rfl (show kx 110 45 from (⟨by decide, rfl⟩ : kx 110 45)).1 ((show kx 110 45 from (⟨by decide, rfl⟩ : kx 110 45)).sh rfl) rfl rfl (Nat.le_of_ble_eq_true rfl) (by decide) rfl dX6_readRange_38
    refine g_istore_n (l1 := [(2, vI rc3), (0, vR 110), (1, vI a1)]) dX6_readRange_41 (by decide) rfl ?_
    refine g_iload_n dX6_readRange_42 rfl ?_
    refine g_iconst dX6_readRange_43 ?_
    refine g_icmp_ne (tgt := 49) dX6_readRange_44 (by decide) ⟨by omega, by omega⟩ (by decide) (fun k4 => ?_) (fun k4 => ?_)
    · refine g_iload_n dX6_readRange_49 rfl ?_
      refine g_istore_n (l1 := [(3, vI rc3), (2, vI rc3), (0, vR 110), (1, vI a1)]) dX6_readRange_50 (by decide) rfl ?_
      refine g_aload_n dX6_readRange_51 rfl ?_
      refine x_g45_0 (n := 111) (⟨by decide, rfl⟩ : kx 110 45) ffX6_12 dX6_readRange_52 rfl ?_
      refine x_g46_8 (z := (Pc3 111 8)) (⟨by decide, rfl⟩ : kx 111 46) ffX6_43 dX6_readRange_55 rfl ?_
      refine g_bipush dX6_readRange_58 (by decide) ?_
      have f5 := bx_46_8 (o := 111) hBc3 (⟨by decide, rfl⟩ : kx 111 46)
      have J85_11 : ∀ (x85_3_11 : Int) (h_x85_3_11 : (-2147483648) ≤ x85_3_11 ∧ x85_3_11 ≤ 2147483647) (H85_11 : PH) (hB85_11 : BdX H85_11) (hE85_11 : FrX ([(45, 3), (45, 4), (46, 3), (46, 4), (46, 5), (46, 6), (46, 7), (46, 8)], []) Pc3 H85_11), Go WSX G 4 iX6_readRange 85 [(0, vR 110), (1, vI a1), (2, vI rc3), (3, vI x85_3_11)] [] H85_11 Q := by
        intro x85_3_11 h_x85_3_11 H85_11 hB85_11 hE85_11
        refine g_aload_n dX6_readRange_85 rfl ?_
        refine x_g45_1 (n := 114) (⟨by decide, rfl⟩ : kx 110 45) ffX6_20 dX6_readRange_86 rfl ?_
        refine g_iload_n dX6_readRange_89 rfl ?_
        refine x_l49 (n := (crX 114 a1.toNat)) (⟨by decide, rfl⟩ : kx 114 49) dX6_readRange_90 ⟨by omega, by omega⟩ rfl ?_
        have kk13 := (ce_49 (j := a1.toNat) (⟨by decide, rfl⟩ : kx 114 49) (by omega))
        refine g_iload_n dX6_readRange_91 rfl ?_
        refine g_iload_n dX6_readRange_92 rfl ?_
        refine g_iconst dX6_readRange_93 ?_
        refine g_sV (av := [vR (crX 114 a1.toNat), vI rc3, vI x85_3_11, vI 1]) (st := []) (m_X6_fill G H85_11 (crX 114 a1.toNat) rc3 x85_3_11 1 kk13 ⟨by omega, by omega⟩ ⟨by omega, by omega⟩ (by decide) hB85_11  _ (fun Pc14 hBc14 hFc14 => ⟨rfl, ?_⟩)) cf_X6_fill t_808 rfl (Nat.le_of_ble_eq_true rfl) (by decide) rfl dX6_readRange_94
        refine g_iconst dX6_readRange_97 ?_
        exact g_retZ dX6_readRange_98 rfl (by decide) (hQ 1 (by decide) _ hBc14 (FrX.c (FrX.c (FrX.c FrX.rf hFc3 rfl) hE85_11 rfl) hFc14 rfl) )
      refine g_icmp_ne (tgt := 85) dX6_readRange_60 (by decide) ⟨by have q0 := bx_46_8 (o := 111) hBc3 (⟨by decide, rfl⟩ : kx 111 46); omega, by have q0 := bx_46_8 (o := 111) hBc3 (⟨by decide, rfl⟩ : kx 111 46); omega⟩ (by decide) (fun k15 => ?_) (fun k15 => ?_)
      · refine g_forget (l1 := [(0, vR 110), (1, vI a1), (2, vI rc3), (3, vI rc3)]) (by intro q hq; simp only [List.mem_cons, List.not_mem_nil, or_false] at hq ⊢; rcases hq with rfl | rfl | rfl | rfl <;> simp) ?_
        exact J85_11 rc3 ⟨by omega, by omega⟩ _ hBc3 FrX.rf
      · refine g_aload_n dX6_readRange_63 rfl ?_
        refine x_g45_0 (n := 111) (⟨by decide, rfl⟩ : kx 110 45) ffX6_12 dX6_readRange_64 rfl ?_
        refine g_vV (av := []) (o := 111) (st := []) (m_X7_step G Pc3  hBc3 (TX.fr (F := ([(45, 3), (45, 4), (46, 3), (46, 4), (46, 5), (46, 6), (46, 7), (46, 8)], [])) v_TX (FrX.c FrX.rf hFc3 rfl) rfl) _ (fun Pc16 hBc16 hFc16 => ⟨rfl, ?_⟩)) cf_X7_step t_731 rfl (show kx 111 46 from (⟨by decide, rfl⟩ : kx 111 46)).1 ((show kx 111 46 from (⟨by decide, rfl⟩ : kx 111 46)).sh rfl) rfl rfl (Nat.le_of_ble_eq_true rfl) (by decide) rfl dX6_readRange_67
        refine g_aload_n dX6_readRange_70 rfl ?_
        refine g_iload_n dX6_readRange_71 rfl ?_
        refine g_bipush dX6_readRange_72 (by decide) ?_
        refine g_vI (av := [vI rc3, vI 19]) (o := 110) (st := []) (m_X6_readNumber G Pc16 rc3 19 ⟨by omega, by omega⟩ (by decide) hBc16 (TX.fr (F := ([(45, 3), (45, 4), (46, 3), (46, 4), (46, 5), (46, 6), (46, 7), (46, 8)], [])) v_TX (FrX.c (FrX.c FrX.rf hFc3 rfl) hFc16 rfl) rfl) _ (fun rc17 hc17 Pc17 hBc17 hFc17 => ⟨rc17, rfl, ?_⟩)) cf_X6_readNumber t_816 rfl (show kx 110 45 from (⟨by decide, rfl⟩ : kx 110 45)).1 ((show kx 110 45 from (⟨by decide, rfl⟩ : kx 110 45)).sh rfl) rfl rfl (Nat.le_of_ble_eq_true rfl) (by decide) rfl dX6_readRange_74
        refine g_istore_n (l1 := [(3, vI rc17), (2, vI rc3), (0, vR 110), (1, vI a1)]) dX6_readRange_77 (by decide) rfl ?_
        refine g_iload_n dX6_readRange_78 rfl ?_
        refine g_iconst dX6_readRange_79 ?_
        refine g_icmp_ne (tgt := 85) dX6_readRange_80 (by decide) ⟨by omega, by omega⟩ (by decide) (fun k18 => ?_) (fun k18 => ?_)
        · refine g_forget (l1 := [(0, vR 110), (1, vI a1), (2, vI rc3), (3, vI rc17)]) (by intro q hq; simp only [List.mem_cons, List.not_mem_nil, or_false] at hq ⊢; rcases hq with rfl | rfl | rfl | rfl <;> simp) ?_
          exact J85_11 rc17 ⟨by omega, by omega⟩ _ hBc17 (FrX.c (FrX.c FrX.rf hFc16 rfl) hFc17 rfl)
        · refine g_iconst dX6_readRange_83 ?_
          exact g_retZ dX6_readRange_84 rfl (by decide) (hQ 0 (by decide) _ hBc17 (FrX.c (FrX.c (FrX.c FrX.rf hFc3 rfl) hFc16 rfl) hFc17 rfl) )
    · refine g_iconst dX6_readRange_47 ?_
      exact g_retZ dX6_readRange_48 rfl (by decide) (hQ 0 (by decide) _ hBc3 (FrX.c FrX.rf hFc3 rfl) )
  · refine g_aload_n dX6_readRange_12 rfl ?_
    refine x_g45_1 (n := 114) (⟨by decide, rfl⟩ : kx 110 45) ffX6_20 dX6_readRange_13 rfl ?_
    refine g_iload_n dX6_readRange_16 rfl ?_
    refine x_l49 (n := (crX 114 a1.toNat)) (⟨by decide, rfl⟩ : kx 114 49) dX6_readRange_17 ⟨by omega, by omega⟩ rfl ?_
    have kk19 := (ce_49 (j := a1.toNat) (⟨by decide, rfl⟩ : kx 114 49) (by omega))
    refine g_iconst dX6_readRange_18 ?_
    refine g_bipush dX6_readRange_19 (by decide) ?_
    refine g_iconst dX6_readRange_21 ?_
    refine g_sV (av := [vR (crX 114 a1.toNat), vI 0, vI 19, vI 1]) (st := []) (m_X6_fill G P (crX 114 a1.toNat) 0 19 1 kk19 (by decide) (by decide) (by decide) hB  _ (fun Pc20 hBc20 hFc20 => ⟨rfl, ?_⟩)) cf_X6_fill t_808 rfl (Nat.le_of_ble_eq_true rfl) (by decide) rfl dX6_readRange_22
    refine g_aload_n dX6_readRange_25 rfl ?_
    refine x_g45_0 (n := 111) (⟨by decide, rfl⟩ : kx 110 45) ffX6_12 dX6_readRange_26 rfl ?_
    refine g_vV (av := []) (o := 111) (st := []) (m_X7_step G Pc20  hBc20 (TX.fr (F := ([], [50])) v_TX (FrX.c FrX.rf hFc20 rfl) rfl) _ (fun Pc21 hBc21 hFc21 => ⟨rfl, ?_⟩)) cf_X7_step t_731 rfl (show kx 111 46 from (⟨by decide, rfl⟩ : kx 111 46)).1 ((show kx 111 46 from (⟨by decide, rfl⟩ : kx 111 46)).sh rfl) rfl rfl (Nat.le_of_ble_eq_true rfl) (by decide) rfl dX6_readRange_29
    refine g_iconst dX6_readRange_32 ?_
    exact g_retZ dX6_readRange_33 rfl (by decide) (hQ 1 (by decide) _ hBc21 (FrX.c (FrX.c FrX.rf hFc20 rfl) hFc21 rfl) )
set_option maxRecDepth 100000 in
set_option maxHeartbeats 4000000 in
theorem m_X6_readConName (G : GT) (P : PH) (a1 : Int) (h_a1 : (-2147483648) ≤ a1 ∧ a1 ≤ 2147483647) (hB : BdX P) (v_TX : TX P) (Q : Option PV → PH → Prop) (hQ : ∀ (r : Int) (_ : (-1) ≤ r ∧ r ≤ 23) (P1 : PH) (_ : BdX P1) (_ : FrX ([(45, 3), (45, 4), (46, 3), (46, 4), (46, 5), (46, 6), (46, 7), (46, 8)], []) P P1), Q (some (vI r)) P1) : Ct WSX G 3 iX6_readConName [vR 110, vI a1] P Q := by
  refine Ct.of (by decide) (l0 := [(0, vR 110), (1, vI a1)]) rfl (Nat.le_of_ble_eq_true rfl) ?_
  refine g_aload_n dX6_readConName_0 rfl ?_
  refine x_g45_0 (n := 111) (⟨by decide, rfl⟩ : kx 110 45) ffX6_12 dX6_readConName_1 rfl ?_
  refine g_vI (av := []) (o := 111) (st := []) (m_X7_isName G P  hB  _ (fun rc1 hc1 => ⟨rc1, rfl, ?_⟩)) cf_X7_isName t_736 rfl (show kx 111 46 from (⟨by decide, rfl⟩ : kx 111 46)).1 ((show kx 111 46 from (⟨by decide, rfl⟩ : kx 111 46)).sh rfl) rfl rfl (Nat.le_of_ble_eq_true rfl) (by decide) rfl dX6_readConName_4
  refine g_if_ne (tgt := 17) dX6_readConName_7 (by decide) ⟨by omega, by omega⟩ (fun k2 => ?_) (fun k2 => ?_)
  · refine g_aload_n dX6_readConName_17 rfl ?_
    refine x_g45_2 (n := (P 110 2).toNat) (⟨by decide, rfl⟩ : kx 110 45) ffX6_27 dX6_readConName_18 (br_110_2 hB) ?_
    refine x_g28_0 (n := (crX (P 110 2).toNat 0)) (bk_110_2 hB) ffX6_108 dX6_readConName_21 rfl ?_
    refine g_iload_n dX6_readConName_24 rfl ?_
    refine g_aload_n dX6_readConName_25 rfl ?_
    refine x_g45_0 (n := 111) (⟨by decide, rfl⟩ : kx 110 45) ffX6_12 dX6_readConName_26 rfl ?_
    refine x_g46_7 (z := (P 111 7)) (⟨by decide, rfl⟩ : kx 111 46) ffX6_95 dX6_readConName_29 rfl ?_
    have f3 := bx_46_7 (o := 111) hB (⟨by decide, rfl⟩ : kx 111 46)
    refine g_vI (av := [vI a1, vI (P 111 7)]) (o := (crX (P 110 2).toNat 0)) (st := []) (m_X3_conNamedOf G P (crX (P 110 2).toNat 0) a1 (P 111 7) (ck_28_0 (bk_110_2 hB)) ⟨by omega, by omega⟩ ⟨by have q0 := bx_46_7 (o := 111) hB (⟨by decide, rfl⟩ : kx 111 46); omega, by have q0 := bx_46_7 (o := 111) hB (⟨by decide, rfl⟩ : kx 111 46); omega⟩ hB  _ (fun rc4 hc4 => ⟨rc4, rfl, ?_⟩)) cf_X3_conNamedOf t_827 rfl (show kx (crX (P 110 2).toNat 0) 29 from (ck_28_0 (bk_110_2 hB))).1 ((show kx (crX (P 110 2).toNat 0) 29 from (ck_28_0 (bk_110_2 hB))).sh rfl) rfl rfl (Nat.le_of_ble_eq_true rfl) (by decide) rfl dX6_readConName_32
    refine g_istore_n (l1 := [(2, vI rc4), (0, vR 110), (1, vI a1)]) dX6_readConName_35 (by decide) rfl ?_
    refine g_iload_n dX6_readConName_36 rfl ?_
    refine g_iconst dX6_readConName_37 ?_
    refine g_icmp_ne (tgt := 56) dX6_readConName_38 (by decide) ⟨by omega, by omega⟩ (by decide) (fun k5 => ?_) (fun k5 => ?_)
    · refine g_aload_n dX6_readConName_56 rfl ?_
      refine x_g45_0 (n := 111) (⟨by decide, rfl⟩ : kx 110 45) ffX6_12 dX6_readConName_57 rfl ?_
      refine g_vV (av := []) (o := 111) (st := []) (m_X7_step G P  hB v_TX _ (fun Pc6 hBc6 hFc6 => ⟨rfl, ?_⟩)) cf_X7_step t_731 rfl (show kx 111 46 from (⟨by decide, rfl⟩ : kx 111 46)).1 ((show kx 111 46 from (⟨by decide, rfl⟩ : kx 111 46)).sh rfl) rfl rfl (Nat.le_of_ble_eq_true rfl) (by decide) rfl dX6_readConName_60
      refine g_iload_n dX6_readConName_63 rfl ?_
      exact g_retI dX6_readConName_64 rfl (hQ rc4 ⟨by omega, by omega⟩ _ hBc6 (FrX.c FrX.rf hFc6 rfl) )
    · refine g_aload_n dX6_readConName_41 rfl ?_
      refine g_iconst dX6_readConName_42 ?_
      refine g_aload_n dX6_readConName_43 rfl ?_
      refine x_g45_0 (n := 111) (⟨by decide, rfl⟩ : kx 110 45) ffX6_12 dX6_readConName_44 rfl ?_
      refine x_g46_5 (z := (P 111 5)) (⟨by decide, rfl⟩ : kx 111 46) ffX6_72 dX6_readConName_47 rfl ?_
      have f7 := bx_46_5 (o := 111) hB (⟨by decide, rfl⟩ : kx 111 46)
      refine g_vI (av := [vI 3, vI (P 111 5)]) (o := 110) (st := []) (m_X6_fail G P 3 (P 111 5) (by decide) ⟨by have q0 := bx_46_5 (o := 111) hB (⟨by decide, rfl⟩ : kx 111 46); omega, by have q0 := bx_46_5 (o := 111) hB (⟨by decide, rfl⟩ : kx 111 46); omega⟩ hB  _ (fun rc8 hc8 Pc8 hBc8 hFc8 => ⟨rc8, rfl, ?_⟩)) cf_X6_fail t_727 rfl (show kx 110 45 from (⟨by decide, rfl⟩ : kx 110 45)).1 ((show kx 110 45 from (⟨by decide, rfl⟩ : kx 110 45)).sh rfl) rfl rfl (Nat.le_of_ble_eq_true rfl) (by decide) rfl dX6_readConName_50
      refine g_pop dX6_readConName_53 rfl ?_
      refine g_iconst dX6_readConName_54 ?_
      exact g_retI dX6_readConName_55 rfl (hQ (-1) (by decide) _ hBc8 (FrX.c FrX.rf hFc8 rfl) )
  · refine g_aload_n dX6_readConName_10 rfl ?_
    refine g_vI (av := []) (o := 110) (st := []) (m_X6_failHere G P  hB  _ (fun rc9 hc9 Pc9 hBc9 hFc9 => ⟨rc9, rfl, ?_⟩)) cf_X6_failHere t_723 rfl (show kx 110 45 from (⟨by decide, rfl⟩ : kx 110 45)).1 ((show kx 110 45 from (⟨by decide, rfl⟩ : kx 110 45)).sh rfl) rfl rfl (Nat.le_of_ble_eq_true rfl) (by decide) rfl dX6_readConName_11
    refine g_pop dX6_readConName_14 rfl ?_
    refine g_iconst dX6_readConName_15 ?_
    exact g_retI dX6_readConName_16 rfl (hQ (-1) (by decide) _ hBc9 (FrX.c FrX.rf hFc9 rfl) )
set_option maxRecDepth 100000 in
set_option maxHeartbeats 4000000 in
theorem m_X6_fillCase (G : GT) (P : PH) (a1 : Int) (a2 : Int) (a3 : Int) (h_a1 : 0 ≤ a1 ∧ a1 ≤ 23) (h_a2 : 0 ≤ a2 ∧ a2 ≤ 9) (h_a3 : 0 ≤ a3 ∧ a3 ≤ 10) (hB : BdX P) (Q : Option PV → PH → Prop) (hQ : ∀ (P1 : PH) (_ : BdX P1) (_ : FrX ([], [50]) P P1), Q none P1) : Ct WSX G 3 iX6_fillCase [vR 110, vI a1, vI a2, vI a3] P Q := by
  refine Ct.of (by decide) (l0 := [(0, vR 110), (1, vI a1), (2, vI a2), (3, vI a3)]) rfl (Nat.le_of_ble_eq_true rfl) ?_
  refine g_iload_n dX6_fillCase_0 rfl ?_
  refine g_if_lt (tgt := 15) dX6_fillCase_1 (by decide) ⟨by omega, by omega⟩ (fun k1 => by exfalso; omega) (fun k1 => ?_)
  refine g_iload_n dX6_fillCase_4 rfl ?_
  refine g_iconst dX6_fillCase_5 ?_
  refine g_iadd dX6_fillCase_6 ?_
  refine g_aload_n dX6_fillCase_7 rfl ?_
  refine x_g45_1 (n := 114) (⟨by decide, rfl⟩ : kx 110 45) ffX6_20 dX6_fillCase_8 rfl ?_
  refine x_n49 (⟨by decide, rfl⟩ : kx 114 49) dX6_fillCase_11 ?_
  refine g_icmp_lt (tgt := 16) dX6_fillCase_12 (by decide) ⟨by omega, by omega⟩ (by decide) (fun k2 => ?_) (fun k2 => ?_)
  · refine g_aload_n dX6_fillCase_16 rfl ?_
    refine x_g45_2 (n := (P 110 2).toNat) (⟨by decide, rfl⟩ : kx 110 45) ffX6_27 dX6_fillCase_17 (br_110_2 hB) ?_
    refine x_g28_0 (n := (crX (P 110 2).toNat 0)) (bk_110_2 hB) ffX6_108 dX6_fillCase_20 rfl ?_
    refine g_astore (l1 := [(4, vR (crX (P 110 2).toNat 0)), (0, vR 110), (1, vI a1), (2, vI a2), (3, vI a3)]) dX6_fillCase_23 (by decide) rfl ?_
    refine g_aload dX6_fillCase_25 rfl ?_
    refine g_aload dX6_fillCase_27 rfl ?_
    refine x_g29_7 (n := (crX (crX (P 110 2).toNat 0) 7)) (ck_28_0 (bk_110_2 hB)) ffX6_193 dX6_fillCase_29 rfl ?_
    refine g_iload_n dX6_fillCase_32 rfl ?_
    refine x_l37 (z := (P (crX (crX (P 110 2).toNat 0) 7) a1)) (ck_29_7 (ck_28_0 (bk_110_2 hB))) dX6_fillCase_33 ⟨by omega, by omega⟩ rfl ?_
    have f3 := bx_37 (o := (crX (crX (P 110 2).toNat 0) 7)) (k := a1) hB (ck_29_7 (ck_28_0 (bk_110_2 hB)))
    refine g_vI (av := [vI (P (crX (crX (P 110 2).toNat 0) 7) a1)]) (o := (crX (P 110 2).toNat 0)) (st := []) (m_X3_sizeOf G P (crX (P 110 2).toNat 0) (P (crX (crX (P 110 2).toNat 0) 7) a1) (ck_28_0 (bk_110_2 hB)) ⟨by have q0 := bx_37 (o := (crX (crX (P 110 2).toNat 0) 7)) (k := a1) hB (ck_29_7 (ck_28_0 (bk_110_2 hB))); omega, by have q0 := bx_37 (o := (crX (crX (P 110 2).toNat 0) 7)) (k := a1) hB (ck_29_7 (ck_28_0 (bk_110_2 hB))); omega⟩ hB  _ (fun rc4 hc4 => ⟨rc4, rfl, ?_⟩)) cf_X3_sizeOf t_776 rfl (show kx (crX (P 110 2).toNat 0) 29 from (ck_28_0 (bk_110_2 hB))).1 ((show kx (crX (P 110 2).toNat 0) 29 from (ck_28_0 (bk_110_2 hB))).sh rfl) rfl rfl (Nat.le_of_ble_eq_true rfl) (by decide) rfl dX6_fillCase_34
    refine g_istore (l1 := [(5, vI rc4), (4, vR (crX (P 110 2).toNat 0)), (0, vR 110), (1, vI a1), (2, vI a2), (3, vI a3)]) dX6_fillCase_37 (by decide) rfl ?_
    refine g_aload dX6_fillCase_39 rfl ?_
    refine g_iload_n dX6_fillCase_41 rfl ?_
    refine g_vI (av := [vI a1]) (o := (crX (P 110 2).toNat 0)) (st := []) (m_X3_secondSize G P (crX (P 110 2).toNat 0) a1 (ck_28_0 (bk_110_2 hB)) ⟨by omega, by omega⟩ hB  _ (fun rc5 hc5 => ⟨rc5, rfl, ?_⟩)) cf_X3_secondSize t_836 rfl (show kx (crX (P 110 2).toNat 0) 29 from (ck_28_0 (bk_110_2 hB))).1 ((show kx (crX (P 110 2).toNat 0) 29 from (ck_28_0 (bk_110_2 hB))).sh rfl) rfl rfl (Nat.le_of_ble_eq_true rfl) (by decide) rfl dX6_fillCase_42
    refine g_istore (l1 := [(6, vI rc5), (5, vI rc4), (4, vR (crX (P 110 2).toNat 0)), (0, vR 110), (1, vI a1), (2, vI a2), (3, vI a3)]) dX6_fillCase_45 (by decide) rfl ?_
    refine g_aload dX6_fillCase_47 rfl ?_
    refine x_g29_6 (n := (crX (crX (P 110 2).toNat 0) 6)) (ck_28_0 (bk_110_2 hB)) ffX6_187 dX6_fillCase_49 rfl ?_
    refine g_iload_n dX6_fillCase_52 rfl ?_
    refine x_l36 (z := (P (crX (crX (P 110 2).toNat 0) 6) a1)) (ck_29_6 (ck_28_0 (bk_110_2 hB))) dX6_fillCase_53 ⟨by omega, by omega⟩ rfl ?_
    refine g_iconst dX6_fillCase_54 ?_
    have f6 := bx_36 (o := (crX (crX (P 110 2).toNat 0) 6)) (k := a1) hB (ck_29_6 (ck_28_0 (bk_110_2 hB)))
    refine g_icmp_ge (tgt := 62) dX6_fillCase_55 (by decide) ⟨by have q0 := bx_36 (o := (crX (crX (P 110 2).toNat 0) 6)) (k := a1) hB (ck_29_6 (ck_28_0 (bk_110_2 hB))); omega, by have q0 := bx_36 (o := (crX (crX (P 110 2).toNat 0) 6)) (k := a1) hB (ck_29_6 (ck_28_0 (bk_110_2 hB))); omega⟩ (by decide) (fun k7 => ?_) (fun k7 => ?_)
    · refine g_iconst dX6_fillCase_62 ?_
      refine g_istore (l1 := [(7, vI 0), (6, vI rc5), (5, vI rc4), (4, vR (crX (P 110 2).toNat 0)), (0, vR 110), (1, vI a1), (2, vI a2), (3, vI a3)]) dX6_fillCase_63 (by decide) rfl ?_
      refine g_iconst dX6_fillCase_65 ?_
      refine g_istore (l1 := [(8, vI 0), (7, vI 0), (6, vI rc5), (5, vI rc4), (4, vR (crX (P 110 2).toNat 0)), (0, vR 110), (1, vI a1), (2, vI a2), (3, vI a3)]) dX6_fillCase_66 (by decide) rfl ?_
      have L68_7 : ∀ (n68_7 : Nat) (x68_8_7 : Int) (h_x68_8_7 : 0 ≤ x68_8_7 ∧ x68_8_7 ≤ 2048) (H68_7 : PH) (hB68_7 : BdX H68_7) (hE68_7 : FrX ([], [50]) P H68_7) (hm68_7 : ((2049 - x68_8_7) : Int).toNat < n68_7), Go WSX G 3 iX6_fillCase 68 [(0, vR 110), (1, vI a1), (2, vI a2), (3, vI a3), (4, vR (crX (P 110 2).toNat 0)), (5, vI rc4), (6, vI rc5), (7, vI 0), (8, vI x68_8_7)] [] H68_7 Q := by
        intro n68_7
        induction n68_7 with
        | zero => intro x68_8_7 h_x68_8_7 H68_7 hB68_7 hE68_7 hm68_7; exact absurd hm68_7 (Nat.not_lt_zero _)
        | succ n68_7 ih68_7 =>
        intro x68_8_7 h_x68_8_7 H68_7 hB68_7 hE68_7 hm68_7
        refine g_iload dX6_fillCase_68 rfl ?_
        refine g_iload dX6_fillCase_70 rfl ?_
        refine g_icmp_ge (tgt := 182) dX6_fillCase_72 (by decide) ⟨by omega, by omega⟩ ⟨by omega, by omega⟩ (fun k17747 => ?_) (fun k17747 => ?_)
        · exact g_retV dX6_fillCase_182 rfl (hQ _ hB68_7 (FrX.c FrX.rf hE68_7 rfl) )
        · refine g_iload dX6_fillCase_75 rfl ?_
          refine g_sipush dX6_fillCase_77 (by decide) ?_
          refine g_icmp_ge (tgt := 182) dX6_fillCase_80 (by decide) ⟨by omega, by omega⟩ (by decide) (fun k17748 => ?_) (fun k17748 => ?_)
          · exact g_retV dX6_fillCase_182 rfl (hQ _ hB68_7 (FrX.c FrX.rf hE68_7 rfl) )
          · refine g_aload_n dX6_fillCase_83 rfl ?_
            refine x_g45_1 (n := 114) (⟨by decide, rfl⟩ : kx 110 45) ffX6_20 dX6_fillCase_84 rfl ?_
            refine g_iload_n dX6_fillCase_87 rfl ?_
            refine x_l49 (n := (crX 114 a3.toNat)) (⟨by decide, rfl⟩ : kx 114 49) dX6_fillCase_88 ⟨by omega, by omega⟩ rfl ?_
            have kk17749 := (ce_49 (j := a3.toNat) (⟨by decide, rfl⟩ : kx 114 49) (by omega))
            refine g_iload dX6_fillCase_89 rfl ?_
            refine x_l50 (z := (H68_7 (crX 114 a3.toNat) x68_8_7)) kk17749 dX6_fillCase_91 ⟨by omega, by omega⟩ rfl ?_
            have f17750 := bx_50 (o := (crX 114 a3.toNat)) (k := x68_8_7) hB68_7 kk17749
            have J176_18191 : ∀ (H176_18191 : PH) (hB176_18191 : BdX H176_18191) (hE176_18191 : FrX ([], [50]) H68_7 H176_18191), Go WSX G 3 iX6_fillCase 176 [(0, vR 110), (1, vI a1), (2, vI a2), (3, vI a3), (4, vR (crX (P 110 2).toNat 0)), (5, vI rc4), (6, vI rc5), (7, vI 0), (8, vI x68_8_7)] [] H176_18191 Q := by
              intro H176_18191 hB176_18191 hE176_18191
              refine g_iinc (l1 := [(8, vI (x68_8_7 + 1)), (0, vR 110), (1, vI a1), (2, vI a2), (3, vI a3), (4, vR (crX (P 110 2).toNat 0)), (5, vI rc4), (6, vI rc5), (7, vI 0)]) dX6_fillCase_176 rfl (by decide) rfl ?_
              refine g_goto (tgt := 68) dX6_fillCase_179 (by decide) ?_
              refine g_forget (l1 := [(0, vR 110), (1, vI a1), (2, vI a2), (3, vI a3), (4, vR (crX (P 110 2).toNat 0)), (5, vI rc4), (6, vI rc5), (7, vI 0), (8, vI (x68_8_7 + 1))]) (by intro q hq; simp only [List.mem_cons, List.not_mem_nil, or_false] at hq ⊢; rcases hq with rfl | rfl | rfl | rfl | rfl | rfl | rfl | rfl | rfl <;> simp) ?_
              exact ih68_7 (x68_8_7 + 1) ⟨by omega, by omega⟩ _ hB176_18191 (FrX.c (FrX.c FrX.rf hE68_7 rfl) hE176_18191 rfl) (by omega)
            refine g_if_ne (tgt := 98) dX6_fillCase_92 (by decide) ⟨by have q0 := bx_50 (o := (crX 114 a3.toNat)) (k := x68_8_7) hB68_7 kk17749; omega, by have q0 := bx_50 (o := (crX 114 a3.toNat)) (k := x68_8_7) hB68_7 kk17749; omega⟩ (fun k18193 => ?_) (fun k18193 => ?_)
            · refine g_aload dX6_fillCase_98 rfl ?_
              refine x_g29_5 (n := (crX (crX (P 110 2).toNat 0) 5)) (ck_28_0 (bk_110_2 hB)) ffX6_190 dX6_fillCase_100 rfl ?_
              refine g_iload_n dX6_fillCase_103 rfl ?_
              refine x_l35 (z := (P (crX (crX (P 110 2).toNat 0) 5) a1)) (ck_29_5 (ck_28_0 (bk_110_2 hB))) dX6_fillCase_104 ⟨by omega, by omega⟩ ((FrX.g hE68_7 (ck_29_5 (ck_28_0 (bk_110_2 hB))) rfl).trans rfl) ?_
              refine g_iload dX6_fillCase_105 rfl ?_
              refine g_iload dX6_fillCase_107 rfl ?_
              refine g_imul dX6_fillCase_109 ?_
              refine g_norm (fun r18194 h_r18194 e_r18194 => ?_)
              refine g_iadd dX6_fillCase_110 ?_
              refine g_norm (fun r18195 h_r18195 e_r18195 => ?_)
              refine g_istore (l1 := [(9, vI r18195), (0, vR 110), (1, vI a1), (2, vI a2), (3, vI a3), (4, vR (crX (P 110 2).toNat 0)), (5, vI rc4), (6, vI rc5), (7, vI 0), (8, vI x68_8_7)]) dX6_fillCase_111 (by decide) rfl ?_
              refine g_iconst dX6_fillCase_113 ?_
              refine g_istore (l1 := [(10, vI 0), (9, vI r18195), (0, vR 110), (1, vI a1), (2, vI a2), (3, vI a3), (4, vR (crX (P 110 2).toNat 0)), (5, vI rc4), (6, vI rc5), (7, vI 0), (8, vI x68_8_7)]) dX6_fillCase_114 (by decide) rfl ?_
              have L116_18195 : ∀ (n116_18195 : Nat) (x116_10_18195 : Int) (h_x116_10_18195 : 0 ≤ x116_10_18195 ∧ x116_10_18195 ≤ 2048) (H116_18195 : PH) (hB116_18195 : BdX H116_18195) (hE116_18195 : FrX ([], [50]) H68_7 H116_18195) (hm116_18195 : ((2049 - x116_10_18195) : Int).toNat < n116_18195), Go WSX G 3 iX6_fillCase 116 [(0, vR 110), (1, vI a1), (2, vI a2), (3, vI a3), (4, vR (crX (P 110 2).toNat 0)), (5, vI rc4), (6, vI rc5), (7, vI 0), (8, vI x68_8_7), (9, vI r18195), (10, vI x116_10_18195)] [] H116_18195 Q := by
                intro n116_18195
                induction n116_18195 with
                | zero => intro x116_10_18195 h_x116_10_18195 H116_18195 hB116_18195 hE116_18195 hm116_18195; exact absurd hm116_18195 (Nat.not_lt_zero _)
                | succ n116_18195 ih116_18195 =>
                intro x116_10_18195 h_x116_10_18195 H116_18195 hB116_18195 hE116_18195 hm116_18195
                refine g_iload dX6_fillCase_116 rfl ?_
                refine g_iload dX6_fillCase_118 rfl ?_
                refine g_icmp_ge (tgt := 176) dX6_fillCase_120 (by decide) ⟨by omega, by omega⟩ ⟨by omega, by omega⟩ (fun k18613 => ?_) (fun k18613 => ?_)
                · refine g_forget (l1 := [(0, vR 110), (1, vI a1), (2, vI a2), (3, vI a3), (4, vR (crX (P 110 2).toNat 0)), (5, vI rc4), (6, vI rc5), (7, vI 0), (8, vI x68_8_7)]) (by intro q hq; simp only [List.mem_cons, List.not_mem_nil, or_false] at hq ⊢; rcases hq with rfl | rfl | rfl | rfl | rfl | rfl | rfl | rfl | rfl <;> simp) ?_
                  exact J176_18191 _ hB116_18195 (FrX.c FrX.rf hE116_18195 rfl)
                · refine g_iload dX6_fillCase_123 rfl ?_
                  refine g_sipush dX6_fillCase_125 (by decide) ?_
                  refine g_icmp_ge (tgt := 176) dX6_fillCase_128 (by decide) ⟨by omega, by omega⟩ (by decide) (fun k18614 => ?_) (fun k18614 => ?_)
                  · refine g_forget (l1 := [(0, vR 110), (1, vI a1), (2, vI a2), (3, vI a3), (4, vR (crX (P 110 2).toNat 0)), (5, vI rc4), (6, vI rc5), (7, vI 0), (8, vI x68_8_7)]) (by intro q hq; simp only [List.mem_cons, List.not_mem_nil, or_false] at hq ⊢; rcases hq with rfl | rfl | rfl | rfl | rfl | rfl | rfl | rfl | rfl <;> simp) ?_
                    exact J176_18191 _ hB116_18195 (FrX.c FrX.rf hE116_18195 rfl)
                  · refine g_iload dX6_fillCase_131 rfl ?_
                    have J170_18623 : ∀ (H170_18623 : PH) (hB170_18623 : BdX H170_18623) (hE170_18623 : FrX ([], [50]) H116_18195 H170_18623), Go WSX G 3 iX6_fillCase 170 [(0, vR 110), (1, vI a1), (2, vI a2), (3, vI a3), (4, vR (crX (P 110 2).toNat 0)), (5, vI rc4), (6, vI rc5), (7, vI 0), (8, vI x68_8_7), (9, vI r18195), (10, vI x116_10_18195)] [] H170_18623 Q := by
                      intro H170_18623 hB170_18623 hE170_18623
                      refine g_iinc (l1 := [(10, vI (x116_10_18195 + 1)), (0, vR 110), (1, vI a1), (2, vI a2), (3, vI a3), (4, vR (crX (P 110 2).toNat 0)), (5, vI rc4), (6, vI rc5), (7, vI 0), (8, vI x68_8_7), (9, vI r18195)]) dX6_fillCase_170 rfl (by decide) rfl ?_
                      refine g_goto (tgt := 116) dX6_fillCase_173 (by decide) ?_
                      refine g_forget (l1 := [(0, vR 110), (1, vI a1), (2, vI a2), (3, vI a3), (4, vR (crX (P 110 2).toNat 0)), (5, vI rc4), (6, vI rc5), (7, vI 0), (8, vI x68_8_7), (9, vI r18195), (10, vI (x116_10_18195 + 1))]) (by intro q hq; simp only [List.mem_cons, List.not_mem_nil, or_false] at hq ⊢; rcases hq with rfl | rfl | rfl | rfl | rfl | rfl | rfl | rfl | rfl | rfl | rfl <;> simp) ?_
                      exact ih116_18195 (x116_10_18195 + 1) ⟨by omega, by omega⟩ _ hB170_18623 (FrX.c (FrX.c FrX.rf hE116_18195 rfl) hE170_18623 rfl) (by omega)
                    have J150_18624 : ∀ (_ : True), Go WSX G 3 iX6_fillCase 150 [(0, vR 110), (1, vI a1), (2, vI a2), (3, vI a3), (4, vR (crX (P 110 2).toNat 0)), (5, vI rc4), (6, vI rc5), (7, vI 0), (8, vI x68_8_7), (9, vI r18195), (10, vI x116_10_18195)] [] H116_18195 Q := by
                      intro _
                      refine g_aload_n dX6_fillCase_150 rfl ?_
                      refine x_g45_1 (n := 114) (⟨by decide, rfl⟩ : kx 110 45) ffX6_20 dX6_fillCase_151 rfl ?_
                      refine g_iload_n dX6_fillCase_154 rfl ?_
                      refine x_l49 (n := (crX 114 a2.toNat)) (⟨by decide, rfl⟩ : kx 114 49) dX6_fillCase_155 ⟨by omega, by omega⟩ rfl ?_
                      have kk18626 := (ce_49 (j := a2.toNat) (⟨by decide, rfl⟩ : kx 114 49) (by omega))
                      refine g_iload dX6_fillCase_156 rfl ?_
                      refine g_iload dX6_fillCase_158 rfl ?_
                      refine g_iadd dX6_fillCase_160 ?_
                      refine g_norm (fun r18627 h_r18627 e_r18627 => ?_)
                      refine g_iload dX6_fillCase_161 rfl ?_
                      refine g_iload dX6_fillCase_163 rfl ?_
                      refine g_iadd dX6_fillCase_165 ?_
                      refine g_norm (fun r18628 h_r18628 e_r18628 => ?_)
                      refine g_iconst dX6_fillCase_166 ?_
                      refine g_sV (av := [vR (crX 114 a2.toNat), vI r18627, vI r18628, vI 1]) (st := []) (m_X6_fill G H116_18195 (crX 114 a2.toNat) r18627 r18628 1 kk18626 ⟨by omega, by omega⟩ ⟨by omega, by omega⟩ (by decide) hB116_18195  _ (fun Pc18629 hBc18629 hFc18629 => ⟨rfl, ?_⟩)) cf_X6_fill t_808 rfl (Nat.le_of_ble_eq_true rfl) (by decide) rfl dX6_fillCase_167
                      refine g_forget (l1 := [(0, vR 110), (1, vI a1), (2, vI a2), (3, vI a3), (4, vR (crX (P 110 2).toNat 0)), (5, vI rc4), (6, vI rc5), (7, vI 0), (8, vI x68_8_7), (9, vI r18195), (10, vI x116_10_18195)]) (by intro q hq; simp only [List.mem_cons, List.not_mem_nil, or_false] at hq ⊢; rcases hq with rfl | rfl | rfl | rfl | rfl | rfl | rfl | rfl | rfl | rfl | rfl <;> simp) ?_
                      exact J170_18623 _ hBc18629 (FrX.c FrX.rf hFc18629 rfl)
                    refine g_if_ne (tgt := 150) dX6_fillCase_133 (by decide) (by decide) (fun k18630 => by exfalso; omega) (fun k18630 => ?_)
                    refine g_aload_n dX6_fillCase_136 rfl ?_
                    refine x_g45_1 (n := 114) (⟨by decide, rfl⟩ : kx 110 45) ffX6_20 dX6_fillCase_137 rfl ?_
                    refine g_iload_n dX6_fillCase_140 rfl ?_
                    refine g_iconst dX6_fillCase_141 ?_
                    refine g_iadd dX6_fillCase_142 ?_
                    refine x_l49 (n := (crX 114 (a3 + 1).toNat)) (⟨by decide, rfl⟩ : kx 114 49) dX6_fillCase_143 ⟨by omega, by omega⟩ rfl ?_
                    have kk18631 := (ce_49 (j := (a3 + 1).toNat) (⟨by decide, rfl⟩ : kx 114 49) (by omega))
                    refine g_iload dX6_fillCase_144 rfl ?_
                    refine x_l50 (z := (H116_18195 (crX 114 (a3 + 1).toNat) x116_10_18195)) kk18631 dX6_fillCase_146 ⟨by omega, by omega⟩ rfl ?_
                    have f18632 := bx_50 (o := (crX 114 (a3 + 1).toNat)) (k := x116_10_18195) hB116_18195 kk18631
                    refine g_if_eq (tgt := 170) dX6_fillCase_147 (by decide) ⟨by have q0 := bx_50 (o := (crX 114 (a3 + 1).toNat)) (k := x116_10_18195) hB116_18195 kk18631; omega, by have q0 := bx_50 (o := (crX 114 (a3 + 1).toNat)) (k := x116_10_18195) hB116_18195 kk18631; omega⟩ (fun k18633 => ?_) (fun k18633 => ?_)
                    · refine g_forget (l1 := [(0, vR 110), (1, vI a1), (2, vI a2), (3, vI a3), (4, vR (crX (P 110 2).toNat 0)), (5, vI rc4), (6, vI rc5), (7, vI 0), (8, vI x68_8_7), (9, vI r18195), (10, vI x116_10_18195)]) (by intro q hq; simp only [List.mem_cons, List.not_mem_nil, or_false] at hq ⊢; rcases hq with rfl | rfl | rfl | rfl | rfl | rfl | rfl | rfl | rfl | rfl | rfl <;> simp) ?_
                      exact J170_18623 _ hB116_18195 FrX.rf
                    · refine g_forget (l1 := [(0, vR 110), (1, vI a1), (2, vI a2), (3, vI a3), (4, vR (crX (P 110 2).toNat 0)), (5, vI rc4), (6, vI rc5), (7, vI 0), (8, vI x68_8_7), (9, vI r18195), (10, vI x116_10_18195)]) (by intro q hq; simp only [List.mem_cons, List.not_mem_nil, or_false] at hq ⊢; rcases hq with rfl | rfl | rfl | rfl | rfl | rfl | rfl | rfl | rfl | rfl | rfl <;> simp) ?_
                      exact J150_18624 trivial
              refine g_forget (l1 := [(0, vR 110), (1, vI a1), (2, vI a2), (3, vI a3), (4, vR (crX (P 110 2).toNat 0)), (5, vI rc4), (6, vI rc5), (7, vI 0), (8, vI x68_8_7), (9, vI r18195), (10, vI 0)]) (by intro q hq; simp only [List.mem_cons, List.not_mem_nil, or_false] at hq ⊢; rcases hq with rfl | rfl | rfl | rfl | rfl | rfl | rfl | rfl | rfl | rfl | rfl <;> simp) ?_
              exact L116_18195 _ 0 (by decide) _ hB68_7 FrX.rf (Nat.lt_succ_self _)
            · refine g_goto (tgt := 176) dX6_fillCase_95 (by decide) ?_
              refine g_forget (l1 := [(0, vR 110), (1, vI a1), (2, vI a2), (3, vI a3), (4, vR (crX (P 110 2).toNat 0)), (5, vI rc4), (6, vI rc5), (7, vI 0), (8, vI x68_8_7)]) (by intro q hq; simp only [List.mem_cons, List.not_mem_nil, or_false] at hq ⊢; rcases hq with rfl | rfl | rfl | rfl | rfl | rfl | rfl | rfl | rfl <;> simp) ?_
              exact J176_18191 _ hB68_7 FrX.rf
      refine g_forget (l1 := [(0, vR 110), (1, vI a1), (2, vI a2), (3, vI a3), (4, vR (crX (P 110 2).toNat 0)), (5, vI rc4), (6, vI rc5), (7, vI 0), (8, vI 0)]) (by intro q hq; simp only [List.mem_cons, List.not_mem_nil, or_false] at hq ⊢; rcases hq with rfl | rfl | rfl | rfl | rfl | rfl | rfl | rfl | rfl <;> simp) ?_
      exact L68_7 _ 0 (by decide) _ hB FrX.rf (Nat.lt_succ_self _)
    · refine g_iconst dX6_fillCase_58 ?_
      refine g_goto (tgt := 63) dX6_fillCase_59 (by decide) ?_
      refine g_istore (l1 := [(7, vI 1), (6, vI rc5), (5, vI rc4), (4, vR (crX (P 110 2).toNat 0)), (0, vR 110), (1, vI a1), (2, vI a2), (3, vI a3)]) dX6_fillCase_63 (by decide) rfl ?_
      refine g_iconst dX6_fillCase_65 ?_
      refine g_istore (l1 := [(8, vI 0), (7, vI 1), (6, vI rc5), (5, vI rc4), (4, vR (crX (P 110 2).toNat 0)), (0, vR 110), (1, vI a1), (2, vI a2), (3, vI a3)]) dX6_fillCase_66 (by decide) rfl ?_
      have L68_18633 : ∀ (n68_18633 : Nat) (x68_8_18633 : Int) (h_x68_8_18633 : 0 ≤ x68_8_18633 ∧ x68_8_18633 ≤ 2048) (H68_18633 : PH) (hB68_18633 : BdX H68_18633) (hE68_18633 : FrX ([], [50]) P H68_18633) (hm68_18633 : ((2049 - x68_8_18633) : Int).toNat < n68_18633), Go WSX G 3 iX6_fillCase 68 [(0, vR 110), (1, vI a1), (2, vI a2), (3, vI a3), (4, vR (crX (P 110 2).toNat 0)), (5, vI rc4), (6, vI rc5), (7, vI 1), (8, vI x68_8_18633)] [] H68_18633 Q := by
        intro n68_18633
        induction n68_18633 with
        | zero => intro x68_8_18633 h_x68_8_18633 H68_18633 hB68_18633 hE68_18633 hm68_18633; exact absurd hm68_18633 (Nat.not_lt_zero _)
        | succ n68_18633 ih68_18633 =>
        intro x68_8_18633 h_x68_8_18633 H68_18633 hB68_18633 hE68_18633 hm68_18633
        refine g_iload dX6_fillCase_68 rfl ?_
        refine g_iload dX6_fillCase_70 rfl ?_
        refine g_icmp_ge (tgt := 182) dX6_fillCase_72 (by decide) ⟨by omega, by omega⟩ ⟨by omega, by omega⟩ (fun k31333 => ?_) (fun k31333 => ?_)
        · exact g_retV dX6_fillCase_182 rfl (hQ _ hB68_18633 (FrX.c FrX.rf hE68_18633 rfl) )
        · refine g_iload dX6_fillCase_75 rfl ?_
          refine g_sipush dX6_fillCase_77 (by decide) ?_
          refine g_icmp_ge (tgt := 182) dX6_fillCase_80 (by decide) ⟨by omega, by omega⟩ (by decide) (fun k31334 => ?_) (fun k31334 => ?_)
          · exact g_retV dX6_fillCase_182 rfl (hQ _ hB68_18633 (FrX.c FrX.rf hE68_18633 rfl) )
          · refine g_aload_n dX6_fillCase_83 rfl ?_
            refine x_g45_1 (n := 114) (⟨by decide, rfl⟩ : kx 110 45) ffX6_20 dX6_fillCase_84 rfl ?_
            refine g_iload_n dX6_fillCase_87 rfl ?_
            refine x_l49 (n := (crX 114 a3.toNat)) (⟨by decide, rfl⟩ : kx 114 49) dX6_fillCase_88 ⟨by omega, by omega⟩ rfl ?_
            have kk31335 := (ce_49 (j := a3.toNat) (⟨by decide, rfl⟩ : kx 114 49) (by omega))
            refine g_iload dX6_fillCase_89 rfl ?_
            refine x_l50 (z := (H68_18633 (crX 114 a3.toNat) x68_8_18633)) kk31335 dX6_fillCase_91 ⟨by omega, by omega⟩ rfl ?_
            have f31336 := bx_50 (o := (crX 114 a3.toNat)) (k := x68_8_18633) hB68_18633 kk31335
            have J176_31651 : ∀ (H176_31651 : PH) (hB176_31651 : BdX H176_31651) (hE176_31651 : FrX ([], [50]) H68_18633 H176_31651), Go WSX G 3 iX6_fillCase 176 [(0, vR 110), (1, vI a1), (2, vI a2), (3, vI a3), (4, vR (crX (P 110 2).toNat 0)), (5, vI rc4), (6, vI rc5), (7, vI 1), (8, vI x68_8_18633)] [] H176_31651 Q := by
              intro H176_31651 hB176_31651 hE176_31651
              refine g_iinc (l1 := [(8, vI (x68_8_18633 + 1)), (0, vR 110), (1, vI a1), (2, vI a2), (3, vI a3), (4, vR (crX (P 110 2).toNat 0)), (5, vI rc4), (6, vI rc5), (7, vI 1)]) dX6_fillCase_176 rfl (by decide) rfl ?_
              refine g_goto (tgt := 68) dX6_fillCase_179 (by decide) ?_
              refine g_forget (l1 := [(0, vR 110), (1, vI a1), (2, vI a2), (3, vI a3), (4, vR (crX (P 110 2).toNat 0)), (5, vI rc4), (6, vI rc5), (7, vI 1), (8, vI (x68_8_18633 + 1))]) (by intro q hq; simp only [List.mem_cons, List.not_mem_nil, or_false] at hq ⊢; rcases hq with rfl | rfl | rfl | rfl | rfl | rfl | rfl | rfl | rfl <;> simp) ?_
              exact ih68_18633 (x68_8_18633 + 1) ⟨by omega, by omega⟩ _ hB176_31651 (FrX.c (FrX.c FrX.rf hE68_18633 rfl) hE176_31651 rfl) (by omega)
            refine g_if_ne (tgt := 98) dX6_fillCase_92 (by decide) ⟨by have q0 := bx_50 (o := (crX 114 a3.toNat)) (k := x68_8_18633) hB68_18633 kk31335; omega, by have q0 := bx_50 (o := (crX 114 a3.toNat)) (k := x68_8_18633) hB68_18633 kk31335; omega⟩ (fun k31653 => ?_) (fun k31653 => ?_)
            · refine g_aload dX6_fillCase_98 rfl ?_
              refine x_g29_5 (n := (crX (crX (P 110 2).toNat 0) 5)) (ck_28_0 (bk_110_2 hB)) ffX6_190 dX6_fillCase_100 rfl ?_
              refine g_iload_n dX6_fillCase_103 rfl ?_
              refine x_l35 (z := (P (crX (crX (P 110 2).toNat 0) 5) a1)) (ck_29_5 (ck_28_0 (bk_110_2 hB))) dX6_fillCase_104 ⟨by omega, by omega⟩ ((FrX.g hE68_18633 (ck_29_5 (ck_28_0 (bk_110_2 hB))) rfl).trans rfl) ?_
              refine g_iload dX6_fillCase_105 rfl ?_
              refine g_iload dX6_fillCase_107 rfl ?_
              refine g_imul dX6_fillCase_109 ?_
              refine g_norm (fun r31654 h_r31654 e_r31654 => ?_)
              refine g_iadd dX6_fillCase_110 ?_
              refine g_norm (fun r31655 h_r31655 e_r31655 => ?_)
              refine g_istore (l1 := [(9, vI r31655), (0, vR 110), (1, vI a1), (2, vI a2), (3, vI a3), (4, vR (crX (P 110 2).toNat 0)), (5, vI rc4), (6, vI rc5), (7, vI 1), (8, vI x68_8_18633)]) dX6_fillCase_111 (by decide) rfl ?_
              refine g_iconst dX6_fillCase_113 ?_
              refine g_istore (l1 := [(10, vI 0), (9, vI r31655), (0, vR 110), (1, vI a1), (2, vI a2), (3, vI a3), (4, vR (crX (P 110 2).toNat 0)), (5, vI rc4), (6, vI rc5), (7, vI 1), (8, vI x68_8_18633)]) dX6_fillCase_114 (by decide) rfl ?_
              have L116_31655 : ∀ (n116_31655 : Nat) (x116_10_31655 : Int) (h_x116_10_31655 : 0 ≤ x116_10_31655 ∧ x116_10_31655 ≤ 2048) (H116_31655 : PH) (hB116_31655 : BdX H116_31655) (hE116_31655 : FrX ([], [50]) H68_18633 H116_31655) (hm116_31655 : ((2049 - x116_10_31655) : Int).toNat < n116_31655), Go WSX G 3 iX6_fillCase 116 [(0, vR 110), (1, vI a1), (2, vI a2), (3, vI a3), (4, vR (crX (P 110 2).toNat 0)), (5, vI rc4), (6, vI rc5), (7, vI 1), (8, vI x68_8_18633), (9, vI r31655), (10, vI x116_10_31655)] [] H116_31655 Q := by
                intro n116_31655
                induction n116_31655 with
                | zero => intro x116_10_31655 h_x116_10_31655 H116_31655 hB116_31655 hE116_31655 hm116_31655; exact absurd hm116_31655 (Nat.not_lt_zero _)
                | succ n116_31655 ih116_31655 =>
                intro x116_10_31655 h_x116_10_31655 H116_31655 hB116_31655 hE116_31655 hm116_31655
                refine g_iload dX6_fillCase_116 rfl ?_
                refine g_iload dX6_fillCase_118 rfl ?_
                refine g_icmp_ge (tgt := 176) dX6_fillCase_120 (by decide) ⟨by omega, by omega⟩ ⟨by omega, by omega⟩ (fun k31953 => ?_) (fun k31953 => ?_)
                · refine g_forget (l1 := [(0, vR 110), (1, vI a1), (2, vI a2), (3, vI a3), (4, vR (crX (P 110 2).toNat 0)), (5, vI rc4), (6, vI rc5), (7, vI 1), (8, vI x68_8_18633)]) (by intro q hq; simp only [List.mem_cons, List.not_mem_nil, or_false] at hq ⊢; rcases hq with rfl | rfl | rfl | rfl | rfl | rfl | rfl | rfl | rfl <;> simp) ?_
                  exact J176_31651 _ hB116_31655 (FrX.c FrX.rf hE116_31655 rfl)
                · refine g_iload dX6_fillCase_123 rfl ?_
                  refine g_sipush dX6_fillCase_125 (by decide) ?_
                  refine g_icmp_ge (tgt := 176) dX6_fillCase_128 (by decide) ⟨by omega, by omega⟩ (by decide) (fun k31954 => ?_) (fun k31954 => ?_)
                  · refine g_forget (l1 := [(0, vR 110), (1, vI a1), (2, vI a2), (3, vI a3), (4, vR (crX (P 110 2).toNat 0)), (5, vI rc4), (6, vI rc5), (7, vI 1), (8, vI x68_8_18633)]) (by intro q hq; simp only [List.mem_cons, List.not_mem_nil, or_false] at hq ⊢; rcases hq with rfl | rfl | rfl | rfl | rfl | rfl | rfl | rfl | rfl <;> simp) ?_
                    exact J176_31651 _ hB116_31655 (FrX.c FrX.rf hE116_31655 rfl)
                  · refine g_iload dX6_fillCase_131 rfl ?_
                    have J170_31960 : ∀ (H170_31960 : PH) (hB170_31960 : BdX H170_31960) (hE170_31960 : FrX ([], [50]) H116_31655 H170_31960), Go WSX G 3 iX6_fillCase 170 [(0, vR 110), (1, vI a1), (2, vI a2), (3, vI a3), (4, vR (crX (P 110 2).toNat 0)), (5, vI rc4), (6, vI rc5), (7, vI 1), (8, vI x68_8_18633), (9, vI r31655), (10, vI x116_10_31655)] [] H170_31960 Q := by
                      intro H170_31960 hB170_31960 hE170_31960
                      refine g_iinc (l1 := [(10, vI (x116_10_31655 + 1)), (0, vR 110), (1, vI a1), (2, vI a2), (3, vI a3), (4, vR (crX (P 110 2).toNat 0)), (5, vI rc4), (6, vI rc5), (7, vI 1), (8, vI x68_8_18633), (9, vI r31655)]) dX6_fillCase_170 rfl (by decide) rfl ?_
                      refine g_goto (tgt := 116) dX6_fillCase_173 (by decide) ?_
                      refine g_forget (l1 := [(0, vR 110), (1, vI a1), (2, vI a2), (3, vI a3), (4, vR (crX (P 110 2).toNat 0)), (5, vI rc4), (6, vI rc5), (7, vI 1), (8, vI x68_8_18633), (9, vI r31655), (10, vI (x116_10_31655 + 1))]) (by intro q hq; simp only [List.mem_cons, List.not_mem_nil, or_false] at hq ⊢; rcases hq with rfl | rfl | rfl | rfl | rfl | rfl | rfl | rfl | rfl | rfl | rfl <;> simp) ?_
                      exact ih116_31655 (x116_10_31655 + 1) ⟨by omega, by omega⟩ _ hB170_31960 (FrX.c (FrX.c FrX.rf hE116_31655 rfl) hE170_31960 rfl) (by omega)
                    have J150_31961 : ∀ (_ : True), Go WSX G 3 iX6_fillCase 150 [(0, vR 110), (1, vI a1), (2, vI a2), (3, vI a3), (4, vR (crX (P 110 2).toNat 0)), (5, vI rc4), (6, vI rc5), (7, vI 1), (8, vI x68_8_18633), (9, vI r31655), (10, vI x116_10_31655)] [] H116_31655 Q := by
                      intro _
                      refine g_aload_n dX6_fillCase_150 rfl ?_
                      refine x_g45_1 (n := 114) (⟨by decide, rfl⟩ : kx 110 45) ffX6_20 dX6_fillCase_151 rfl ?_
                      refine g_iload_n dX6_fillCase_154 rfl ?_
                      refine x_l49 (n := (crX 114 a2.toNat)) (⟨by decide, rfl⟩ : kx 114 49) dX6_fillCase_155 ⟨by omega, by omega⟩ rfl ?_
                      have kk31963 := (ce_49 (j := a2.toNat) (⟨by decide, rfl⟩ : kx 114 49) (by omega))
                      refine g_iload dX6_fillCase_156 rfl ?_
                      refine g_iload dX6_fillCase_158 rfl ?_
                      refine g_iadd dX6_fillCase_160 ?_
                      refine g_norm (fun r31964 h_r31964 e_r31964 => ?_)
                      refine g_iload dX6_fillCase_161 rfl ?_
                      refine g_iload dX6_fillCase_163 rfl ?_
                      refine g_iadd dX6_fillCase_165 ?_
                      refine g_norm (fun r31965 h_r31965 e_r31965 => ?_)
                      refine g_iconst dX6_fillCase_166 ?_
                      refine g_sV (av := [vR (crX 114 a2.toNat), vI r31964, vI r31965, vI 1]) (st := []) (m_X6_fill G H116_31655 (crX 114 a2.toNat) r31964 r31965 1 kk31963 ⟨by omega, by omega⟩ ⟨by omega, by omega⟩ (by decide) hB116_31655  _ (fun Pc31966 hBc31966 hFc31966 => ⟨rfl, ?_⟩)) cf_X6_fill t_808 rfl (Nat.le_of_ble_eq_true rfl) (by decide) rfl dX6_fillCase_167
                      refine g_forget (l1 := [(0, vR 110), (1, vI a1), (2, vI a2), (3, vI a3), (4, vR (crX (P 110 2).toNat 0)), (5, vI rc4), (6, vI rc5), (7, vI 1), (8, vI x68_8_18633), (9, vI r31655), (10, vI x116_10_31655)]) (by intro q hq; simp only [List.mem_cons, List.not_mem_nil, or_false] at hq ⊢; rcases hq with rfl | rfl | rfl | rfl | rfl | rfl | rfl | rfl | rfl | rfl | rfl <;> simp) ?_
                      exact J170_31960 _ hBc31966 (FrX.c FrX.rf hFc31966 rfl)
                    refine g_if_ne (tgt := 150) dX6_fillCase_133 (by decide) (by decide) (fun k31967 => ?_) (fun k31967 => by exfalso; omega)
                    refine g_forget (l1 := [(0, vR 110), (1, vI a1), (2, vI a2), (3, vI a3), (4, vR (crX (P 110 2).toNat 0)), (5, vI rc4), (6, vI rc5), (7, vI 1), (8, vI x68_8_18633), (9, vI r31655), (10, vI x116_10_31655)]) (by intro q hq; simp only [List.mem_cons, List.not_mem_nil, or_false] at hq ⊢; rcases hq with rfl | rfl | rfl | rfl | rfl | rfl | rfl | rfl | rfl | rfl | rfl <;> simp) ?_
                    exact J150_31961 trivial
              refine g_forget (l1 := [(0, vR 110), (1, vI a1), (2, vI a2), (3, vI a3), (4, vR (crX (P 110 2).toNat 0)), (5, vI rc4), (6, vI rc5), (7, vI 1), (8, vI x68_8_18633), (9, vI r31655), (10, vI 0)]) (by intro q hq; simp only [List.mem_cons, List.not_mem_nil, or_false] at hq ⊢; rcases hq with rfl | rfl | rfl | rfl | rfl | rfl | rfl | rfl | rfl | rfl | rfl <;> simp) ?_
              exact L116_31655 _ 0 (by decide) _ hB68_18633 FrX.rf (Nat.lt_succ_self _)
            · refine g_goto (tgt := 176) dX6_fillCase_95 (by decide) ?_
              refine g_forget (l1 := [(0, vR 110), (1, vI a1), (2, vI a2), (3, vI a3), (4, vR (crX (P 110 2).toNat 0)), (5, vI rc4), (6, vI rc5), (7, vI 1), (8, vI x68_8_18633)]) (by intro q hq; simp only [List.mem_cons, List.not_mem_nil, or_false] at hq ⊢; rcases hq with rfl | rfl | rfl | rfl | rfl | rfl | rfl | rfl | rfl <;> simp) ?_
              exact J176_31651 _ hB68_18633 FrX.rf
      refine g_forget (l1 := [(0, vR 110), (1, vI a1), (2, vI a2), (3, vI a3), (4, vR (crX (P 110 2).toNat 0)), (5, vI rc4), (6, vI rc5), (7, vI 1), (8, vI 0)]) (by intro q hq; simp only [List.mem_cons, List.not_mem_nil, or_false] at hq ⊢; rcases hq with rfl | rfl | rfl | rfl | rfl | rfl | rfl | rfl | rfl <;> simp) ?_
      exact L68_18633 _ 0 (by decide) _ hB FrX.rf (Nat.lt_succ_self _)
  · exact g_retV dX6_fillCase_15 rfl (hQ _ hB FrX.rf )
def st_X6_readPattern (G : GT) (n : Nat) : Prop := ∀ (P : PH) (a1 : Int) (a2 : Int) (a3 : Int) (h_a1 : (-2147483648) ≤ a1 ∧ a1 ≤ 2147483647) (h_a2 : (-2147483648) ≤ a2 ∧ a2 ≤ 2147483647) (h_a3 : (-2147483648) ≤ a3 ∧ a3 ≤ 2147483647) (hB : BdX P) (p_dp : 0 ≤ a3) (v_TX : TX P) (hm : (6 - a3 : Int).toNat < n) (Q : Option PV → PH → Prop) (hQ : ∀ (r : Int) (_ : 0 ≤ r ∧ r ≤ 1) (P1 : PH) (_ : BdX P1) (_ : FrX ([(45, 3), (45, 4), (46, 3), (46, 4), (46, 5), (46, 6), (46, 7), (46, 8)], [50]) P P1), Q (some (vI r)) P1), Ct WSX G (10 + 2 * n) iX6_readPattern [vR 110, vI a1, vI a2, vI a3] P Q
set_option maxRecDepth 100000 in
set_option maxHeartbeats 4000000 in
theorem m_X6_readCase (G : GT) {n : Nat} (ih : st_X6_readPattern G n) (P : PH) (a1 : Int) (a2 : Int) (a3 : Int) (h_a1 : (-2147483648) ≤ a1 ∧ a1 ≤ 2147483647) (h_a2 : 0 ≤ a2 ∧ a2 ≤ 9) (h_a3 : 0 ≤ a3 ∧ a3 ≤ 4) (hB : BdX P) (p_hm : (6 - a3 : Int).toNat < n + 1) (v_TX : TX P) (Q : Option PV → PH → Prop) (hQ : ∀ (r : Int) (_ : 0 ≤ r ∧ r ≤ 1) (P1 : PH) (_ : BdX P1) (_ : FrX ([(45, 3), (45, 4), (46, 3), (46, 4), (46, 5), (46, 6), (46, 7), (46, 8)], [50]) P P1), Q (some (vI r)) P1) : Ct WSX G (11 + 2 * n) iX6_readCase [vR 110, vI a1, vI a2, vI a3] P Q := by
  refine Ct.of (by decide) (l0 := [(0, vR 110), (1, vI a1), (2, vI a2), (3, vI a3)]) rfl (Nat.le_of_ble_eq_true rfl) ?_
  refine g_aload_n dX6_readCase_0 rfl ?_
  refine x_g45_2 (n := (P 110 2).toNat) (⟨by decide, rfl⟩ : kx 110 45) ffX6_27 dX6_readCase_1 (br_110_2 hB) ?_
  refine x_g28_0 (n := (crX (P 110 2).toNat 0)) (bk_110_2 hB) ffX6_108 dX6_readCase_4 rfl ?_
  refine g_astore (l1 := [(4, vR (crX (P 110 2).toNat 0)), (0, vR 110), (1, vI a1), (2, vI a2), (3, vI a3)]) dX6_readCase_7 (by decide) rfl ?_
  refine g_aload_n dX6_readCase_9 rfl ?_
  refine x_g45_0 (n := 111) (⟨by decide, rfl⟩ : kx 110 45) ffX6_12 dX6_readCase_10 rfl ?_
  refine x_g46_8 (z := (P 111 8)) (⟨by decide, rfl⟩ : kx 111 46) ffX6_43 dX6_readCase_13 rfl ?_
  refine g_bipush dX6_readCase_16 (by decide) ?_
  have f1 := bx_46_8 (o := 111) hB (⟨by decide, rfl⟩ : kx 111 46)
  refine g_icmp_ne (tgt := 49) dX6_readCase_18 (by decide) ⟨by have q0 := bx_46_8 (o := 111) hB (⟨by decide, rfl⟩ : kx 111 46); omega, by have q0 := bx_46_8 (o := 111) hB (⟨by decide, rfl⟩ : kx 111 46); omega⟩ (by decide) (fun k2 => ?_) (fun k2 => ?_)
  · refine g_aload_n dX6_readCase_49 rfl ?_
    refine g_iload_n dX6_readCase_50 rfl ?_
    refine g_vI (av := [vI a1]) (o := 110) (st := []) (m_X6_readConName G P a1 ⟨by omega, by omega⟩ hB v_TX _ (fun rc3 hc3 Pc3 hBc3 hFc3 => ⟨rc3, rfl, ?_⟩)) cf_X6_readConName t_823 rfl (show kx 110 45 from (⟨by decide, rfl⟩ : kx 110 45)).1 ((show kx 110 45 from (⟨by decide, rfl⟩ : kx 110 45)).sh rfl) rfl rfl (Nat.le_of_ble_eq_true rfl) (by omega) rfl dX6_readCase_51
    refine g_istore (l1 := [(5, vI rc3), (4, vR (crX (P 110 2).toNat 0)), (0, vR 110), (1, vI a1), (2, vI a2), (3, vI a3)]) dX6_readCase_54 (by decide) rfl ?_
    refine g_iload dX6_readCase_56 rfl ?_
    refine g_iconst dX6_readCase_58 ?_
    refine g_icmp_ne (tgt := 64) dX6_readCase_59 (by decide) ⟨by omega, by omega⟩ (by decide) (fun k4 => ?_) (fun k4 => ?_)
    · refine g_aload dX6_readCase_64 rfl ?_
      refine x_g29_6 (n := (crX (crX (P 110 2).toNat 0) 6)) (ck_28_0 (bk_110_2 hB)) ffX6_187 dX6_readCase_66 rfl ?_
      refine g_iload dX6_readCase_69 rfl ?_
      refine x_l36 (z := (P (crX (crX (P 110 2).toNat 0) 6) rc3)) (ck_29_6 (ck_28_0 (bk_110_2 hB))) dX6_readCase_71 ⟨by omega, by omega⟩ ((FrX.g hFc3 (ck_29_6 (ck_28_0 (bk_110_2 hB))) rfl).trans rfl) ?_
      have f5 := bx_36 (o := (crX (crX (P 110 2).toNat 0) 6)) (k := rc3) hB (ck_29_6 (ck_28_0 (bk_110_2 hB)))
      refine g_if_ne (tgt := 103) dX6_readCase_72 (by decide) ⟨by have q0 := bx_36 (o := (crX (crX (P 110 2).toNat 0) 6)) (k := rc3) hB (ck_29_6 (ck_28_0 (bk_110_2 hB))); omega, by have q0 := bx_36 (o := (crX (crX (P 110 2).toNat 0) 6)) (k := rc3) hB (ck_29_6 (ck_28_0 (bk_110_2 hB))); omega⟩ (fun k6 => ?_) (fun k6 => ?_)
      · refine g_iconst dX6_readCase_103 ?_
        refine g_iload_n dX6_readCase_104 rfl ?_
        refine g_iconst dX6_readCase_105 ?_
        refine g_iadd dX6_readCase_106 ?_
        refine g_imul dX6_readCase_107 ?_
        refine g_istore (l1 := [(6, vI (2 * (a3 + 1))), (5, vI rc3), (4, vR (crX (P 110 2).toNat 0)), (0, vR 110), (1, vI a1), (2, vI a2), (3, vI a3)]) dX6_readCase_108 (by decide) rfl ?_
        refine g_aload_n dX6_readCase_110 rfl ?_
        refine g_bipush dX6_readCase_111 (by decide) ?_
        refine g_vI (av := [vI 40]) (o := 110) (st := []) (m_X6_readSign G Pc3 40 (by decide) hBc3 (TX.fr (F := ([(45, 3), (45, 4), (46, 3), (46, 4), (46, 5), (46, 6), (46, 7), (46, 8)], [])) v_TX (FrX.c FrX.rf hFc3 rfl) rfl) _ (fun rc7 hc7 Pc7 hBc7 hFc7 => ⟨rc7, rfl, ?_⟩)) cf_X6_readSign t_797 rfl (show kx 110 45 from (⟨by decide, rfl⟩ : kx 110 45)).1 ((show kx 110 45 from (⟨by decide, rfl⟩ : kx 110 45)).sh rfl) rfl rfl (Nat.le_of_ble_eq_true rfl) (by omega) rfl dX6_readCase_113
        refine g_if_eq (tgt := 139) dX6_readCase_116 (by decide) ⟨by omega, by omega⟩ (fun k8 => ?_) (fun k8 => ?_)
        · refine g_iconst dX6_readCase_139 ?_
          exact g_retZ dX6_readCase_140 rfl (by decide) (hQ 0 (by decide) _ hBc7 (FrX.c (FrX.c FrX.rf hFc3 rfl) hFc7 rfl) )
        · refine g_aload_n dX6_readCase_119 rfl ?_
          refine g_aload dX6_readCase_120 rfl ?_
          refine x_g29_7 (n := (crX (crX (P 110 2).toNat 0) 7)) (ck_28_0 (bk_110_2 hB)) ffX6_193 dX6_readCase_122 rfl ?_
          refine g_iload dX6_readCase_125 rfl ?_
          refine x_l37 (z := (P (crX (crX (P 110 2).toNat 0) 7) rc3)) (ck_29_7 (ck_28_0 (bk_110_2 hB))) dX6_readCase_127 ⟨by omega, by omega⟩ ((FrX.g hFc7 (ck_29_7 (ck_28_0 (bk_110_2 hB))) rfl).trans ((FrX.g hFc3 (ck_29_7 (ck_28_0 (bk_110_2 hB))) rfl).trans rfl)) ?_
          refine g_iload dX6_readCase_128 rfl ?_
          refine g_iload_n dX6_readCase_130 rfl ?_
          refine g_iconst dX6_readCase_131 ?_
          refine g_iadd dX6_readCase_132 ?_
          have f9 := bx_37 (o := (crX (crX (P 110 2).toNat 0) 7)) (k := rc3) hB (ck_29_7 (ck_28_0 (bk_110_2 hB)))
          refine g_sI (av := [vR 110, vI (P (crX (crX (P 110 2).toNat 0) 7) rc3), vI (2 * (a3 + 1)), vI (a3 + 1)]) (st := []) (ih Pc7 (P (crX (crX (P 110 2).toNat 0) 7) rc3) (2 * (a3 + 1)) (a3 + 1) ⟨by have q0 := bx_37 (o := (crX (crX (P 110 2).toNat 0) 7)) (k := rc3) hB (ck_29_7 (ck_28_0 (bk_110_2 hB))); omega, by have q0 := bx_37 (o := (crX (crX (P 110 2).toNat 0) 7)) (k := rc3) hB (ck_29_7 (ck_28_0 (bk_110_2 hB))); omega⟩ ⟨by omega, by omega⟩ ⟨by omega, by omega⟩ hBc7 (by have q0 := bx_37 (o := (crX (crX (P 110 2).toNat 0) 7)) (k := rc3) hB (ck_29_7 (ck_28_0 (bk_110_2 hB))); omega) (TX.fr (F := ([(45, 3), (45, 4), (46, 3), (46, 4), (46, 5), (46, 6), (46, 7), (46, 8)], [])) v_TX (FrX.c (FrX.c FrX.rf hFc3 rfl) hFc7 rfl) rfl) (by omega) _ (fun rc10 hc10 Pc10 hBc10 hFc10 => ⟨rc10, rfl, ?_⟩)) cf_X6_readPattern t_805 rfl (Nat.le_of_ble_eq_true rfl) (by omega) rfl dX6_readCase_133
          refine g_if_ne (tgt := 141) dX6_readCase_136 (by decide) ⟨by omega, by omega⟩ (fun k11 => ?_) (fun k11 => ?_)
          · refine g_aload dX6_readCase_141 rfl ?_
            refine x_g29_6 (n := (crX (crX (P 110 2).toNat 0) 6)) (ck_28_0 (bk_110_2 hB)) ffX6_187 dX6_readCase_143 rfl ?_
            refine g_iload dX6_readCase_146 rfl ?_
            refine x_l36 (z := (P (crX (crX (P 110 2).toNat 0) 6) rc3)) (ck_29_6 (ck_28_0 (bk_110_2 hB))) dX6_readCase_148 ⟨by omega, by omega⟩ ((FrX.g hFc10 (ck_29_6 (ck_28_0 (bk_110_2 hB))) rfl).trans ((FrX.g hFc7 (ck_29_6 (ck_28_0 (bk_110_2 hB))) rfl).trans ((FrX.g hFc3 (ck_29_6 (ck_28_0 (bk_110_2 hB))) rfl).trans rfl))) ?_
            refine g_iconst dX6_readCase_149 ?_
            have J186_19 : ∀ (H186_19 : PH) (hB186_19 : BdX H186_19) (hE186_19 : FrX ([(45, 3), (45, 4), (46, 3), (46, 4), (46, 5), (46, 6), (46, 7), (46, 8)], [50]) Pc10 H186_19), Go WSX G (11 + 2 * n) iX6_readCase 186 [(0, vR 110), (2, vI a2), (5, vI rc3), (6, vI (2 * (a3 + 1)))] [] H186_19 Q := by
              intro H186_19 hB186_19 hE186_19
              refine g_aload_n dX6_readCase_186 rfl ?_
              refine g_iload dX6_readCase_187 rfl ?_
              refine g_iload_n dX6_readCase_189 rfl ?_
              refine g_iload dX6_readCase_190 rfl ?_
              refine g_vV (av := [vI rc3, vI a2, vI (2 * (a3 + 1))]) (o := 110) (st := []) (m_X6_fillCase G H186_19 rc3 a2 (2 * (a3 + 1)) ⟨by omega, by omega⟩ ⟨by omega, by omega⟩ ⟨by omega, by omega⟩ hB186_19  _ (fun Pc21 hBc21 hFc21 => ⟨rfl, ?_⟩)) cf_X6_fillCase t_832 rfl (show kx 110 45 from (⟨by decide, rfl⟩ : kx 110 45)).1 ((show kx 110 45 from (⟨by decide, rfl⟩ : kx 110 45)).sh rfl) rfl rfl (Nat.le_of_ble_eq_true rfl) (by omega) rfl dX6_readCase_192
              refine g_aload_n dX6_readCase_195 rfl ?_
              refine g_bipush dX6_readCase_196 (by decide) ?_
              refine g_vI (av := [vI 41]) (o := 110) (st := []) (m_X6_readSign G Pc21 41 (by decide) hBc21 (TX.fr (F := ([(45, 3), (45, 4), (46, 3), (46, 4), (46, 5), (46, 6), (46, 7), (46, 8)], [50])) v_TX (FrX.c (FrX.c (FrX.c (FrX.c (FrX.c FrX.rf hFc3 rfl) hFc7 rfl) hFc10 rfl) hE186_19 rfl) hFc21 rfl) rfl) _ (fun rc22 hc22 Pc22 hBc22 hFc22 => ⟨rc22, rfl, ?_⟩)) cf_X6_readSign t_797 rfl (show kx 110 45 from (⟨by decide, rfl⟩ : kx 110 45)).1 ((show kx 110 45 from (⟨by decide, rfl⟩ : kx 110 45)).sh rfl) rfl rfl (Nat.le_of_ble_eq_true rfl) (by omega) rfl dX6_readCase_198
              exact g_retZ dX6_readCase_201 rfl (by omega) (hQ rc22 ⟨by omega, by omega⟩ _ hBc22 (FrX.c (FrX.c (FrX.c (FrX.c (FrX.c (FrX.c FrX.rf hFc3 rfl) hFc7 rfl) hFc10 rfl) hE186_19 rfl) hFc21 rfl) hFc22 rfl) )
            refine g_icmp_ne (tgt := 186) dX6_readCase_150 (by decide) ⟨by have q0 := bx_36 (o := (crX (crX (P 110 2).toNat 0) 6)) (k := rc3) hB (ck_29_6 (ck_28_0 (bk_110_2 hB))); omega, by have q0 := bx_36 (o := (crX (crX (P 110 2).toNat 0) 6)) (k := rc3) hB (ck_29_6 (ck_28_0 (bk_110_2 hB))); omega⟩ (by decide) (fun k23 => ?_) (fun k23 => ?_)
            · refine g_forget (l1 := [(0, vR 110), (2, vI a2), (5, vI rc3), (6, vI (2 * (a3 + 1)))]) (by intro q hq; simp only [List.mem_cons, List.not_mem_nil, or_false] at hq ⊢; rcases hq with rfl | rfl | rfl | rfl <;> simp) ?_
              exact J186_19 _ hBc10 FrX.rf
            · refine g_aload_n dX6_readCase_153 rfl ?_
              refine g_bipush dX6_readCase_154 (by decide) ?_
              refine g_vI (av := [vI 44]) (o := 110) (st := []) (m_X6_readSign G Pc10 44 (by decide) hBc10 (TX.fr (F := ([(45, 3), (45, 4), (46, 3), (46, 4), (46, 5), (46, 6), (46, 7), (46, 8)], [50])) v_TX (FrX.c (FrX.c (FrX.c FrX.rf hFc3 rfl) hFc7 rfl) hFc10 rfl) rfl) _ (fun rc24 hc24 Pc24 hBc24 hFc24 => ⟨rc24, rfl, ?_⟩)) cf_X6_readSign t_797 rfl (show kx 110 45 from (⟨by decide, rfl⟩ : kx 110 45)).1 ((show kx 110 45 from (⟨by decide, rfl⟩ : kx 110 45)).sh rfl) rfl rfl (Nat.le_of_ble_eq_true rfl) (by omega) rfl dX6_readCase_156
              refine g_if_eq (tgt := 184) dX6_readCase_159 (by decide) ⟨by omega, by omega⟩ (fun k25 => ?_) (fun k25 => ?_)
              · refine g_iconst dX6_readCase_184 ?_
                exact g_retZ dX6_readCase_185 rfl (by decide) (hQ 0 (by decide) _ hBc24 (FrX.c (FrX.c (FrX.c (FrX.c FrX.rf hFc3 rfl) hFc7 rfl) hFc10 rfl) hFc24 rfl) )
              · refine g_aload_n dX6_readCase_162 rfl ?_
                refine g_aload dX6_readCase_163 rfl ?_
                refine x_g29_8 (n := (crX (crX (P 110 2).toNat 0) 8)) (ck_28_0 (bk_110_2 hB)) ffX6_196 dX6_readCase_165 rfl ?_
                refine g_iload dX6_readCase_168 rfl ?_
                refine x_l38 (z := (P (crX (crX (P 110 2).toNat 0) 8) rc3)) (ck_29_8 (ck_28_0 (bk_110_2 hB))) dX6_readCase_170 ⟨by omega, by omega⟩ ((FrX.g hFc24 (ck_29_8 (ck_28_0 (bk_110_2 hB))) rfl).trans ((FrX.g hFc10 (ck_29_8 (ck_28_0 (bk_110_2 hB))) rfl).trans ((FrX.g hFc7 (ck_29_8 (ck_28_0 (bk_110_2 hB))) rfl).trans ((FrX.g hFc3 (ck_29_8 (ck_28_0 (bk_110_2 hB))) rfl).trans rfl)))) ?_
                refine g_iload dX6_readCase_171 rfl ?_
                refine g_iconst dX6_readCase_173 ?_
                refine g_iadd dX6_readCase_174 ?_
                refine g_iload_n dX6_readCase_175 rfl ?_
                refine g_iconst dX6_readCase_176 ?_
                refine g_iadd dX6_readCase_177 ?_
                have f26 := bx_38 (o := (crX (crX (P 110 2).toNat 0) 8)) (k := rc3) hB (ck_29_8 (ck_28_0 (bk_110_2 hB)))
                refine g_sI (av := [vR 110, vI (P (crX (crX (P 110 2).toNat 0) 8) rc3), vI ((2 * (a3 + 1)) + 1), vI (a3 + 1)]) (st := []) (ih Pc24 (P (crX (crX (P 110 2).toNat 0) 8) rc3) ((2 * (a3 + 1)) + 1) (a3 + 1) ⟨by have q0 := bx_38 (o := (crX (crX (P 110 2).toNat 0) 8)) (k := rc3) hB (ck_29_8 (ck_28_0 (bk_110_2 hB))); omega, by have q0 := bx_38 (o := (crX (crX (P 110 2).toNat 0) 8)) (k := rc3) hB (ck_29_8 (ck_28_0 (bk_110_2 hB))); omega⟩ ⟨by omega, by omega⟩ ⟨by omega, by omega⟩ hBc24 (by have q0 := bx_38 (o := (crX (crX (P 110 2).toNat 0) 8)) (k := rc3) hB (ck_29_8 (ck_28_0 (bk_110_2 hB))); omega) (TX.fr (F := ([(45, 3), (45, 4), (46, 3), (46, 4), (46, 5), (46, 6), (46, 7), (46, 8)], [50])) v_TX (FrX.c (FrX.c (FrX.c (FrX.c FrX.rf hFc3 rfl) hFc7 rfl) hFc10 rfl) hFc24 rfl) rfl) (by omega) _ (fun rc27 hc27 Pc27 hBc27 hFc27 => ⟨rc27, rfl, ?_⟩)) cf_X6_readPattern t_805 rfl (Nat.le_of_ble_eq_true rfl) (by omega) rfl dX6_readCase_178
                refine g_if_ne (tgt := 186) dX6_readCase_181 (by decide) ⟨by omega, by omega⟩ (fun k28 => ?_) (fun k28 => ?_)
                · refine g_forget (l1 := [(0, vR 110), (2, vI a2), (5, vI rc3), (6, vI (2 * (a3 + 1)))]) (by intro q hq; simp only [List.mem_cons, List.not_mem_nil, or_false] at hq ⊢; rcases hq with rfl | rfl | rfl | rfl <;> simp) ?_
                  exact J186_19 _ hBc27 (FrX.c (FrX.c FrX.rf hFc24 rfl) hFc27 rfl)
                · refine g_iconst dX6_readCase_184 ?_
                  exact g_retZ dX6_readCase_185 rfl (by decide) (hQ 0 (by decide) _ hBc27 (FrX.c (FrX.c (FrX.c (FrX.c (FrX.c FrX.rf hFc3 rfl) hFc7 rfl) hFc10 rfl) hFc24 rfl) hFc27 rfl) )
          · refine g_iconst dX6_readCase_139 ?_
            exact g_retZ dX6_readCase_140 rfl (by decide) (hQ 0 (by decide) _ hBc10 (FrX.c (FrX.c (FrX.c FrX.rf hFc3 rfl) hFc7 rfl) hFc10 rfl) )
      · refine g_aload_n dX6_readCase_75 rfl ?_
        refine x_g45_1 (n := 114) (⟨by decide, rfl⟩ : kx 110 45) ffX6_20 dX6_readCase_76 rfl ?_
        refine g_iload_n dX6_readCase_79 rfl ?_
        refine x_l49 (n := (crX 114 a2.toNat)) (⟨by decide, rfl⟩ : kx 114 49) dX6_readCase_80 ⟨by omega, by omega⟩ rfl ?_
        have kk29 := (ce_49 (j := a2.toNat) (⟨by decide, rfl⟩ : kx 114 49) (by omega))
        refine g_aload dX6_readCase_81 rfl ?_
        refine x_g29_5 (n := (crX (crX (P 110 2).toNat 0) 5)) (ck_28_0 (bk_110_2 hB)) ffX6_190 dX6_readCase_83 rfl ?_
        refine g_iload dX6_readCase_86 rfl ?_
        refine x_l35 (z := (P (crX (crX (P 110 2).toNat 0) 5) rc3)) (ck_29_5 (ck_28_0 (bk_110_2 hB))) dX6_readCase_88 ⟨by omega, by omega⟩ ((FrX.g hFc3 (ck_29_5 (ck_28_0 (bk_110_2 hB))) rfl).trans rfl) ?_
        refine g_aload dX6_readCase_89 rfl ?_
        refine x_g29_5 (n := (crX (crX (P 110 2).toNat 0) 5)) (ck_28_0 (bk_110_2 hB)) ffX6_190 dX6_readCase_91 rfl ?_
        refine g_iload dX6_readCase_94 rfl ?_
        refine x_l35 (z := (P (crX (crX (P 110 2).toNat 0) 5) rc3)) (ck_29_5 (ck_28_0 (bk_110_2 hB))) dX6_readCase_96 ⟨by omega, by omega⟩ ((FrX.g hFc3 (ck_29_5 (ck_28_0 (bk_110_2 hB))) rfl).trans rfl) ?_
        refine g_iconst dX6_readCase_97 ?_
        have f30 := bx_35 (o := (crX (crX (P 110 2).toNat 0) 5)) (k := rc3) hB (ck_29_5 (ck_28_0 (bk_110_2 hB)))
        refine g_sV (av := [vR (crX 114 a2.toNat), vI (P (crX (crX (P 110 2).toNat 0) 5) rc3), vI (P (crX (crX (P 110 2).toNat 0) 5) rc3), vI 1]) (st := []) (m_X6_fill G Pc3 (crX 114 a2.toNat) (P (crX (crX (P 110 2).toNat 0) 5) rc3) (P (crX (crX (P 110 2).toNat 0) 5) rc3) 1 kk29 ⟨by have q0 := bx_35 (o := (crX (crX (P 110 2).toNat 0) 5)) (k := rc3) hB (ck_29_5 (ck_28_0 (bk_110_2 hB))); omega, by have q0 := bx_35 (o := (crX (crX (P 110 2).toNat 0) 5)) (k := rc3) hB (ck_29_5 (ck_28_0 (bk_110_2 hB))); omega⟩ ⟨by have q0 := bx_35 (o := (crX (crX (P 110 2).toNat 0) 5)) (k := rc3) hB (ck_29_5 (ck_28_0 (bk_110_2 hB))); omega, by have q0 := bx_35 (o := (crX (crX (P 110 2).toNat 0) 5)) (k := rc3) hB (ck_29_5 (ck_28_0 (bk_110_2 hB))); omega⟩ (by decide) hBc3  _ (fun Pc31 hBc31 hFc31 => ⟨rfl, ?_⟩)) cf_X6_fill t_808 rfl (Nat.le_of_ble_eq_true rfl) (by omega) rfl dX6_readCase_98
        refine g_iconst dX6_readCase_101 ?_
        exact g_retZ dX6_readCase_102 rfl (by decide) (hQ 1 (by decide) _ hBc31 (FrX.c (FrX.c FrX.rf hFc3 rfl) hFc31 rfl) )
    · refine g_iconst dX6_readCase_62 ?_
      exact g_retZ dX6_readCase_63 rfl (by decide) (hQ 0 (by decide) _ hBc3 (FrX.c FrX.rf hFc3 rfl) )
  · refine g_aload_n dX6_readCase_21 rfl ?_
    refine x_g45_1 (n := 114) (⟨by decide, rfl⟩ : kx 110 45) ffX6_20 dX6_readCase_22 rfl ?_
    refine g_iload_n dX6_readCase_25 rfl ?_
    refine x_l49 (n := (crX 114 a2.toNat)) (⟨by decide, rfl⟩ : kx 114 49) dX6_readCase_26 ⟨by omega, by omega⟩ rfl ?_
    have kk32 := (ce_49 (j := a2.toNat) (⟨by decide, rfl⟩ : kx 114 49) (by omega))
    refine g_iconst dX6_readCase_27 ?_
    refine g_aload dX6_readCase_28 rfl ?_
    refine g_iload_n dX6_readCase_30 rfl ?_
    refine g_vI (av := [vI a1]) (o := (crX (P 110 2).toNat 0)) (st := [vI 0, vR (crX 114 a2.toNat)]) (m_X3_sizeOf G P (crX (P 110 2).toNat 0) a1 (ck_28_0 (bk_110_2 hB)) ⟨by omega, by omega⟩ hB  _ (fun rc33 hc33 => ⟨rc33, rfl, ?_⟩)) cf_X3_sizeOf t_776 rfl (show kx (crX (P 110 2).toNat 0) 29 from (ck_28_0 (bk_110_2 hB))).1 ((show kx (crX (P 110 2).toNat 0) 29 from (ck_28_0 (bk_110_2 hB))).sh rfl) rfl rfl (Nat.le_of_ble_eq_true rfl) (by omega) rfl dX6_readCase_31
    refine g_iconst dX6_readCase_34 ?_
    refine g_isub dX6_readCase_35 ?_
    refine g_norm (fun r34 h_r34 e_r34 => ?_)
    refine g_iconst dX6_readCase_36 ?_
    refine g_sV (av := [vR (crX 114 a2.toNat), vI 0, vI r34, vI 1]) (st := []) (m_X6_fill G P (crX 114 a2.toNat) 0 r34 1 kk32 (by decide) ⟨by omega, by omega⟩ (by decide) hB  _ (fun Pc35 hBc35 hFc35 => ⟨rfl, ?_⟩)) cf_X6_fill t_808 rfl (Nat.le_of_ble_eq_true rfl) (by omega) rfl dX6_readCase_37
    refine g_aload_n dX6_readCase_40 rfl ?_
    refine x_g45_0 (n := 111) (⟨by decide, rfl⟩ : kx 110 45) ffX6_12 dX6_readCase_41 rfl ?_
    refine g_vV (av := []) (o := 111) (st := []) (m_X7_step G Pc35  hBc35 (TX.fr (F := ([], [50])) v_TX (FrX.c FrX.rf hFc35 rfl) rfl) _ (fun Pc36 hBc36 hFc36 => ⟨rfl, ?_⟩)) cf_X7_step t_731 rfl (show kx 111 46 from (⟨by decide, rfl⟩ : kx 111 46)).1 ((show kx 111 46 from (⟨by decide, rfl⟩ : kx 111 46)).sh rfl) rfl rfl (Nat.le_of_ble_eq_true rfl) (by omega) rfl dX6_readCase_44
    refine g_iconst dX6_readCase_47 ?_
    exact g_retZ dX6_readCase_48 rfl (by decide) (hQ 1 (by decide) _ hBc36 (FrX.c (FrX.c FrX.rf hFc35 rfl) hFc36 rfl) )
set_option maxRecDepth 100000 in
set_option maxHeartbeats 4000000 in
theorem mr_X6_readPattern (G : GT) (n : Nat) : st_X6_readPattern G n := by
  induction n with
  | zero => intro P a1 a2 a3 h_a1 h_a2 h_a3 hB p_dp v_TX hm; exact absurd hm (Nat.not_lt_zero _)
  | succ n ih =>
    intro P a1 a2 a3 h_a1 h_a2 h_a3 hB p_dp v_TX hm Q hQ
    refine Ct.of (by decide) (l0 := [(0, vR 110), (1, vI a1), (2, vI a2), (3, vI a3)]) rfl (Nat.le_of_ble_eq_true rfl) ?_
    refine g_iload_n dX6_readPattern_0 rfl ?_
    refine g_iconst dX6_readPattern_1 ?_
    have J18_301 : ∀ (_ : True), Go WSX G (10 + 2 * (n + 1)) iX6_readPattern 18 [(0, vR 110)] [] P Q := by
      intro _
      refine g_aload_n dX6_readPattern_18 rfl ?_
      refine g_vI (av := []) (o := 110) (st := []) (m_X6_failHere G P  hB  _ (fun rc303 hc303 Pc303 hBc303 hFc303 => ⟨rc303, rfl, ?_⟩)) cf_X6_failHere t_723 rfl (show kx 110 45 from (⟨by decide, rfl⟩ : kx 110 45)).1 ((show kx 110 45 from (⟨by decide, rfl⟩ : kx 110 45)).sh rfl) rfl rfl (Nat.le_of_ble_eq_true rfl) (by omega) rfl dX6_readPattern_19
      exact g_retZ dX6_readPattern_22 rfl (by omega) (hQ rc303 ⟨by omega, by omega⟩ _ hBc303 (FrX.c FrX.rf hFc303 rfl) )
    refine g_icmp_gt (tgt := 18) dX6_readPattern_2 (by decide) ⟨by omega, by omega⟩ (by decide) (fun k304 => ?_) (fun k304 => ?_)
    · refine g_forget (l1 := [(0, vR 110)]) (by intro q hq; simp only [List.mem_cons, List.not_mem_nil, or_false] at hq ⊢; rcases hq with rfl <;> simp) ?_
      exact J18_301 trivial
    · refine g_iload_n dX6_readPattern_5 rfl ?_
      refine g_if_lt (tgt := 18) dX6_readPattern_6 (by decide) ⟨by omega, by omega⟩ (fun k305 => ?_) (fun k305 => ?_)
      · refine g_forget (l1 := [(0, vR 110)]) (by intro q hq; simp only [List.mem_cons, List.not_mem_nil, or_false] at hq ⊢; rcases hq with rfl <;> simp) ?_
        exact J18_301 trivial
      · refine g_iload_n dX6_readPattern_9 rfl ?_
        refine g_aload_n dX6_readPattern_10 rfl ?_
        refine x_g45_1 (n := 114) (⟨by decide, rfl⟩ : kx 110 45) ffX6_20 dX6_readPattern_11 rfl ?_
        refine x_n49 (⟨by decide, rfl⟩ : kx 114 49) dX6_readPattern_14 ?_
        refine g_icmp_lt (tgt := 23) dX6_readPattern_15 (by decide) ⟨by omega, by omega⟩ (by decide) (fun k306 => ?_) (fun k306 => ?_)
        · refine g_aload_n dX6_readPattern_23 rfl ?_
          refine x_g45_1 (n := 114) (⟨by decide, rfl⟩ : kx 110 45) ffX6_20 dX6_readPattern_24 rfl ?_
          refine g_iload_n dX6_readPattern_27 rfl ?_
          refine x_l49 (n := (crX 114 a2.toNat)) (⟨by decide, rfl⟩ : kx 114 49) dX6_readPattern_28 ⟨by omega, by omega⟩ rfl ?_
          have kk307 := (ce_49 (j := a2.toNat) (⟨by decide, rfl⟩ : kx 114 49) (by omega))
          refine g_iconst dX6_readPattern_29 ?_
          refine g_aload_n dX6_readPattern_30 rfl ?_
          refine x_g45_2 (n := (P 110 2).toNat) (⟨by decide, rfl⟩ : kx 110 45) ffX6_27 dX6_readPattern_31 (br_110_2 hB) ?_
          refine x_g28_0 (n := (crX (P 110 2).toNat 0)) (bk_110_2 hB) ffX6_108 dX6_readPattern_34 rfl ?_
          refine g_iload_n dX6_readPattern_37 rfl ?_
          refine g_vI (av := [vI a1]) (o := (crX (P 110 2).toNat 0)) (st := [vI 0, vR (crX 114 a2.toNat)]) (m_X3_sizeOf G P (crX (P 110 2).toNat 0) a1 (ck_28_0 (bk_110_2 hB)) ⟨by omega, by omega⟩ hB  _ (fun rc308 hc308 => ⟨rc308, rfl, ?_⟩)) cf_X3_sizeOf t_776 rfl (show kx (crX (P 110 2).toNat 0) 29 from (ck_28_0 (bk_110_2 hB))).1 ((show kx (crX (P 110 2).toNat 0) 29 from (ck_28_0 (bk_110_2 hB))).sh rfl) rfl rfl (Nat.le_of_ble_eq_true rfl) (by omega) rfl dX6_readPattern_38
          refine g_iconst dX6_readPattern_41 ?_
          refine g_isub dX6_readPattern_42 ?_
          refine g_norm (fun r309 h_r309 e_r309 => ?_)
          refine g_iconst dX6_readPattern_43 ?_
          refine g_sV (av := [vR (crX 114 a2.toNat), vI 0, vI r309, vI 0]) (st := []) (m_X6_fill G P (crX 114 a2.toNat) 0 r309 0 kk307 (by decide) ⟨by omega, by omega⟩ (by decide) hB  _ (fun Pc310 hBc310 hFc310 => ⟨rfl, ?_⟩)) cf_X6_fill t_808 rfl (Nat.le_of_ble_eq_true rfl) (by omega) rfl dX6_readPattern_44
          refine g_iconst dX6_readPattern_47 ?_
          refine g_istore (l1 := [(4, vI 0), (0, vR 110), (1, vI a1), (2, vI a2), (3, vI a3)]) dX6_readPattern_48 (by decide) rfl ?_
          have L50_310 : ∀ (n50_310 : Nat) (x50_4_310 : Int) (h_x50_4_310 : 0 ≤ x50_4_310 ∧ x50_4_310 ≤ 1601) (H50_310 : PH) (hB50_310 : BdX H50_310) (hE50_310 : FrX ([(45, 3), (45, 4), (46, 3), (46, 4), (46, 5), (46, 6), (46, 7), (46, 8)], [50]) Pc310 H50_310) (hm50_310 : ((1602 - x50_4_310) : Int).toNat < n50_310), Go WSX G (10 + 2 * (n + 1)) iX6_readPattern 50 [(0, vR 110), (1, vI a1), (2, vI a2), (3, vI a3), (4, vI x50_4_310)] [] H50_310 Q := by
            intro n50_310
            induction n50_310 with
            | zero => intro x50_4_310 h_x50_4_310 H50_310 hB50_310 hE50_310 hm50_310; exact absurd hm50_310 (Nat.not_lt_zero _)
            | succ n50_310 ih50_310 =>
            intro x50_4_310 h_x50_4_310 H50_310 hB50_310 hE50_310 hm50_310
            refine g_iload dX6_readPattern_50 rfl ?_
            refine g_sipush dX6_readPattern_52 (by decide) ?_
            refine g_icmp_gt (tgt := 114) dX6_readPattern_55 (by decide) ⟨by omega, by omega⟩ (by decide) (fun k591 => ?_) (fun k591 => ?_)
            · refine g_aload_n dX6_readPattern_114 rfl ?_
              refine g_vI (av := []) (o := 110) (st := []) (m_X6_failHere G H50_310  hB50_310  _ (fun rc592 hc592 Pc592 hBc592 hFc592 => ⟨rc592, rfl, ?_⟩)) cf_X6_failHere t_723 rfl (show kx 110 45 from (⟨by decide, rfl⟩ : kx 110 45)).1 ((show kx 110 45 from (⟨by decide, rfl⟩ : kx 110 45)).sh rfl) rfl rfl (Nat.le_of_ble_eq_true rfl) (by omega) rfl dX6_readPattern_115
              exact g_retZ dX6_readPattern_118 rfl (by omega) (hQ rc592 ⟨by omega, by omega⟩ _ hBc592 (FrX.c (FrX.c (FrX.c FrX.rf hFc310 rfl) hE50_310 rfl) hFc592 rfl) )
            · refine g_iload_n dX6_readPattern_58 rfl ?_
              refine g_iconst dX6_readPattern_59 ?_
              refine g_icmp_ne (tgt := 71) dX6_readPattern_60 (by decide) ⟨by omega, by omega⟩ (by decide) (fun k593 => ?_) (fun k593 => ?_)
              · refine g_aload_n dX6_readPattern_71 rfl ?_
                refine g_iload_n dX6_readPattern_72 rfl ?_
                refine g_iload_n dX6_readPattern_73 rfl ?_
                refine g_iload_n dX6_readPattern_74 rfl ?_
                refine g_sI (av := [vR 110, vI a1, vI a2, vI a3]) (st := []) (m_X6_readCase G (n := n) ih H50_310 a1 a2 a3 ⟨by omega, by omega⟩ ⟨by omega, by omega⟩ ⟨by omega, by omega⟩ hB50_310 (by omega) (TX.fr (F := ([(45, 3), (45, 4), (46, 3), (46, 4), (46, 5), (46, 6), (46, 7), (46, 8)], [50])) v_TX (FrX.c (FrX.c FrX.rf hFc310 rfl) hE50_310 rfl) rfl) _ (fun rc594 hc594 Pc594 hBc594 hFc594 => ⟨rc594, rfl, ?_⟩)) cf_X6_readCase t_820 rfl (Nat.le_of_ble_eq_true rfl) (by omega) rfl dX6_readPattern_75
                refine g_istore (l1 := [(5, vI rc594), (0, vR 110), (1, vI a1), (2, vI a2), (3, vI a3), (4, vI x50_4_310)]) dX6_readPattern_78 (by decide) rfl ?_
                refine g_iload dX6_readPattern_80 rfl ?_
                refine g_if_ne (tgt := 87) dX6_readPattern_82 (by decide) ⟨by omega, by omega⟩ (fun k595 => ?_) (fun k595 => ?_)
                · refine g_aload_n dX6_readPattern_87 rfl ?_
                  refine x_g45_0 (n := 111) (⟨by decide, rfl⟩ : kx 110 45) ffX6_12 dX6_readPattern_88 rfl ?_
                  refine x_g46_8 (z := (Pc594 111 8)) (⟨by decide, rfl⟩ : kx 111 46) ffX6_43 dX6_readPattern_91 rfl ?_
                  refine g_bipush dX6_readPattern_94 (by decide) ?_
                  have f596 := bx_46_8 (o := 111) hBc594 (⟨by decide, rfl⟩ : kx 111 46)
                  refine g_icmp_eq (tgt := 101) dX6_readPattern_96 (by decide) ⟨by have q0 := bx_46_8 (o := 111) hBc594 (⟨by decide, rfl⟩ : kx 111 46); omega, by have q0 := bx_46_8 (o := 111) hBc594 (⟨by decide, rfl⟩ : kx 111 46); omega⟩ (by decide) (fun k597 => ?_) (fun k597 => ?_)
                  · refine g_aload_n dX6_readPattern_101 rfl ?_
                    refine x_g45_0 (n := 111) (⟨by decide, rfl⟩ : kx 110 45) ffX6_12 dX6_readPattern_102 rfl ?_
                    refine g_vV (av := []) (o := 111) (st := []) (m_X7_step G Pc594  hBc594 (TX.fr (F := ([(45, 3), (45, 4), (46, 3), (46, 4), (46, 5), (46, 6), (46, 7), (46, 8)], [50])) v_TX (FrX.c (FrX.c (FrX.c FrX.rf hFc310 rfl) hE50_310 rfl) hFc594 rfl) rfl) _ (fun Pc598 hBc598 hFc598 => ⟨rfl, ?_⟩)) cf_X7_step t_731 rfl (show kx 111 46 from (⟨by decide, rfl⟩ : kx 111 46)).1 ((show kx 111 46 from (⟨by decide, rfl⟩ : kx 111 46)).sh rfl) rfl rfl (Nat.le_of_ble_eq_true rfl) (by omega) rfl dX6_readPattern_105
                    refine g_iinc (l1 := [(4, vI (x50_4_310 + 1)), (5, vI rc594), (0, vR 110), (1, vI a1), (2, vI a2), (3, vI a3)]) dX6_readPattern_108 rfl (by decide) rfl ?_
                    refine g_goto (tgt := 50) dX6_readPattern_111 (by decide) ?_
                    refine g_forget (l1 := [(0, vR 110), (1, vI a1), (2, vI a2), (3, vI a3), (4, vI (x50_4_310 + 1))]) (by intro q hq; simp only [List.mem_cons, List.not_mem_nil, or_false] at hq ⊢; rcases hq with rfl | rfl | rfl | rfl | rfl <;> simp) ?_
                    exact ih50_310 (x50_4_310 + 1) ⟨by omega, by omega⟩ _ hBc598 (FrX.c (FrX.c (FrX.c FrX.rf hE50_310 rfl) hFc594 rfl) hFc598 rfl) (by omega)
                  · refine g_iconst dX6_readPattern_99 ?_
                    exact g_retZ dX6_readPattern_100 rfl (by decide) (hQ 1 (by decide) _ hBc594 (FrX.c (FrX.c (FrX.c FrX.rf hFc310 rfl) hE50_310 rfl) hFc594 rfl) )
                · refine g_iconst dX6_readPattern_85 ?_
                  exact g_retZ dX6_readPattern_86 rfl (by decide) (hQ 0 (by decide) _ hBc594 (FrX.c (FrX.c (FrX.c FrX.rf hFc310 rfl) hE50_310 rfl) hFc594 rfl) )
              · refine g_aload_n dX6_readPattern_63 rfl ?_
                refine g_iload_n dX6_readPattern_64 rfl ?_
                refine g_vI (av := [vI a2]) (o := 110) (st := []) (m_X6_readRange G H50_310 a2 ⟨by omega, by omega⟩ hB50_310 (TX.fr (F := ([(45, 3), (45, 4), (46, 3), (46, 4), (46, 5), (46, 6), (46, 7), (46, 8)], [50])) v_TX (FrX.c (FrX.c FrX.rf hFc310 rfl) hE50_310 rfl) rfl) _ (fun rc599 hc599 Pc599 hBc599 hFc599 => ⟨rc599, rfl, ?_⟩)) cf_X6_readRange t_812 rfl (show kx 110 45 from (⟨by decide, rfl⟩ : kx 110 45)).1 ((show kx 110 45 from (⟨by decide, rfl⟩ : kx 110 45)).sh rfl) rfl rfl (Nat.le_of_ble_eq_true rfl) (by omega) rfl dX6_readPattern_65
                refine g_goto (tgt := 78) dX6_readPattern_68 (by decide) ?_
                refine g_istore (l1 := [(5, vI rc599), (0, vR 110), (1, vI a1), (2, vI a2), (3, vI a3), (4, vI x50_4_310)]) dX6_readPattern_78 (by decide) rfl ?_
                refine g_iload dX6_readPattern_80 rfl ?_
                refine g_if_ne (tgt := 87) dX6_readPattern_82 (by decide) ⟨by omega, by omega⟩ (fun k600 => ?_) (fun k600 => ?_)
                · refine g_aload_n dX6_readPattern_87 rfl ?_
                  refine x_g45_0 (n := 111) (⟨by decide, rfl⟩ : kx 110 45) ffX6_12 dX6_readPattern_88 rfl ?_
                  refine x_g46_8 (z := (Pc599 111 8)) (⟨by decide, rfl⟩ : kx 111 46) ffX6_43 dX6_readPattern_91 rfl ?_
                  refine g_bipush dX6_readPattern_94 (by decide) ?_
                  have f601 := bx_46_8 (o := 111) hBc599 (⟨by decide, rfl⟩ : kx 111 46)
                  refine g_icmp_eq (tgt := 101) dX6_readPattern_96 (by decide) ⟨by have q0 := bx_46_8 (o := 111) hBc599 (⟨by decide, rfl⟩ : kx 111 46); omega, by have q0 := bx_46_8 (o := 111) hBc599 (⟨by decide, rfl⟩ : kx 111 46); omega⟩ (by decide) (fun k602 => ?_) (fun k602 => ?_)
                  · refine g_aload_n dX6_readPattern_101 rfl ?_
                    refine x_g45_0 (n := 111) (⟨by decide, rfl⟩ : kx 110 45) ffX6_12 dX6_readPattern_102 rfl ?_
                    refine g_vV (av := []) (o := 111) (st := []) (m_X7_step G Pc599  hBc599 (TX.fr (F := ([(45, 3), (45, 4), (46, 3), (46, 4), (46, 5), (46, 6), (46, 7), (46, 8)], [50])) v_TX (FrX.c (FrX.c (FrX.c FrX.rf hFc310 rfl) hE50_310 rfl) hFc599 rfl) rfl) _ (fun Pc603 hBc603 hFc603 => ⟨rfl, ?_⟩)) cf_X7_step t_731 rfl (show kx 111 46 from (⟨by decide, rfl⟩ : kx 111 46)).1 ((show kx 111 46 from (⟨by decide, rfl⟩ : kx 111 46)).sh rfl) rfl rfl (Nat.le_of_ble_eq_true rfl) (by omega) rfl dX6_readPattern_105
                    refine g_iinc (l1 := [(4, vI (x50_4_310 + 1)), (5, vI rc599), (0, vR 110), (1, vI a1), (2, vI a2), (3, vI a3)]) dX6_readPattern_108 rfl (by decide) rfl ?_
                    refine g_goto (tgt := 50) dX6_readPattern_111 (by decide) ?_
                    refine g_forget (l1 := [(0, vR 110), (1, vI a1), (2, vI a2), (3, vI a3), (4, vI (x50_4_310 + 1))]) (by intro q hq; simp only [List.mem_cons, List.not_mem_nil, or_false] at hq ⊢; rcases hq with rfl | rfl | rfl | rfl | rfl <;> simp) ?_
                    exact ih50_310 (x50_4_310 + 1) ⟨by omega, by omega⟩ _ hBc603 (FrX.c (FrX.c (FrX.c FrX.rf hE50_310 rfl) hFc599 rfl) hFc603 rfl) (by omega)
                  · refine g_iconst dX6_readPattern_99 ?_
                    exact g_retZ dX6_readPattern_100 rfl (by decide) (hQ 1 (by decide) _ hBc599 (FrX.c (FrX.c (FrX.c FrX.rf hFc310 rfl) hE50_310 rfl) hFc599 rfl) )
                · refine g_iconst dX6_readPattern_85 ?_
                  exact g_retZ dX6_readPattern_86 rfl (by decide) (hQ 0 (by decide) _ hBc599 (FrX.c (FrX.c (FrX.c FrX.rf hFc310 rfl) hE50_310 rfl) hFc599 rfl) )
          refine g_forget (l1 := [(0, vR 110), (1, vI a1), (2, vI a2), (3, vI a3), (4, vI 0)]) (by intro q hq; simp only [List.mem_cons, List.not_mem_nil, or_false] at hq ⊢; rcases hq with rfl | rfl | rfl | rfl | rfl <;> simp) ?_
          exact L50_310 _ 0 (by decide) _ hBc310 FrX.rf (Nat.lt_succ_self _)
        · refine g_forget (l1 := [(0, vR 110)]) (by intro q hq; simp only [List.mem_cons, List.not_mem_nil, or_false] at hq ⊢; rcases hq with rfl <;> simp) ?_
          exact J18_301 trivial
theorem m_X6_readPattern (G : GT) (P : PH) (a1 : Int) (a2 : Int) (a3 : Int) (h_a1 : (-2147483648) ≤ a1 ∧ a1 ≤ 2147483647) (h_a2 : (-2147483648) ≤ a2 ∧ a2 ≤ 2147483647) (h_a3 : (-2147483648) ≤ a3 ∧ a3 ≤ 2147483647) (hB : BdX P) (p_dp : 0 ≤ a3) (v_TX : TX P) (hm : (6 - a3 : Int).toNat < 7) (Q : Option PV → PH → Prop) (hQ : ∀ (r : Int) (_ : 0 ≤ r ∧ r ≤ 1) (P1 : PH) (_ : BdX P1) (_ : FrX ([(45, 3), (45, 4), (46, 3), (46, 4), (46, 5), (46, 6), (46, 7), (46, 8)], [50]) P P1), Q (some (vI r)) P1) : Ct WSX G 24 iX6_readPattern [vR 110, vI a1, vI a2, vI a3] P Q := mr_X6_readPattern G 7 P a1 a2 a3 h_a1 h_a2 h_a3 hB p_dp v_TX hm Q hQ
set_option maxRecDepth 100000 in
set_option maxHeartbeats 4000000 in
theorem m_X6_readArm (G : GT) (P : PH) (hB : BdX P) (v_TX : TX P) (Q : Option PV → PH → Prop) (hQ : ∀ (r : Int) (_ : 0 ≤ r ∧ r ≤ 1) (P1 : PH) (_ : BdX P1) (_ : FrX ([(28, 8), (45, 3), (45, 4), (46, 3), (46, 4), (46, 5), (46, 6), (46, 7), (46, 8)], [41, 42, 44, 50]) P P1), Q (some (vI r)) P1) : Ct WSX G 25 iX6_readArm [vR 110] P Q := by
  refine Ct.of (by decide) (l0 := [(0, vR 110)]) rfl (Nat.le_of_ble_eq_true rfl) ?_
  refine g_aload_n dX6_readArm_0 rfl ?_
  refine x_g45_2 (n := (P 110 2).toNat) (⟨by decide, rfl⟩ : kx 110 45) ffX6_27 dX6_readArm_1 (br_110_2 hB) ?_
  refine x_g28_6 (z := (P (P 110 2).toNat 6)) (bk_110_2 hB) ffX6_79 dX6_readArm_4 rfl ?_
  have f1 := bx_28_6 (o := (P 110 2).toNat) hB (bk_110_2 hB)
  refine g_if_ne (tgt := 15) dX6_readArm_7 (by decide) ⟨by have q0 := bx_28_6 (o := (P 110 2).toNat) hB (bk_110_2 hB); omega, by have q0 := bx_28_6 (o := (P 110 2).toNat) hB (bk_110_2 hB); omega⟩ (fun k2 => ?_) (fun k2 => ?_)
  · refine g_aload_n dX6_readArm_15 rfl ?_
    refine x_g45_2 (n := (P 110 2).toNat) (⟨by decide, rfl⟩ : kx 110 45) ffX6_27 dX6_readArm_16 (br_110_2 hB) ?_
    refine x_g28_8 (z := (P (P 110 2).toNat 8)) (bk_110_2 hB) ffX6_156 dX6_readArm_19 rfl ?_
    refine g_bipush dX6_readArm_22 (by decide) ?_
    have f3 := bx_28_8 (o := (P 110 2).toNat) hB (bk_110_2 hB)
    refine g_icmp_lt (tgt := 41) dX6_readArm_24 (by decide) ⟨by have q0 := bx_28_8 (o := (P 110 2).toNat) hB (bk_110_2 hB); omega, by have q0 := bx_28_8 (o := (P 110 2).toNat) hB (bk_110_2 hB); omega⟩ (by decide) (fun k4 => ?_) (fun k4 => ?_)
    · refine g_aload_n dX6_readArm_41 rfl ?_
      refine x_g45_0 (n := 111) (⟨by decide, rfl⟩ : kx 110 45) ffX6_12 dX6_readArm_42 rfl ?_
      refine g_vV (av := []) (o := 111) (st := []) (m_X7_step G P  hB v_TX _ (fun Pc5 hBc5 hFc5 => ⟨rfl, ?_⟩)) cf_X7_step t_731 rfl (show kx 111 46 from (⟨by decide, rfl⟩ : kx 111 46)).1 ((show kx 111 46 from (⟨by decide, rfl⟩ : kx 111 46)).sh rfl) rfl rfl (Nat.le_of_ble_eq_true rfl) (by decide) rfl dX6_readArm_45
      refine g_iconst dX6_readArm_48 ?_
      refine g_istore_n (l1 := [(1, vI 0), (0, vR 110)]) dX6_readArm_49 (by decide) rfl ?_
      have L50_5 : ∀ (n50_5 : Nat) (x50_1_5 : Int) (h_x50_1_5 : 0 ≤ x50_1_5 ∧ x50_1_5 ≤ 4) (H50_5 : PH) (hB50_5 : BdX H50_5) (hE50_5 : FrX ([(45, 3), (45, 4), (46, 3), (46, 4), (46, 5), (46, 6), (46, 7), (46, 8)], [41, 44, 50]) Pc5 H50_5) (hm50_5 : ((5 - x50_1_5) : Int).toNat < n50_5), Go WSX G 25 iX6_readArm 50 [(0, vR 110), (1, vI x50_1_5)] [] H50_5 Q := by
        intro n50_5
        induction n50_5 with
        | zero => intro x50_1_5 h_x50_1_5 H50_5 hB50_5 hE50_5 hm50_5; exact absurd hm50_5 (Nat.not_lt_zero _)
        | succ n50_5 ih50_5 =>
        intro x50_1_5 h_x50_1_5 H50_5 hB50_5 hE50_5 hm50_5
        refine g_iload_n dX6_readArm_50 rfl ?_
        refine g_aload_n dX6_readArm_51 rfl ?_
        refine x_g45_2 (n := (P 110 2).toNat) (⟨by decide, rfl⟩ : kx 110 45) ffX6_27 dX6_readArm_52 ((FrX.g hE50_5 (⟨by decide, rfl⟩ : kx 110 45) rfl).trans ((FrX.g hFc5 (⟨by decide, rfl⟩ : kx 110 45) rfl).trans (br_110_2 hB))) ?_
        refine x_g28_6 (z := (P (P 110 2).toNat 6)) (bk_110_2 hB) ffX6_79 dX6_readArm_55 ((FrX.g hE50_5 (bk_110_2 hB) rfl).trans ((FrX.g hFc5 (bk_110_2 hB) rfl).trans rfl)) ?_
        refine g_icmp_ge (tgt := 116) dX6_readArm_58 (by decide) ⟨by omega, by omega⟩ ⟨by have q0 := bx_28_6 (o := (P 110 2).toNat) hB (bk_110_2 hB); omega, by have q0 := bx_28_6 (o := (P 110 2).toNat) hB (bk_110_2 hB); omega⟩ (fun k201 => ?_) (fun k201 => ?_)
        · refine g_iconst dX6_readArm_116 ?_
          refine g_istore_n (l1 := [(1, vI (-1)), (0, vR 110)]) dX6_readArm_117 (by decide) rfl ?_
          refine g_aload_n dX6_readArm_118 rfl ?_
          refine x_g45_0 (n := 111) (⟨by decide, rfl⟩ : kx 110 45) ffX6_12 dX6_readArm_119 rfl ?_
          refine x_g46_8 (z := (H50_5 111 8)) (⟨by decide, rfl⟩ : kx 111 46) ffX6_43 dX6_readArm_122 rfl ?_
          refine g_iconst dX6_readArm_125 ?_
          have f202 := bx_46_8 (o := 111) hB50_5 (⟨by decide, rfl⟩ : kx 111 46)
          have J151_207 : ∀ (x151_1_207 : Int) (h_x151_1_207 : (-2147483648) ≤ x151_1_207 ∧ x151_1_207 ≤ 2147483647) (H151_207 : PH) (hB151_207 : BdX H151_207) (hE151_207 : FrX ([(45, 3), (45, 4), (46, 3), (46, 4), (46, 5), (46, 6), (46, 7), (46, 8)], []) H50_5 H151_207), Go WSX G 25 iX6_readArm 151 [(0, vR 110), (1, vI x151_1_207)] [] H151_207 Q := by
            intro x151_1_207 h_x151_1_207 H151_207 hB151_207 hE151_207
            refine g_aload_n dX6_readArm_151 rfl ?_
            refine x_g45_2 (n := (P 110 2).toNat) (⟨by decide, rfl⟩ : kx 110 45) ffX6_27 dX6_readArm_152 ((FrX.g hE151_207 (⟨by decide, rfl⟩ : kx 110 45) rfl).trans ((FrX.g hE50_5 (⟨by decide, rfl⟩ : kx 110 45) rfl).trans ((FrX.g hFc5 (⟨by decide, rfl⟩ : kx 110 45) rfl).trans (br_110_2 hB)))) ?_
            refine g_iload_n dX6_readArm_155 rfl ?_
            refine g_vV (av := [vI x151_1_207]) (o := (P 110 2).toNat) (st := []) (m_X9_addArm G H151_207 (P 110 2).toNat x151_1_207 (bk_110_2 hB) ⟨by omega, by omega⟩ hB151_207  _ (fun Pc209 hBc209 hFc209 => ⟨rfl, ?_⟩)) cf_X9_addArm t_849 rfl (show kx (P 110 2).toNat 28 from (bk_110_2 hB)).1 ((show kx (P 110 2).toNat 28 from (bk_110_2 hB)).sh rfl) rfl rfl (Nat.le_of_ble_eq_true rfl) (by decide) rfl dX6_readArm_156
            refine g_iconst dX6_readArm_159 ?_
            exact g_retZ dX6_readArm_160 rfl (by decide) (hQ 1 (by decide) _ hBc209 (FrX.c (FrX.c (FrX.c (FrX.c FrX.rf hFc5 rfl) hE50_5 rfl) hE151_207 rfl) hFc209 rfl) )
          refine g_icmp_ne (tgt := 151) dX6_readArm_126 (by decide) ⟨by have q0 := bx_46_8 (o := 111) hB50_5 (⟨by decide, rfl⟩ : kx 111 46); omega, by have q0 := bx_46_8 (o := 111) hB50_5 (⟨by decide, rfl⟩ : kx 111 46); omega⟩ (by decide) (fun k210 => ?_) (fun k210 => ?_)
          · refine g_forget (l1 := [(0, vR 110), (1, vI (-1))]) (by intro q hq; simp only [List.mem_cons, List.not_mem_nil, or_false] at hq ⊢; rcases hq with rfl | rfl <;> simp) ?_
            exact J151_207 (-1) (by decide) _ hB50_5 FrX.rf
          · refine g_aload_n dX6_readArm_129 rfl ?_
            refine x_g45_0 (n := 111) (⟨by decide, rfl⟩ : kx 110 45) ffX6_12 dX6_readArm_130 rfl ?_
            refine g_vV (av := []) (o := 111) (st := []) (m_X7_step G H50_5  hB50_5 (TX.fr (F := ([(45, 3), (45, 4), (46, 3), (46, 4), (46, 5), (46, 6), (46, 7), (46, 8)], [41, 44, 50])) v_TX (FrX.c (FrX.c FrX.rf hFc5 rfl) hE50_5 rfl) rfl) _ (fun Pc211 hBc211 hFc211 => ⟨rfl, ?_⟩)) cf_X7_step t_731 rfl (show kx 111 46 from (⟨by decide, rfl⟩ : kx 111 46)).1 ((show kx 111 46 from (⟨by decide, rfl⟩ : kx 111 46)).sh rfl) rfl rfl (Nat.le_of_ble_eq_true rfl) (by decide) rfl dX6_readArm_133
            refine g_aload_n dX6_readArm_136 rfl ?_
            refine g_iconst dX6_readArm_137 ?_
            refine g_bipush dX6_readArm_138 (by decide) ?_
            refine g_vI (av := [vI 0, vI 7]) (o := 110) (st := []) (m_X6_readNumber G Pc211 0 7 (by decide) (by decide) hBc211 (TX.fr (F := ([(45, 3), (45, 4), (46, 3), (46, 4), (46, 5), (46, 6), (46, 7), (46, 8)], [41, 44, 50])) v_TX (FrX.c (FrX.c (FrX.c FrX.rf hFc5 rfl) hE50_5 rfl) hFc211 rfl) rfl) _ (fun rc212 hc212 Pc212 hBc212 hFc212 => ⟨rc212, rfl, ?_⟩)) cf_X6_readNumber t_816 rfl (show kx 110 45 from (⟨by decide, rfl⟩ : kx 110 45)).1 ((show kx 110 45 from (⟨by decide, rfl⟩ : kx 110 45)).sh rfl) rfl rfl (Nat.le_of_ble_eq_true rfl) (by decide) rfl dX6_readArm_140
            refine g_istore_n (l1 := [(1, vI rc212), (0, vR 110)]) dX6_readArm_143 (by decide) rfl ?_
            refine g_iload_n dX6_readArm_144 rfl ?_
            refine g_iconst dX6_readArm_145 ?_
            refine g_icmp_ne (tgt := 151) dX6_readArm_146 (by decide) ⟨by omega, by omega⟩ (by decide) (fun k213 => ?_) (fun k213 => ?_)
            · refine g_forget (l1 := [(0, vR 110), (1, vI rc212)]) (by intro q hq; simp only [List.mem_cons, List.not_mem_nil, or_false] at hq ⊢; rcases hq with rfl | rfl <;> simp) ?_
              exact J151_207 rc212 ⟨by omega, by omega⟩ _ hBc212 (FrX.c (FrX.c FrX.rf hFc211 rfl) hFc212 rfl)
            · refine g_iconst dX6_readArm_149 ?_
              exact g_retZ dX6_readArm_150 rfl (by decide) (hQ 0 (by decide) _ hBc212 (FrX.c (FrX.c (FrX.c (FrX.c FrX.rf hFc5 rfl) hE50_5 rfl) hFc211 rfl) hFc212 rfl) )
        · refine g_iload_n dX6_readArm_61 rfl ?_
          have J76_221 : ∀ (H76_221 : PH) (hB76_221 : BdX H76_221) (hE76_221 : FrX ([(45, 3), (45, 4), (46, 3), (46, 4), (46, 5), (46, 6), (46, 7), (46, 8)], []) H50_5 H76_221), Go WSX G 25 iX6_readArm 76 [(0, vR 110), (1, vI x50_1_5)] [] H76_221 Q := by
            intro H76_221 hB76_221 hE76_221
            refine g_aload_n dX6_readArm_76 rfl ?_
            refine g_aload_n dX6_readArm_77 rfl ?_
            refine x_g45_2 (n := (P 110 2).toNat) (⟨by decide, rfl⟩ : kx 110 45) ffX6_27 dX6_readArm_78 ((FrX.g hE76_221 (⟨by decide, rfl⟩ : kx 110 45) rfl).trans ((FrX.g hE50_5 (⟨by decide, rfl⟩ : kx 110 45) rfl).trans ((FrX.g hFc5 (⟨by decide, rfl⟩ : kx 110 45) rfl).trans (br_110_2 hB)))) ?_
            refine x_g28_1 (n := (crX (P 110 2).toNat 1)) (bk_110_2 hB) ffX6_159 dX6_readArm_81 rfl ?_
            refine g_iload_n dX6_readArm_84 rfl ?_
            refine x_l39 (z := (P (crX (P 110 2).toNat 1) x50_1_5)) (ck_28_1 (bk_110_2 hB)) dX6_readArm_85 ⟨by omega, by omega⟩ ((FrX.g hE76_221 (ck_28_1 (bk_110_2 hB)) rfl).trans ((FrX.g hE50_5 (ck_28_1 (bk_110_2 hB)) rfl).trans ((FrX.g hFc5 (ck_28_1 (bk_110_2 hB)) rfl).trans rfl))) ?_
            refine g_iconst dX6_readArm_86 ?_
            refine g_iconst dX6_readArm_87 ?_
            have f223 := bx_39 (o := (crX (P 110 2).toNat 1)) (k := x50_1_5) hB (ck_28_1 (bk_110_2 hB))
            refine g_sI (av := [vR 110, vI (P (crX (P 110 2).toNat 1) x50_1_5), vI 0, vI 0]) (st := []) (m_X6_readPattern G H76_221 (P (crX (P 110 2).toNat 1) x50_1_5) 0 0 ⟨by have q0 := bx_39 (o := (crX (P 110 2).toNat 1)) (k := x50_1_5) hB (ck_28_1 (bk_110_2 hB)); omega, by have q0 := bx_39 (o := (crX (P 110 2).toNat 1)) (k := x50_1_5) hB (ck_28_1 (bk_110_2 hB)); omega⟩ (by decide) (by decide) hB76_221 (by have q0 := bx_39 (o := (crX (P 110 2).toNat 1)) (k := x50_1_5) hB (ck_28_1 (bk_110_2 hB)); omega) (TX.fr (F := ([(45, 3), (45, 4), (46, 3), (46, 4), (46, 5), (46, 6), (46, 7), (46, 8)], [41, 44, 50])) v_TX (FrX.c (FrX.c (FrX.c FrX.rf hFc5 rfl) hE50_5 rfl) hE76_221 rfl) rfl) (by omega) _ (fun rc224 hc224 Pc224 hBc224 hFc224 => ⟨rc224, rfl, ?_⟩)) cf_X6_readPattern t_805 rfl (Nat.le_of_ble_eq_true rfl) (by decide) rfl dX6_readArm_88
            refine g_if_ne (tgt := 96) dX6_readArm_91 (by decide) ⟨by omega, by omega⟩ (fun k225 => ?_) (fun k225 => ?_)
            · refine g_aload_n dX6_readArm_96 rfl ?_
              refine x_g45_2 (n := (P 110 2).toNat) (⟨by decide, rfl⟩ : kx 110 45) ffX6_27 dX6_readArm_97 ((FrX.g hFc224 (⟨by decide, rfl⟩ : kx 110 45) rfl).trans ((FrX.g hE76_221 (⟨by decide, rfl⟩ : kx 110 45) rfl).trans ((FrX.g hE50_5 (⟨by decide, rfl⟩ : kx 110 45) rfl).trans ((FrX.g hFc5 (⟨by decide, rfl⟩ : kx 110 45) rfl).trans (br_110_2 hB))))) ?_
              refine g_iload_n dX6_readArm_100 rfl ?_
              refine g_aload_n dX6_readArm_101 rfl ?_
              refine x_g45_1 (n := 114) (⟨by decide, rfl⟩ : kx 110 45) ffX6_20 dX6_readArm_102 rfl ?_
              refine g_iconst dX6_readArm_105 ?_
              refine x_l49 (n := 115) (⟨by decide, rfl⟩ : kx 114 49) dX6_readArm_106 (by decide) rfl ?_
              refine g_vV (av := [vI x50_1_5, vR 115]) (o := (P 110 2).toNat) (st := []) (m_X9_setPattern G Pc224 (P 110 2).toNat x50_1_5 115 (bk_110_2 hB) ⟨by omega, by omega⟩ (⟨by decide, rfl⟩ : kx 115 50) hBc224  _ (fun Pc227 hBc227 hFc227 => ⟨rfl, ?_⟩)) cf_X9_setPattern t_845 rfl (show kx (P 110 2).toNat 28 from (bk_110_2 hB)).1 ((show kx (P 110 2).toNat 28 from (bk_110_2 hB)).sh rfl) rfl rfl (Nat.le_of_ble_eq_true rfl) (by decide) rfl dX6_readArm_107
              refine g_iinc (l1 := [(1, vI (x50_1_5 + 1)), (0, vR 110)]) dX6_readArm_110 rfl (by decide) rfl ?_
              refine g_goto (tgt := 50) dX6_readArm_113 (by decide) ?_
              refine g_forget (l1 := [(0, vR 110), (1, vI (x50_1_5 + 1))]) (by intro q hq; simp only [List.mem_cons, List.not_mem_nil, or_false] at hq ⊢; rcases hq with rfl | rfl <;> simp) ?_
              exact ih50_5 (x50_1_5 + 1) ⟨by omega, by omega⟩ _ hBc227 (FrX.c (FrX.c (FrX.c (FrX.c FrX.rf hE50_5 rfl) hE76_221 rfl) hFc224 rfl) hFc227 rfl) (by omega)
            · refine g_iconst dX6_readArm_94 ?_
              exact g_retZ dX6_readArm_95 rfl (by decide) (hQ 0 (by decide) _ hBc224 (FrX.c (FrX.c (FrX.c (FrX.c FrX.rf hFc5 rfl) hE50_5 rfl) hE76_221 rfl) hFc224 rfl) )
          refine g_if_le (tgt := 76) dX6_readArm_62 (by decide) ⟨by omega, by omega⟩ (fun k228 => ?_) (fun k228 => ?_)
          · refine g_forget (l1 := [(0, vR 110), (1, vI x50_1_5)]) (by intro q hq; simp only [List.mem_cons, List.not_mem_nil, or_false] at hq ⊢; rcases hq with rfl | rfl <;> simp) ?_
            exact J76_221 _ hB50_5 FrX.rf
          · refine g_aload_n dX6_readArm_65 rfl ?_
            refine g_bipush dX6_readArm_66 (by decide) ?_
            refine g_vI (av := [vI 44]) (o := 110) (st := []) (m_X6_readSign G H50_5 44 (by decide) hB50_5 (TX.fr (F := ([(45, 3), (45, 4), (46, 3), (46, 4), (46, 5), (46, 6), (46, 7), (46, 8)], [41, 44, 50])) v_TX (FrX.c (FrX.c FrX.rf hFc5 rfl) hE50_5 rfl) rfl) _ (fun rc229 hc229 Pc229 hBc229 hFc229 => ⟨rc229, rfl, ?_⟩)) cf_X6_readSign t_797 rfl (show kx 110 45 from (⟨by decide, rfl⟩ : kx 110 45)).1 ((show kx 110 45 from (⟨by decide, rfl⟩ : kx 110 45)).sh rfl) rfl rfl (Nat.le_of_ble_eq_true rfl) (by decide) rfl dX6_readArm_68
            refine g_if_ne (tgt := 76) dX6_readArm_71 (by decide) ⟨by omega, by omega⟩ (fun k230 => ?_) (fun k230 => ?_)
            · refine g_forget (l1 := [(0, vR 110), (1, vI x50_1_5)]) (by intro q hq; simp only [List.mem_cons, List.not_mem_nil, or_false] at hq ⊢; rcases hq with rfl | rfl <;> simp) ?_
              exact J76_221 _ hBc229 (FrX.c FrX.rf hFc229 rfl)
            · refine g_iconst dX6_readArm_74 ?_
              exact g_retZ dX6_readArm_75 rfl (by decide) (hQ 0 (by decide) _ hBc229 (FrX.c (FrX.c (FrX.c FrX.rf hFc5 rfl) hE50_5 rfl) hFc229 rfl) )
      refine g_forget (l1 := [(0, vR 110), (1, vI 0)]) (by intro q hq; simp only [List.mem_cons, List.not_mem_nil, or_false] at hq ⊢; rcases hq with rfl | rfl <;> simp) ?_
      exact L50_5 _ 0 (by decide) _ hBc5 FrX.rf (Nat.lt_succ_self _)
    · refine g_aload_n dX6_readArm_27 rfl ?_
      refine g_bipush dX6_readArm_28 (by decide) ?_
      refine g_aload_n dX6_readArm_30 rfl ?_
      refine x_g45_0 (n := 111) (⟨by decide, rfl⟩ : kx 110 45) ffX6_12 dX6_readArm_31 rfl ?_
      refine x_g46_5 (z := (P 111 5)) (⟨by decide, rfl⟩ : kx 111 46) ffX6_72 dX6_readArm_34 rfl ?_
      have f231 := bx_46_5 (o := 111) hB (⟨by decide, rfl⟩ : kx 111 46)
      refine g_vI (av := [vI 6, vI (P 111 5)]) (o := 110) (st := []) (m_X6_fail G P 6 (P 111 5) (by decide) ⟨by have q0 := bx_46_5 (o := 111) hB (⟨by decide, rfl⟩ : kx 111 46); omega, by have q0 := bx_46_5 (o := 111) hB (⟨by decide, rfl⟩ : kx 111 46); omega⟩ hB  _ (fun rc232 hc232 Pc232 hBc232 hFc232 => ⟨rc232, rfl, ?_⟩)) cf_X6_fail t_727 rfl (show kx 110 45 from (⟨by decide, rfl⟩ : kx 110 45)).1 ((show kx 110 45 from (⟨by decide, rfl⟩ : kx 110 45)).sh rfl) rfl rfl (Nat.le_of_ble_eq_true rfl) (by decide) rfl dX6_readArm_37
      exact g_retZ dX6_readArm_40 rfl (by omega) (hQ rc232 ⟨by omega, by omega⟩ _ hBc232 (FrX.c FrX.rf hFc232 rfl) )
  · refine g_aload_n dX6_readArm_10 rfl ?_
    refine g_vI (av := []) (o := 110) (st := []) (m_X6_failHere G P  hB  _ (fun rc233 hc233 Pc233 hBc233 hFc233 => ⟨rc233, rfl, ?_⟩)) cf_X6_failHere t_723 rfl (show kx 110 45 from (⟨by decide, rfl⟩ : kx 110 45)).1 ((show kx 110 45 from (⟨by decide, rfl⟩ : kx 110 45)).sh rfl) rfl rfl (Nat.le_of_ble_eq_true rfl) (by decide) rfl dX6_readArm_11
    exact g_retZ dX6_readArm_14 rfl (by omega) (hQ rc233 ⟨by omega, by omega⟩ _ hBc233 (FrX.c FrX.rf hFc233 rfl) )
set_option maxRecDepth 100000 in
set_option maxHeartbeats 4000000 in
theorem m_X6_readMatch_B16 (G : GT) (P : PH) (o1 : Nat) (k_o1 : kx o1 28) (hB : BdX P) (Q : Option PV → PH → Prop) (hQ : ∀ (r : Int) (_ : (-2147483648) ≤ r ∧ r ≤ 2147483647) (P1 : PH) (_ : BdX P1) (_ : FrX ([(28, 6), (28, 7), (28, 8), (28, 9), (28, 10), (29, 9), (29, 10), (45, 2), (45, 3), (45, 4), (46, 1), (46, 2), (46, 3), (46, 4), (46, 5), (46, 6), (46, 7), (46, 8)], [30, 31, 32, 33, 34, 35, 36, 37, 38, 39, 40, 41, 42, 44, 50]) P P1) (_ : TX P1), Q (some (vI r)) P1) : Ct WSX G 26 iX6_readMatch [vR 110, vR 1, vR o1] P Q := by
  refine Ct.of (by decide) (l0 := [(0, vR 110), (1, vR 1), (2, vR o1)]) rfl (Nat.le_of_ble_eq_true rfl) ?_
  refine g_aload_n dX6_readMatch_0 rfl ?_
  refine g_aload_n dX6_readMatch_1 rfl ?_
  refine x_p45_2 (⟨by decide, rfl⟩ : kx 110 45) pfX6_27 dX6_readMatch_2 ?_
  have hB1 := bw_110_2 (x := o1) hB k_o1
  refine g_aload_n dX6_readMatch_5 rfl ?_
  refine x_g45_2 (n := o1) (⟨by decide, rfl⟩ : kx 110 45) ffX6_27 dX6_readMatch_6 up_same ?_
  refine g_vV (av := []) (o := o1) (st := []) (m_X9_clear G (up P 110 2 ((o1 : Nat) : Int)) o1 k_o1 hB1  _ (fun Pc2 hBc2 hFc2 => ⟨rfl, ?_⟩)) cf_X9_clear t_687 rfl (show kx o1 28 from k_o1).1 ((show kx o1 28 from k_o1).sh rfl) rfl rfl (Nat.le_of_ble_eq_true rfl) (by decide) rfl dX6_readMatch_9
  refine g_aload_n dX6_readMatch_12 rfl ?_
  refine g_aload_n dX6_readMatch_13 rfl ?_
  refine g_vV (av := [vR 1]) (o := 110) (st := []) (m_X6_begin_B16 G Pc2  hBc2  _ (fun Pc3 hBc3 hFc3 vc3_TX => ⟨rfl, ?_⟩)) cf_X6_begin t_695 rfl (show kx 110 45 from (⟨by decide, rfl⟩ : kx 110 45)).1 ((show kx 110 45 from (⟨by decide, rfl⟩ : kx 110 45)).sh rfl) rfl rfl (Nat.le_of_ble_eq_true rfl) (by decide) rfl dX6_readMatch_14
  refine g_iconst dX6_readMatch_17 ?_
  refine g_istore_n (l1 := [(3, vI 0), (0, vR 110), (1, vR 1), (2, vR o1)]) dX6_readMatch_18 (by decide) rfl ?_
  have L19_3 : ∀ (n19_3 : Nat) (x19_3_3 : Int) (h_x19_3_3 : 0 ≤ x19_3_3 ∧ x19_3_3 ≤ 60) (H19_3 : PH) (hB19_3 : BdX H19_3) (hE19_3 : FrX ([(28, 6), (28, 7), (28, 8), (28, 9), (28, 10), (29, 9), (29, 10), (45, 3), (45, 4), (46, 3), (46, 4), (46, 5), (46, 6), (46, 7), (46, 8)], [30, 31, 32, 33, 34, 35, 36, 37, 38, 39, 40, 41, 42, 44, 50]) Pc3 H19_3) (hm19_3 : ((61 - x19_3_3) : Int).toNat < n19_3), Go WSX G 26 iX6_readMatch 19 [(0, vR 110), (3, vI x19_3_3)] [] H19_3 Q := by
    intro n19_3
    induction n19_3 with
    | zero => intro x19_3_3 h_x19_3_3 H19_3 hB19_3 hE19_3 hm19_3; exact absurd hm19_3 (Nat.not_lt_zero _)
    | succ n19_3 ih19_3 =>
    intro x19_3_3 h_x19_3_3 H19_3 hB19_3 hE19_3 hm19_3
    refine g_aload_n dX6_readMatch_19 rfl ?_
    refine x_g45_0 (n := 111) (⟨by decide, rfl⟩ : kx 110 45) ffX6_12 dX6_readMatch_20 rfl ?_
    refine x_g46_4 (z := (H19_3 111 4)) (⟨by decide, rfl⟩ : kx 111 46) ffX6_40 dX6_readMatch_23 rfl ?_
    have f1045 := bx_46_4 (o := 111) hB19_3 (⟨by decide, rfl⟩ : kx 111 46)
    have J166_1084 : ∀ (_ : True), Go WSX G 26 iX6_readMatch 166 [(0, vR 110), (3, vI x19_3_3)] [] H19_3 Q := by
      intro _
      refine g_aload_n dX6_readMatch_166 rfl ?_
      refine x_g45_0 (n := 111) (⟨by decide, rfl⟩ : kx 110 45) ffX6_12 dX6_readMatch_167 rfl ?_
      refine x_g46_4 (z := (H19_3 111 4)) (⟨by decide, rfl⟩ : kx 111 46) ffX6_40 dX6_readMatch_170 rfl ?_
      refine g_if_eq (tgt := 192) dX6_readMatch_173 (by decide) ⟨by have q0 := bx_46_4 (o := 111) hB19_3 (⟨by decide, rfl⟩ : kx 111 46); omega, by have q0 := bx_46_4 (o := 111) hB19_3 (⟨by decide, rfl⟩ : kx 111 46); omega⟩ (fun k1086 => ?_) (fun k1086 => ?_)
      · refine g_aload_n dX6_readMatch_192 rfl ?_
        refine x_g45_2 (n := o1) (⟨by decide, rfl⟩ : kx 110 45) ffX6_27 dX6_readMatch_193 ((FrX.g hE19_3 (⟨by decide, rfl⟩ : kx 110 45) rfl).trans ((FrX.g hFc3 (⟨by decide, rfl⟩ : kx 110 45) rfl).trans ((FrX.g hFc2 (⟨by decide, rfl⟩ : kx 110 45) rfl).trans up_same))) ?_
        refine x_g28_6 (z := (H19_3 o1 6)) k_o1 ffX6_79 dX6_readMatch_196 rfl ?_
        have f1087 := bx_28_6 (o := o1) hB19_3 k_o1
        refine g_if_ne (tgt := 209) dX6_readMatch_199 (by decide) ⟨by have q0 := bx_28_6 (o := o1) hB19_3 k_o1; omega, by have q0 := bx_28_6 (o := o1) hB19_3 k_o1; omega⟩ (fun k1088 => ?_) (fun k1088 => ?_)
        · refine g_iload_n dX6_readMatch_209 rfl ?_
          exact g_retI dX6_readMatch_210 rfl (hQ x19_3_3 ⟨by omega, by omega⟩ _ hB19_3 (FrX.c (FrX.c (FrX.c (FrX.s FrX.rf (⟨by decide, rfl⟩ : kx 110 45) rfl) hFc2 rfl) hFc3 rfl) hE19_3 rfl) (TX.fr (F := ([(28, 6), (28, 7), (28, 8), (28, 9), (28, 10), (29, 9), (29, 10), (45, 3), (45, 4), (46, 3), (46, 4), (46, 5), (46, 6), (46, 7), (46, 8)], [30, 31, 32, 33, 34, 35, 36, 37, 38, 39, 40, 41, 42, 44, 50])) vc3_TX (FrX.c FrX.rf hE19_3 rfl) rfl))
        · refine g_aload_n dX6_readMatch_202 rfl ?_
          refine g_vI (av := []) (o := 110) (st := []) (m_X6_failHere G H19_3  hB19_3  _ (fun rc1089 hc1089 Pc1089 hBc1089 hFc1089 => ⟨rc1089, rfl, ?_⟩)) cf_X6_failHere t_723 rfl (show kx 110 45 from (⟨by decide, rfl⟩ : kx 110 45)).1 ((show kx 110 45 from (⟨by decide, rfl⟩ : kx 110 45)).sh rfl) rfl rfl (Nat.le_of_ble_eq_true rfl) (by decide) rfl dX6_readMatch_203
          refine g_pop dX6_readMatch_206 rfl ?_
          refine g_iconst dX6_readMatch_207 ?_
          exact g_retI dX6_readMatch_208 rfl (hQ (-1) (by decide) _ hBc1089 (FrX.c (FrX.c (FrX.c (FrX.c (FrX.s FrX.rf (⟨by decide, rfl⟩ : kx 110 45) rfl) hFc2 rfl) hFc3 rfl) hE19_3 rfl) hFc1089 rfl) (TX.fr (F := ([(28, 6), (28, 7), (28, 8), (28, 9), (28, 10), (29, 9), (29, 10), (45, 3), (45, 4), (46, 3), (46, 4), (46, 5), (46, 6), (46, 7), (46, 8)], [30, 31, 32, 33, 34, 35, 36, 37, 38, 39, 40, 41, 42, 44, 50])) vc3_TX (FrX.c (FrX.c FrX.rf hE19_3 rfl) hFc1089 rfl) rfl))
      · refine g_aload_n dX6_readMatch_176 rfl ?_
        refine g_bipush dX6_readMatch_177 (by decide) ?_
        refine g_aload_n dX6_readMatch_179 rfl ?_
        refine x_g45_0 (n := 111) (⟨by decide, rfl⟩ : kx 110 45) ffX6_12 dX6_readMatch_180 rfl ?_
        refine x_g46_5 (z := (H19_3 111 5)) (⟨by decide, rfl⟩ : kx 111 46) ffX6_72 dX6_readMatch_183 rfl ?_
        have f1090 := bx_46_5 (o := 111) hB19_3 (⟨by decide, rfl⟩ : kx 111 46)
        refine g_vI (av := [vI 6, vI (H19_3 111 5)]) (o := 110) (st := []) (m_X6_fail G H19_3 6 (H19_3 111 5) (by decide) ⟨by have q0 := bx_46_5 (o := 111) hB19_3 (⟨by decide, rfl⟩ : kx 111 46); omega, by have q0 := bx_46_5 (o := 111) hB19_3 (⟨by decide, rfl⟩ : kx 111 46); omega⟩ hB19_3  _ (fun rc1091 hc1091 Pc1091 hBc1091 hFc1091 => ⟨rc1091, rfl, ?_⟩)) cf_X6_fail t_727 rfl (show kx 110 45 from (⟨by decide, rfl⟩ : kx 110 45)).1 ((show kx 110 45 from (⟨by decide, rfl⟩ : kx 110 45)).sh rfl) rfl rfl (Nat.le_of_ble_eq_true rfl) (by decide) rfl dX6_readMatch_186
        refine g_pop dX6_readMatch_189 rfl ?_
        refine g_iconst dX6_readMatch_190 ?_
        exact g_retI dX6_readMatch_191 rfl (hQ (-1) (by decide) _ hBc1091 (FrX.c (FrX.c (FrX.c (FrX.c (FrX.s FrX.rf (⟨by decide, rfl⟩ : kx 110 45) rfl) hFc2 rfl) hFc3 rfl) hE19_3 rfl) hFc1091 rfl) (TX.fr (F := ([(28, 6), (28, 7), (28, 8), (28, 9), (28, 10), (29, 9), (29, 10), (45, 3), (45, 4), (46, 3), (46, 4), (46, 5), (46, 6), (46, 7), (46, 8)], [30, 31, 32, 33, 34, 35, 36, 37, 38, 39, 40, 41, 42, 44, 50])) vc3_TX (FrX.c (FrX.c FrX.rf hE19_3 rfl) hFc1091 rfl) rfl))
    refine g_if_eq (tgt := 166) dX6_readMatch_26 (by decide) ⟨by have q0 := bx_46_4 (o := 111) hB19_3 (⟨by decide, rfl⟩ : kx 111 46); omega, by have q0 := bx_46_4 (o := 111) hB19_3 (⟨by decide, rfl⟩ : kx 111 46); omega⟩ (fun k1092 => ?_) (fun k1092 => ?_)
    · refine g_forget (l1 := [(0, vR 110), (3, vI x19_3_3)]) (by intro q hq; simp only [List.mem_cons, List.not_mem_nil, or_false] at hq ⊢; rcases hq with rfl | rfl <;> simp) ?_
      exact J166_1084 trivial
    · refine g_iload_n dX6_readMatch_29 rfl ?_
      refine g_bipush dX6_readMatch_30 (by decide) ?_
      refine g_icmp_ge (tgt := 166) dX6_readMatch_32 (by decide) ⟨by omega, by omega⟩ (by decide) (fun k1093 => ?_) (fun k1093 => ?_)
      · refine g_forget (l1 := [(0, vR 110), (3, vI x19_3_3)]) (by intro q hq; simp only [List.mem_cons, List.not_mem_nil, or_false] at hq ⊢; rcases hq with rfl | rfl <;> simp) ?_
        exact J166_1084 trivial
      · refine g_aload_n dX6_readMatch_35 rfl ?_
        refine x_g45_0 (n := 111) (⟨by decide, rfl⟩ : kx 110 45) ffX6_12 dX6_readMatch_36 rfl ?_
        refine x_g46_8 (z := (H19_3 111 8)) (⟨by decide, rfl⟩ : kx 111 46) ffX6_43 dX6_readMatch_39 rfl ?_
        have J144_1105 : ∀ (x144_4_1105 : Int) (h_x144_4_1105 : 0 ≤ x144_4_1105 ∧ x144_4_1105 ≤ 1) (H144_1105 : PH) (hB144_1105 : BdX H144_1105) (hE144_1105 : FrX ([(28, 6), (28, 7), (28, 8), (28, 9), (28, 10), (29, 9), (29, 10), (45, 3), (45, 4), (46, 3), (46, 4), (46, 5), (46, 6), (46, 7), (46, 8)], [30, 31, 32, 33, 34, 35, 36, 37, 38, 39, 40, 41, 42, 44, 50]) H19_3 H144_1105), Go WSX G 26 iX6_readMatch 144 [(0, vR 110), (3, vI x19_3_3), (4, vI x144_4_1105)] [] H144_1105 Q := by
          intro x144_4_1105 h_x144_4_1105 H144_1105 hB144_1105 hE144_1105
          refine g_iload dX6_readMatch_144 rfl ?_
          refine g_if_eq (tgt := 158) dX6_readMatch_146 (by decide) ⟨by omega, by omega⟩ (fun k1107 => ?_) (fun k1107 => ?_)
          · refine g_iconst dX6_readMatch_158 ?_
            exact g_retI dX6_readMatch_159 rfl (hQ (-1) (by decide) _ hB144_1105 (FrX.c (FrX.c (FrX.c (FrX.c (FrX.s FrX.rf (⟨by decide, rfl⟩ : kx 110 45) rfl) hFc2 rfl) hFc3 rfl) hE19_3 rfl) hE144_1105 rfl) (TX.fr (F := ([(28, 6), (28, 7), (28, 8), (28, 9), (28, 10), (29, 9), (29, 10), (45, 3), (45, 4), (46, 3), (46, 4), (46, 5), (46, 6), (46, 7), (46, 8)], [30, 31, 32, 33, 34, 35, 36, 37, 38, 39, 40, 41, 42, 44, 50])) vc3_TX (FrX.c (FrX.c FrX.rf hE19_3 rfl) hE144_1105 rfl) rfl))
          · refine g_aload_n dX6_readMatch_149 rfl ?_
            refine g_bipush dX6_readMatch_150 (by decide) ?_
            refine g_vI (av := [vI 59]) (o := 110) (st := []) (m_X6_readSign G H144_1105 59 (by decide) hB144_1105 (TX.fr (F := ([(28, 6), (28, 7), (28, 8), (28, 9), (28, 10), (29, 9), (29, 10), (45, 3), (45, 4), (46, 3), (46, 4), (46, 5), (46, 6), (46, 7), (46, 8)], [30, 31, 32, 33, 34, 35, 36, 37, 38, 39, 40, 41, 42, 44, 50])) vc3_TX (FrX.c (FrX.c FrX.rf hE19_3 rfl) hE144_1105 rfl) rfl) _ (fun rc1108 hc1108 Pc1108 hBc1108 hFc1108 => ⟨rc1108, rfl, ?_⟩)) cf_X6_readSign t_797 rfl (show kx 110 45 from (⟨by decide, rfl⟩ : kx 110 45)).1 ((show kx 110 45 from (⟨by decide, rfl⟩ : kx 110 45)).sh rfl) rfl rfl (Nat.le_of_ble_eq_true rfl) (by decide) rfl dX6_readMatch_152
            refine g_if_ne (tgt := 160) dX6_readMatch_155 (by decide) ⟨by omega, by omega⟩ (fun k1109 => ?_) (fun k1109 => ?_)
            · refine g_iinc (l1 := [(3, vI (x19_3_3 + 1)), (0, vR 110), (4, vI x144_4_1105)]) dX6_readMatch_160 rfl (by decide) rfl ?_
              refine g_goto (tgt := 19) dX6_readMatch_163 (by decide) ?_
              refine g_forget (l1 := [(0, vR 110), (3, vI (x19_3_3 + 1))]) (by intro q hq; simp only [List.mem_cons, List.not_mem_nil, or_false] at hq ⊢; rcases hq with rfl | rfl <;> simp) ?_
              exact ih19_3 (x19_3_3 + 1) ⟨by omega, by omega⟩ _ hBc1108 (FrX.c (FrX.c (FrX.c FrX.rf hE19_3 rfl) hE144_1105 rfl) hFc1108 rfl) (by omega)
            · refine g_iconst dX6_readMatch_158 ?_
              exact g_retI dX6_readMatch_159 rfl (hQ (-1) (by decide) _ hBc1108 (FrX.c (FrX.c (FrX.c (FrX.c (FrX.c (FrX.s FrX.rf (⟨by decide, rfl⟩ : kx 110 45) rfl) hFc2 rfl) hFc3 rfl) hE19_3 rfl) hE144_1105 rfl) hFc1108 rfl) (TX.fr (F := ([(28, 6), (28, 7), (28, 8), (28, 9), (28, 10), (29, 9), (29, 10), (45, 3), (45, 4), (46, 3), (46, 4), (46, 5), (46, 6), (46, 7), (46, 8)], [30, 31, 32, 33, 34, 35, 36, 37, 38, 39, 40, 41, 42, 44, 50])) vc3_TX (FrX.c (FrX.c (FrX.c FrX.rf hE19_3 rfl) hE144_1105 rfl) hFc1108 rfl) rfl))
        by_cases k1110 : (H19_3 111 8) = 0
        · refine g_tswI (tgt := 84) 0 dX6_readMatch_42 ⟨by have q0 := bx_46_8 (o := 111) hB19_3 (⟨by decide, rfl⟩ : kx 111 46); omega, by have q0 := bx_46_8 (o := 111) hB19_3 (⟨by decide, rfl⟩ : kx 111 46); omega⟩ (by omega) (by omega) rfl (by decide) ?_
          refine g_aload_n dX6_readMatch_84 rfl ?_
          refine g_vI (av := []) (o := 110) (st := []) (m_X6_readKind G H19_3  hB19_3 (TX.fr (F := ([(28, 6), (28, 7), (28, 8), (28, 9), (28, 10), (29, 9), (29, 10), (45, 3), (45, 4), (46, 3), (46, 4), (46, 5), (46, 6), (46, 7), (46, 8)], [30, 31, 32, 33, 34, 35, 36, 37, 38, 39, 40, 41, 42, 44, 50])) vc3_TX (FrX.c FrX.rf hE19_3 rfl) rfl) _ (fun rc1111 hc1111 Pc1111 hBc1111 hFc1111 => ⟨rc1111, rfl, ?_⟩)) cf_X6_readKind t_719 rfl (show kx 110 45 from (⟨by decide, rfl⟩ : kx 110 45)).1 ((show kx 110 45 from (⟨by decide, rfl⟩ : kx 110 45)).sh rfl) rfl rfl (Nat.le_of_ble_eq_true rfl) (by decide) rfl dX6_readMatch_85
          refine g_istore (l1 := [(4, vI rc1111), (0, vR 110), (3, vI x19_3_3)]) dX6_readMatch_88 (by decide) rfl ?_
          refine g_goto (tgt := 144) dX6_readMatch_90 (by decide) ?_
          refine g_forget (l1 := [(0, vR 110), (3, vI x19_3_3), (4, vI rc1111)]) (by intro q hq; simp only [List.mem_cons, List.not_mem_nil, or_false] at hq ⊢; rcases hq with rfl | rfl | rfl <;> simp) ?_
          exact J144_1105 rc1111 ⟨by omega, by omega⟩ _ hBc1111 (FrX.c FrX.rf hFc1111 rfl)
        by_cases k1112 : (H19_3 111 8) = 1
        · refine g_tswI (tgt := 93) 1 dX6_readMatch_42 ⟨by have q0 := bx_46_8 (o := 111) hB19_3 (⟨by decide, rfl⟩ : kx 111 46); omega, by have q0 := bx_46_8 (o := 111) hB19_3 (⟨by decide, rfl⟩ : kx 111 46); omega⟩ (by omega) (by omega) rfl (by decide) ?_
          refine g_aload_n dX6_readMatch_93 rfl ?_
          refine g_vI (av := []) (o := 110) (st := []) (m_X6_readCon G H19_3  hB19_3 (TX.fr (F := ([(28, 6), (28, 7), (28, 8), (28, 9), (28, 10), (29, 9), (29, 10), (45, 3), (45, 4), (46, 3), (46, 4), (46, 5), (46, 6), (46, 7), (46, 8)], [30, 31, 32, 33, 34, 35, 36, 37, 38, 39, 40, 41, 42, 44, 50])) vc3_TX (FrX.c FrX.rf hE19_3 rfl) rfl) _ (fun rc1113 hc1113 Pc1113 hBc1113 hFc1113 => ⟨rc1113, rfl, ?_⟩)) cf_X6_readCon t_752 rfl (show kx 110 45 from (⟨by decide, rfl⟩ : kx 110 45)).1 ((show kx 110 45 from (⟨by decide, rfl⟩ : kx 110 45)).sh rfl) rfl rfl (Nat.le_of_ble_eq_true rfl) (by decide) rfl dX6_readMatch_94
          refine g_istore (l1 := [(4, vI rc1113), (0, vR 110), (3, vI x19_3_3)]) dX6_readMatch_97 (by decide) rfl ?_
          refine g_goto (tgt := 144) dX6_readMatch_99 (by decide) ?_
          refine g_forget (l1 := [(0, vR 110), (3, vI x19_3_3), (4, vI rc1113)]) (by intro q hq; simp only [List.mem_cons, List.not_mem_nil, or_false] at hq ⊢; rcases hq with rfl | rfl | rfl <;> simp) ?_
          exact J144_1105 rc1113 ⟨by omega, by omega⟩ _ hBc1113 (FrX.c FrX.rf hFc1113 rfl)
        by_cases k1114 : (H19_3 111 8) = 2
        · refine g_tswI (tgt := 102) 2 dX6_readMatch_42 ⟨by have q0 := bx_46_8 (o := 111) hB19_3 (⟨by decide, rfl⟩ : kx 111 46); omega, by have q0 := bx_46_8 (o := 111) hB19_3 (⟨by decide, rfl⟩ : kx 111 46); omega⟩ (by omega) (by omega) rfl (by decide) ?_
          refine g_aload_n dX6_readMatch_102 rfl ?_
          refine g_vI (av := []) (o := 110) (st := []) (m_X6_readColumns G H19_3  hB19_3 (TX.fr (F := ([(28, 6), (28, 7), (28, 8), (28, 9), (28, 10), (29, 9), (29, 10), (45, 3), (45, 4), (46, 3), (46, 4), (46, 5), (46, 6), (46, 7), (46, 8)], [30, 31, 32, 33, 34, 35, 36, 37, 38, 39, 40, 41, 42, 44, 50])) vc3_TX (FrX.c FrX.rf hE19_3 rfl) rfl) _ (fun rc1115 hc1115 Pc1115 hBc1115 hFc1115 => ⟨rc1115, rfl, ?_⟩)) cf_X6_readColumns t_784 rfl (show kx 110 45 from (⟨by decide, rfl⟩ : kx 110 45)).1 ((show kx 110 45 from (⟨by decide, rfl⟩ : kx 110 45)).sh rfl) rfl rfl (Nat.le_of_ble_eq_true rfl) (by decide) rfl dX6_readMatch_103
          refine g_istore (l1 := [(4, vI rc1115), (0, vR 110), (3, vI x19_3_3)]) dX6_readMatch_106 (by decide) rfl ?_
          refine g_goto (tgt := 144) dX6_readMatch_108 (by decide) ?_
          refine g_forget (l1 := [(0, vR 110), (3, vI x19_3_3), (4, vI rc1115)]) (by intro q hq; simp only [List.mem_cons, List.not_mem_nil, or_false] at hq ⊢; rcases hq with rfl | rfl | rfl <;> simp) ?_
          exact J144_1105 rc1115 ⟨by omega, by omega⟩ _ hBc1115 (FrX.c FrX.rf hFc1115 rfl)
        by_cases k1116 : (H19_3 111 8) = 3
        · refine g_tswI (tgt := 111) 3 dX6_readMatch_42 ⟨by have q0 := bx_46_8 (o := 111) hB19_3 (⟨by decide, rfl⟩ : kx 111 46); omega, by have q0 := bx_46_8 (o := 111) hB19_3 (⟨by decide, rfl⟩ : kx 111 46); omega⟩ (by omega) (by omega) rfl (by decide) ?_
          refine g_aload_n dX6_readMatch_111 rfl ?_
          refine g_vI (av := []) (o := 110) (st := []) (m_X6_readArm G H19_3  hB19_3 (TX.fr (F := ([(28, 6), (28, 7), (28, 8), (28, 9), (28, 10), (29, 9), (29, 10), (45, 3), (45, 4), (46, 3), (46, 4), (46, 5), (46, 6), (46, 7), (46, 8)], [30, 31, 32, 33, 34, 35, 36, 37, 38, 39, 40, 41, 42, 44, 50])) vc3_TX (FrX.c FrX.rf hE19_3 rfl) rfl) _ (fun rc1117 hc1117 Pc1117 hBc1117 hFc1117 => ⟨rc1117, rfl, ?_⟩)) cf_X6_readArm t_793 rfl (show kx 110 45 from (⟨by decide, rfl⟩ : kx 110 45)).1 ((show kx 110 45 from (⟨by decide, rfl⟩ : kx 110 45)).sh rfl) rfl rfl (Nat.le_of_ble_eq_true rfl) (by decide) rfl dX6_readMatch_112
          refine g_istore (l1 := [(4, vI rc1117), (0, vR 110), (3, vI x19_3_3)]) dX6_readMatch_115 (by decide) rfl ?_
          refine g_goto (tgt := 144) dX6_readMatch_117 (by decide) ?_
          refine g_forget (l1 := [(0, vR 110), (3, vI x19_3_3), (4, vI rc1117)]) (by intro q hq; simp only [List.mem_cons, List.not_mem_nil, or_false] at hq ⊢; rcases hq with rfl | rfl | rfl <;> simp) ?_
          exact J144_1105 rc1117 ⟨by omega, by omega⟩ _ hBc1117 (FrX.c FrX.rf hFc1117 rfl)
        by_cases k1118 : (H19_3 111 8) = 4
        · refine g_tswI (tgt := 138) 4 dX6_readMatch_42 ⟨by have q0 := bx_46_8 (o := 111) hB19_3 (⟨by decide, rfl⟩ : kx 111 46); omega, by have q0 := bx_46_8 (o := 111) hB19_3 (⟨by decide, rfl⟩ : kx 111 46); omega⟩ (by omega) (by omega) rfl (by decide) ?_
          refine g_aload_n dX6_readMatch_138 rfl ?_
          refine g_vI (av := []) (o := 110) (st := []) (m_X6_failHere G H19_3  hB19_3  _ (fun rc1119 hc1119 Pc1119 hBc1119 hFc1119 => ⟨rc1119, rfl, ?_⟩)) cf_X6_failHere t_723 rfl (show kx 110 45 from (⟨by decide, rfl⟩ : kx 110 45)).1 ((show kx 110 45 from (⟨by decide, rfl⟩ : kx 110 45)).sh rfl) rfl rfl (Nat.le_of_ble_eq_true rfl) (by decide) rfl dX6_readMatch_139
          refine g_istore (l1 := [(4, vI rc1119), (0, vR 110), (3, vI x19_3_3)]) dX6_readMatch_142 (by decide) rfl ?_
          refine g_forget (l1 := [(0, vR 110), (3, vI x19_3_3), (4, vI rc1119)]) (by intro q hq; simp only [List.mem_cons, List.not_mem_nil, or_false] at hq ⊢; rcases hq with rfl | rfl | rfl <;> simp) ?_
          exact J144_1105 rc1119 ⟨by omega, by omega⟩ _ hBc1119 (FrX.c FrX.rf hFc1119 rfl)
        by_cases k1120 : (H19_3 111 8) = 5
        · refine g_tswI (tgt := 120) 5 dX6_readMatch_42 ⟨by have q0 := bx_46_8 (o := 111) hB19_3 (⟨by decide, rfl⟩ : kx 111 46); omega, by have q0 := bx_46_8 (o := 111) hB19_3 (⟨by decide, rfl⟩ : kx 111 46); omega⟩ (by omega) (by omega) rfl (by decide) ?_
          refine g_aload_n dX6_readMatch_120 rfl ?_
          refine g_vI (av := []) (o := 110) (st := []) (m_X6_readRule G H19_3  hB19_3 (TX.fr (F := ([(28, 6), (28, 7), (28, 8), (28, 9), (28, 10), (29, 9), (29, 10), (45, 3), (45, 4), (46, 3), (46, 4), (46, 5), (46, 6), (46, 7), (46, 8)], [30, 31, 32, 33, 34, 35, 36, 37, 38, 39, 40, 41, 42, 44, 50])) vc3_TX (FrX.c FrX.rf hE19_3 rfl) rfl) _ (fun rc1121 hc1121 Pc1121 hBc1121 hFc1121 => ⟨rc1121, rfl, ?_⟩)) cf_X6_readRule t_853 rfl (show kx 110 45 from (⟨by decide, rfl⟩ : kx 110 45)).1 ((show kx 110 45 from (⟨by decide, rfl⟩ : kx 110 45)).sh rfl) rfl rfl (Nat.le_of_ble_eq_true rfl) (by decide) rfl dX6_readMatch_121
          refine g_istore (l1 := [(4, vI rc1121), (0, vR 110), (3, vI x19_3_3)]) dX6_readMatch_124 (by decide) rfl ?_
          refine g_goto (tgt := 144) dX6_readMatch_126 (by decide) ?_
          refine g_forget (l1 := [(0, vR 110), (3, vI x19_3_3), (4, vI rc1121)]) (by intro q hq; simp only [List.mem_cons, List.not_mem_nil, or_false] at hq ⊢; rcases hq with rfl | rfl | rfl <;> simp) ?_
          exact J144_1105 rc1121 ⟨by omega, by omega⟩ _ hBc1121 (FrX.c FrX.rf hFc1121 rfl)
        by_cases k1122 : (H19_3 111 8) = 6
        · refine g_tswI (tgt := 129) 6 dX6_readMatch_42 ⟨by have q0 := bx_46_8 (o := 111) hB19_3 (⟨by decide, rfl⟩ : kx 111 46); omega, by have q0 := bx_46_8 (o := 111) hB19_3 (⟨by decide, rfl⟩ : kx 111 46); omega⟩ (by omega) (by omega) rfl (by decide) ?_
          refine g_aload_n dX6_readMatch_129 rfl ?_
          refine g_vI (av := []) (o := 110) (st := []) (m_X6_readBudget G H19_3  hB19_3 (TX.fr (F := ([(28, 6), (28, 7), (28, 8), (28, 9), (28, 10), (29, 9), (29, 10), (45, 3), (45, 4), (46, 3), (46, 4), (46, 5), (46, 6), (46, 7), (46, 8)], [30, 31, 32, 33, 34, 35, 36, 37, 38, 39, 40, 41, 42, 44, 50])) vc3_TX (FrX.c FrX.rf hE19_3 rfl) rfl) _ (fun rc1123 hc1123 Pc1123 hBc1123 hFc1123 => ⟨rc1123, rfl, ?_⟩)) cf_X6_readBudget t_857 rfl (show kx 110 45 from (⟨by decide, rfl⟩ : kx 110 45)).1 ((show kx 110 45 from (⟨by decide, rfl⟩ : kx 110 45)).sh rfl) rfl rfl (Nat.le_of_ble_eq_true rfl) (by decide) rfl dX6_readMatch_130
          refine g_istore (l1 := [(4, vI rc1123), (0, vR 110), (3, vI x19_3_3)]) dX6_readMatch_133 (by decide) rfl ?_
          refine g_goto (tgt := 144) dX6_readMatch_135 (by decide) ?_
          refine g_forget (l1 := [(0, vR 110), (3, vI x19_3_3), (4, vI rc1123)]) (by intro q hq; simp only [List.mem_cons, List.not_mem_nil, or_false] at hq ⊢; rcases hq with rfl | rfl | rfl <;> simp) ?_
          exact J144_1105 rc1123 ⟨by omega, by omega⟩ _ hBc1123 (FrX.c FrX.rf hFc1123 rfl)
        refine g_tswO (tgt := 138) dX6_readMatch_42 ⟨by have q0 := bx_46_8 (o := 111) hB19_3 (⟨by decide, rfl⟩ : kx 111 46); omega, by have q0 := bx_46_8 (o := 111) hB19_3 (⟨by decide, rfl⟩ : kx 111 46); omega⟩ (by omega) (by decide) ?_
        refine g_aload_n dX6_readMatch_138 rfl ?_
        refine g_vI (av := []) (o := 110) (st := []) (m_X6_failHere G H19_3  hB19_3  _ (fun rc1124 hc1124 Pc1124 hBc1124 hFc1124 => ⟨rc1124, rfl, ?_⟩)) cf_X6_failHere t_723 rfl (show kx 110 45 from (⟨by decide, rfl⟩ : kx 110 45)).1 ((show kx 110 45 from (⟨by decide, rfl⟩ : kx 110 45)).sh rfl) rfl rfl (Nat.le_of_ble_eq_true rfl) (by decide) rfl dX6_readMatch_139
        refine g_istore (l1 := [(4, vI rc1124), (0, vR 110), (3, vI x19_3_3)]) dX6_readMatch_142 (by decide) rfl ?_
        refine g_forget (l1 := [(0, vR 110), (3, vI x19_3_3), (4, vI rc1124)]) (by intro q hq; simp only [List.mem_cons, List.not_mem_nil, or_false] at hq ⊢; rcases hq with rfl | rfl | rfl <;> simp) ?_
        exact J144_1105 rc1124 ⟨by omega, by omega⟩ _ hBc1124 (FrX.c FrX.rf hFc1124 rfl)
  refine g_forget (l1 := [(0, vR 110), (3, vI 0)]) (by intro q hq; simp only [List.mem_cons, List.not_mem_nil, or_false] at hq ⊢; rcases hq with rfl | rfl <;> simp) ?_
  exact L19_3 _ 0 (by decide) _ hBc3 FrX.rf (Nat.lt_succ_self _)
def st_X6_readValue (G : GT) (n : Nat) : Prop := ∀ (P : PH) (a1 : Int) (a2 : Int) (h_a1 : (-2147483648) ≤ a1 ∧ a1 ≤ 2147483647) (h_a2 : (-2147483648) ≤ a2 ∧ a2 ≤ 2147483647) (hB : BdX P) (p_dp : 0 ≤ a2) (v_TX : TX P) (hm : (6 - a2 : Int).toNat < n) (Q : Option PV → PH → Prop) (hQ : ∀ (r : Int) (_ : (-2147483648) ≤ r ∧ r ≤ 2147483647) (P1 : PH) (_ : BdX P1) (_ : FrX ([(45, 3), (45, 4), (46, 3), (46, 4), (46, 5), (46, 6), (46, 7), (46, 8)], []) P P1), Q (some (vI r)) P1), Ct WSX G (4 + 1 * n) iX6_readValue [vR 110, vI a1, vI a2] P Q
set_option maxRecDepth 100000 in
set_option maxHeartbeats 4000000 in
theorem mr_X6_readValue (G : GT) (n : Nat) : st_X6_readValue G n := by
  induction n with
  | zero => intro P a1 a2 h_a1 h_a2 hB p_dp v_TX hm; exact absurd hm (Nat.not_lt_zero _)
  | succ n ih =>
    intro P a1 a2 h_a1 h_a2 hB p_dp v_TX hm Q hQ
    refine Ct.of (by decide) (l0 := [(0, vR 110), (1, vI a1), (2, vI a2)]) rfl (Nat.le_of_ble_eq_true rfl) ?_
    refine g_iload_n dX6_readValue_0 rfl ?_
    refine g_iconst dX6_readValue_1 ?_
    refine g_icmp_ne (tgt := 13) dX6_readValue_2 (by decide) ⟨by omega, by omega⟩ (by decide) (fun k1 => ?_) (fun k1 => ?_)
    · refine g_iload_n dX6_readValue_13 rfl ?_
      refine g_iconst dX6_readValue_14 ?_
      refine g_icmp_le (tgt := 22) dX6_readValue_15 (by decide) ⟨by omega, by omega⟩ (by decide) (fun k2 => ?_) (fun k2 => ?_)
      · refine g_aload_n dX6_readValue_22 rfl ?_
        refine g_iload_n dX6_readValue_23 rfl ?_
        refine g_vI (av := [vI a1]) (o := 110) (st := []) (m_X6_readConName G P a1 ⟨by omega, by omega⟩ hB v_TX _ (fun rc3 hc3 Pc3 hBc3 hFc3 => ⟨rc3, rfl, ?_⟩)) cf_X6_readConName t_823 rfl (show kx 110 45 from (⟨by decide, rfl⟩ : kx 110 45)).1 ((show kx 110 45 from (⟨by decide, rfl⟩ : kx 110 45)).sh rfl) rfl rfl (Nat.le_of_ble_eq_true rfl) (by omega) rfl dX6_readValue_24
        refine g_istore_n (l1 := [(3, vI rc3), (0, vR 110), (1, vI a1), (2, vI a2)]) dX6_readValue_27 (by decide) rfl ?_
        refine g_iload_n dX6_readValue_28 rfl ?_
        refine g_iconst dX6_readValue_29 ?_
        refine g_icmp_ne (tgt := 35) dX6_readValue_30 (by decide) ⟨by omega, by omega⟩ (by decide) (fun k4 => ?_) (fun k4 => ?_)
        · refine g_aload_n dX6_readValue_35 rfl ?_
          refine x_g45_2 (n := (P 110 2).toNat) (⟨by decide, rfl⟩ : kx 110 45) ffX6_27 dX6_readValue_36 ((FrX.g hFc3 (⟨by decide, rfl⟩ : kx 110 45) rfl).trans (br_110_2 hB)) ?_
          refine x_g28_0 (n := (crX (P 110 2).toNat 0)) (bk_110_2 hB) ffX6_108 dX6_readValue_39 rfl ?_
          refine g_astore (l1 := [(4, vR (crX (P 110 2).toNat 0)), (3, vI rc3), (0, vR 110), (1, vI a1), (2, vI a2)]) dX6_readValue_42 (by decide) rfl ?_
          refine g_aload dX6_readValue_44 rfl ?_
          refine x_g29_6 (n := (crX (crX (P 110 2).toNat 0) 6)) (ck_28_0 (bk_110_2 hB)) ffX6_187 dX6_readValue_46 rfl ?_
          refine g_iload_n dX6_readValue_49 rfl ?_
          refine x_l36 (z := (P (crX (crX (P 110 2).toNat 0) 6) rc3)) (ck_29_6 (ck_28_0 (bk_110_2 hB))) dX6_readValue_50 ⟨by omega, by omega⟩ ((FrX.g hFc3 (ck_29_6 (ck_28_0 (bk_110_2 hB))) rfl).trans rfl) ?_
          have f5 := bx_36 (o := (crX (crX (P 110 2).toNat 0) 6)) (k := rc3) hB (ck_29_6 (ck_28_0 (bk_110_2 hB)))
          refine g_if_ne (tgt := 62) dX6_readValue_51 (by decide) ⟨by have q0 := bx_36 (o := (crX (crX (P 110 2).toNat 0) 6)) (k := rc3) hB (ck_29_6 (ck_28_0 (bk_110_2 hB))); omega, by have q0 := bx_36 (o := (crX (crX (P 110 2).toNat 0) 6)) (k := rc3) hB (ck_29_6 (ck_28_0 (bk_110_2 hB))); omega⟩ (fun k6 => ?_) (fun k6 => ?_)
          · refine g_aload_n dX6_readValue_62 rfl ?_
            refine g_bipush dX6_readValue_63 (by decide) ?_
            refine g_vI (av := [vI 40]) (o := 110) (st := []) (m_X6_readSign G Pc3 40 (by decide) hBc3 (TX.fr (F := ([(45, 3), (45, 4), (46, 3), (46, 4), (46, 5), (46, 6), (46, 7), (46, 8)], [])) v_TX (FrX.c FrX.rf hFc3 rfl) rfl) _ (fun rc7 hc7 Pc7 hBc7 hFc7 => ⟨rc7, rfl, ?_⟩)) cf_X6_readSign t_797 rfl (show kx 110 45 from (⟨by decide, rfl⟩ : kx 110 45)).1 ((show kx 110 45 from (⟨by decide, rfl⟩ : kx 110 45)).sh rfl) rfl rfl (Nat.le_of_ble_eq_true rfl) (by omega) rfl dX6_readValue_65
            refine g_if_eq (tgt := 88) dX6_readValue_68 (by decide) ⟨by omega, by omega⟩ (fun k8 => ?_) (fun k8 => ?_)
            · refine g_iconst dX6_readValue_88 ?_
              refine g_istore (l1 := [(5, vI (-1)), (4, vR (crX (P 110 2).toNat 0)), (3, vI rc3), (0, vR 110), (1, vI a1), (2, vI a2)]) dX6_readValue_89 (by decide) rfl ?_
              refine g_iload dX6_readValue_91 rfl ?_
              refine g_iconst dX6_readValue_93 ?_
              refine g_icmp_ne (tgt := 99) dX6_readValue_94 (by decide) (by decide) (by decide) (fun k9 => by exfalso; omega) (fun k9 => ?_)
              refine g_iconst dX6_readValue_97 ?_
              exact g_retI dX6_readValue_98 rfl (hQ (-1) (by decide) _ hBc7 (FrX.c (FrX.c FrX.rf hFc3 rfl) hFc7 rfl) )
            · refine g_aload_n dX6_readValue_71 rfl ?_
              refine g_aload dX6_readValue_72 rfl ?_
              refine x_g29_7 (n := (crX (crX (P 110 2).toNat 0) 7)) (ck_28_0 (bk_110_2 hB)) ffX6_193 dX6_readValue_74 rfl ?_
              refine g_iload_n dX6_readValue_77 rfl ?_
              refine x_l37 (z := (P (crX (crX (P 110 2).toNat 0) 7) rc3)) (ck_29_7 (ck_28_0 (bk_110_2 hB))) dX6_readValue_78 ⟨by omega, by omega⟩ ((FrX.g hFc7 (ck_29_7 (ck_28_0 (bk_110_2 hB))) rfl).trans ((FrX.g hFc3 (ck_29_7 (ck_28_0 (bk_110_2 hB))) rfl).trans rfl)) ?_
              refine g_iload_n dX6_readValue_79 rfl ?_
              refine g_iconst dX6_readValue_80 ?_
              refine g_iadd dX6_readValue_81 ?_
              have f10 := bx_37 (o := (crX (crX (P 110 2).toNat 0) 7)) (k := rc3) hB (ck_29_7 (ck_28_0 (bk_110_2 hB)))
              refine g_sI (av := [vR 110, vI (P (crX (crX (P 110 2).toNat 0) 7) rc3), vI (a2 + 1)]) (st := []) (ih Pc7 (P (crX (crX (P 110 2).toNat 0) 7) rc3) (a2 + 1) ⟨by have q0 := bx_37 (o := (crX (crX (P 110 2).toNat 0) 7)) (k := rc3) hB (ck_29_7 (ck_28_0 (bk_110_2 hB))); omega, by have q0 := bx_37 (o := (crX (crX (P 110 2).toNat 0) 7)) (k := rc3) hB (ck_29_7 (ck_28_0 (bk_110_2 hB))); omega⟩ ⟨by omega, by omega⟩ hBc7 (by have q0 := bx_37 (o := (crX (crX (P 110 2).toNat 0) 7)) (k := rc3) hB (ck_29_7 (ck_28_0 (bk_110_2 hB))); omega) (TX.fr (F := ([(45, 3), (45, 4), (46, 3), (46, 4), (46, 5), (46, 6), (46, 7), (46, 8)], [])) v_TX (FrX.c (FrX.c FrX.rf hFc3 rfl) hFc7 rfl) rfl) (by omega) _ (fun rc11 hc11 Pc11 hBc11 hFc11 => ⟨rc11, rfl, ?_⟩)) cf_X6_readValue t_1026 rfl (Nat.le_of_ble_eq_true rfl) (by omega) rfl dX6_readValue_82
              refine g_goto (tgt := 89) dX6_readValue_85 (by decide) ?_
              refine g_istore (l1 := [(5, vI rc11), (4, vR (crX (P 110 2).toNat 0)), (3, vI rc3), (0, vR 110), (1, vI a1), (2, vI a2)]) dX6_readValue_89 (by decide) rfl ?_
              refine g_iload dX6_readValue_91 rfl ?_
              refine g_iconst dX6_readValue_93 ?_
              refine g_icmp_ne (tgt := 99) dX6_readValue_94 (by decide) ⟨by omega, by omega⟩ (by decide) (fun k12 => ?_) (fun k12 => ?_)
              · refine g_iconst dX6_readValue_99 ?_
                refine g_istore (l1 := [(6, vI 0), (5, vI rc11), (4, vR (crX (P 110 2).toNat 0)), (3, vI rc3), (0, vR 110), (1, vI a1), (2, vI a2)]) dX6_readValue_100 (by decide) rfl ?_
                refine g_aload dX6_readValue_102 rfl ?_
                refine x_g29_6 (n := (crX (crX (P 110 2).toNat 0) 6)) (ck_28_0 (bk_110_2 hB)) ffX6_187 dX6_readValue_104 rfl ?_
                refine g_iload_n dX6_readValue_107 rfl ?_
                refine x_l36 (z := (P (crX (crX (P 110 2).toNat 0) 6) rc3)) (ck_29_6 (ck_28_0 (bk_110_2 hB))) dX6_readValue_108 ⟨by omega, by omega⟩ ((FrX.g hFc11 (ck_29_6 (ck_28_0 (bk_110_2 hB))) rfl).trans ((FrX.g hFc7 (ck_29_6 (ck_28_0 (bk_110_2 hB))) rfl).trans ((FrX.g hFc3 (ck_29_6 (ck_28_0 (bk_110_2 hB))) rfl).trans rfl))) ?_
                refine g_iconst dX6_readValue_109 ?_
                have J142_24 : ∀ (x142_6_24 : Int) (h_x142_6_24 : (-2147483648) ≤ x142_6_24 ∧ x142_6_24 ≤ 2147483647) (H142_24 : PH) (hB142_24 : BdX H142_24) (hE142_24 : FrX ([(45, 3), (45, 4), (46, 3), (46, 4), (46, 5), (46, 6), (46, 7), (46, 8)], []) Pc11 H142_24), Go WSX G (4 + 1 * (n + 1)) iX6_readValue 142 [(0, vR 110), (3, vI rc3), (4, vR (crX (P 110 2).toNat 0)), (5, vI rc11), (6, vI x142_6_24)] [] H142_24 Q := by
                  intro x142_6_24 h_x142_6_24 H142_24 hB142_24 hE142_24
                  refine g_iload dX6_readValue_142 rfl ?_
                  refine g_iconst dX6_readValue_144 ?_
                  refine g_icmp_eq (tgt := 157) dX6_readValue_145 (by decide) ⟨by omega, by omega⟩ (by decide) (fun k26 => ?_) (fun k26 => ?_)
                  · refine g_iconst dX6_readValue_157 ?_
                    exact g_retI dX6_readValue_158 rfl (hQ (-1) (by decide) _ hB142_24 (FrX.c (FrX.c (FrX.c (FrX.c FrX.rf hFc3 rfl) hFc7 rfl) hFc11 rfl) hE142_24 rfl) )
                  · refine g_aload_n dX6_readValue_148 rfl ?_
                    refine g_bipush dX6_readValue_149 (by decide) ?_
                    refine g_vI (av := [vI 41]) (o := 110) (st := []) (m_X6_readSign G H142_24 41 (by decide) hB142_24 (TX.fr (F := ([(45, 3), (45, 4), (46, 3), (46, 4), (46, 5), (46, 6), (46, 7), (46, 8)], [])) v_TX (FrX.c (FrX.c (FrX.c (FrX.c FrX.rf hFc3 rfl) hFc7 rfl) hFc11 rfl) hE142_24 rfl) rfl) _ (fun rc27 hc27 Pc27 hBc27 hFc27 => ⟨rc27, rfl, ?_⟩)) cf_X6_readSign t_797 rfl (show kx 110 45 from (⟨by decide, rfl⟩ : kx 110 45)).1 ((show kx 110 45 from (⟨by decide, rfl⟩ : kx 110 45)).sh rfl) rfl rfl (Nat.le_of_ble_eq_true rfl) (by omega) rfl dX6_readValue_151
                    refine g_if_ne (tgt := 159) dX6_readValue_154 (by decide) ⟨by omega, by omega⟩ (fun k28 => ?_) (fun k28 => ?_)
                    · refine g_aload dX6_readValue_159 rfl ?_
                      refine x_g29_5 (n := (crX (crX (P 110 2).toNat 0) 5)) (ck_28_0 (bk_110_2 hB)) ffX6_190 dX6_readValue_161 rfl ?_
                      refine g_iload_n dX6_readValue_164 rfl ?_
                      refine x_l35 (z := (P (crX (crX (P 110 2).toNat 0) 5) rc3)) (ck_29_5 (ck_28_0 (bk_110_2 hB))) dX6_readValue_165 ⟨by omega, by omega⟩ ((FrX.g hFc27 (ck_29_5 (ck_28_0 (bk_110_2 hB))) rfl).trans ((FrX.g hE142_24 (ck_29_5 (ck_28_0 (bk_110_2 hB))) rfl).trans ((FrX.g hFc11 (ck_29_5 (ck_28_0 (bk_110_2 hB))) rfl).trans ((FrX.g hFc7 (ck_29_5 (ck_28_0 (bk_110_2 hB))) rfl).trans ((FrX.g hFc3 (ck_29_5 (ck_28_0 (bk_110_2 hB))) rfl).trans rfl))))) ?_
                      refine g_iload dX6_readValue_166 rfl ?_
                      refine g_aload dX6_readValue_168 rfl ?_
                      refine g_iload_n dX6_readValue_170 rfl ?_
                      refine g_vI (av := [vI rc3]) (o := (crX (P 110 2).toNat 0)) (st := [vI rc11, vI (P (crX (crX (P 110 2).toNat 0) 5) rc3)]) (m_X3_secondSize G Pc27 (crX (P 110 2).toNat 0) rc3 (ck_28_0 (bk_110_2 hB)) ⟨by omega, by omega⟩ hBc27  _ (fun rc29 hc29 => ⟨rc29, rfl, ?_⟩)) cf_X3_secondSize t_836 rfl (show kx (crX (P 110 2).toNat 0) 29 from (ck_28_0 (bk_110_2 hB))).1 ((show kx (crX (P 110 2).toNat 0) 29 from (ck_28_0 (bk_110_2 hB))).sh rfl) rfl rfl (Nat.le_of_ble_eq_true rfl) (by omega) rfl dX6_readValue_171
                      refine g_imul dX6_readValue_174 ?_
                      refine g_norm (fun r30 h_r30 e_r30 => ?_)
                      refine g_iadd dX6_readValue_175 ?_
                      refine g_norm (fun r31 h_r31 e_r31 => ?_)
                      refine g_iload dX6_readValue_176 rfl ?_
                      refine g_iadd dX6_readValue_178 ?_
                      refine g_norm (fun r32 h_r32 e_r32 => ?_)
                      exact g_retI dX6_readValue_179 rfl (hQ r32 ⟨by omega, by omega⟩ _ hBc27 (FrX.c (FrX.c (FrX.c (FrX.c (FrX.c FrX.rf hFc3 rfl) hFc7 rfl) hFc11 rfl) hE142_24 rfl) hFc27 rfl) )
                    · refine g_iconst dX6_readValue_157 ?_
                      exact g_retI dX6_readValue_158 rfl (hQ (-1) (by decide) _ hBc27 (FrX.c (FrX.c (FrX.c (FrX.c (FrX.c FrX.rf hFc3 rfl) hFc7 rfl) hFc11 rfl) hE142_24 rfl) hFc27 rfl) )
                refine g_icmp_ne (tgt := 142) dX6_readValue_110 (by decide) ⟨by have q0 := bx_36 (o := (crX (crX (P 110 2).toNat 0) 6)) (k := rc3) hB (ck_29_6 (ck_28_0 (bk_110_2 hB))); omega, by have q0 := bx_36 (o := (crX (crX (P 110 2).toNat 0) 6)) (k := rc3) hB (ck_29_6 (ck_28_0 (bk_110_2 hB))); omega⟩ (by decide) (fun k33 => ?_) (fun k33 => ?_)
                · refine g_forget (l1 := [(0, vR 110), (3, vI rc3), (4, vR (crX (P 110 2).toNat 0)), (5, vI rc11), (6, vI 0)]) (by intro q hq; simp only [List.mem_cons, List.not_mem_nil, or_false] at hq ⊢; rcases hq with rfl | rfl | rfl | rfl | rfl <;> simp) ?_
                  exact J142_24 0 (by decide) _ hBc11 FrX.rf
                · refine g_aload_n dX6_readValue_113 rfl ?_
                  refine g_bipush dX6_readValue_114 (by decide) ?_
                  refine g_vI (av := [vI 44]) (o := 110) (st := []) (m_X6_readSign G Pc11 44 (by decide) hBc11 (TX.fr (F := ([(45, 3), (45, 4), (46, 3), (46, 4), (46, 5), (46, 6), (46, 7), (46, 8)], [])) v_TX (FrX.c (FrX.c (FrX.c FrX.rf hFc3 rfl) hFc7 rfl) hFc11 rfl) rfl) _ (fun rc34 hc34 Pc34 hBc34 hFc34 => ⟨rc34, rfl, ?_⟩)) cf_X6_readSign t_797 rfl (show kx 110 45 from (⟨by decide, rfl⟩ : kx 110 45)).1 ((show kx 110 45 from (⟨by decide, rfl⟩ : kx 110 45)).sh rfl) rfl rfl (Nat.le_of_ble_eq_true rfl) (by omega) rfl dX6_readValue_116
                  refine g_if_eq (tgt := 139) dX6_readValue_119 (by decide) ⟨by omega, by omega⟩ (fun k35 => ?_) (fun k35 => ?_)
                  · refine g_iconst dX6_readValue_139 ?_
                    refine g_istore (l1 := [(6, vI (-1)), (5, vI rc11), (4, vR (crX (P 110 2).toNat 0)), (3, vI rc3), (0, vR 110), (1, vI a1), (2, vI a2)]) dX6_readValue_140 (by decide) rfl ?_
                    refine g_forget (l1 := [(0, vR 110), (3, vI rc3), (4, vR (crX (P 110 2).toNat 0)), (5, vI rc11), (6, vI (-1))]) (by intro q hq; simp only [List.mem_cons, List.not_mem_nil, or_false] at hq ⊢; rcases hq with rfl | rfl | rfl | rfl | rfl <;> simp) ?_
                    exact J142_24 (-1) (by decide) _ hBc34 (FrX.c FrX.rf hFc34 rfl)
                  · refine g_aload_n dX6_readValue_122 rfl ?_
                    refine g_aload dX6_readValue_123 rfl ?_
                    refine x_g29_8 (n := (crX (crX (P 110 2).toNat 0) 8)) (ck_28_0 (bk_110_2 hB)) ffX6_196 dX6_readValue_125 rfl ?_
                    refine g_iload_n dX6_readValue_128 rfl ?_
                    refine x_l38 (z := (P (crX (crX (P 110 2).toNat 0) 8) rc3)) (ck_29_8 (ck_28_0 (bk_110_2 hB))) dX6_readValue_129 ⟨by omega, by omega⟩ ((FrX.g hFc34 (ck_29_8 (ck_28_0 (bk_110_2 hB))) rfl).trans ((FrX.g hFc11 (ck_29_8 (ck_28_0 (bk_110_2 hB))) rfl).trans ((FrX.g hFc7 (ck_29_8 (ck_28_0 (bk_110_2 hB))) rfl).trans ((FrX.g hFc3 (ck_29_8 (ck_28_0 (bk_110_2 hB))) rfl).trans rfl)))) ?_
                    refine g_iload_n dX6_readValue_130 rfl ?_
                    refine g_iconst dX6_readValue_131 ?_
                    refine g_iadd dX6_readValue_132 ?_
                    have f36 := bx_38 (o := (crX (crX (P 110 2).toNat 0) 8)) (k := rc3) hB (ck_29_8 (ck_28_0 (bk_110_2 hB)))
                    refine g_sI (av := [vR 110, vI (P (crX (crX (P 110 2).toNat 0) 8) rc3), vI (a2 + 1)]) (st := []) (ih Pc34 (P (crX (crX (P 110 2).toNat 0) 8) rc3) (a2 + 1) ⟨by have q0 := bx_38 (o := (crX (crX (P 110 2).toNat 0) 8)) (k := rc3) hB (ck_29_8 (ck_28_0 (bk_110_2 hB))); omega, by have q0 := bx_38 (o := (crX (crX (P 110 2).toNat 0) 8)) (k := rc3) hB (ck_29_8 (ck_28_0 (bk_110_2 hB))); omega⟩ ⟨by omega, by omega⟩ hBc34 (by have q0 := bx_38 (o := (crX (crX (P 110 2).toNat 0) 8)) (k := rc3) hB (ck_29_8 (ck_28_0 (bk_110_2 hB))); omega) (TX.fr (F := ([(45, 3), (45, 4), (46, 3), (46, 4), (46, 5), (46, 6), (46, 7), (46, 8)], [])) v_TX (FrX.c (FrX.c (FrX.c (FrX.c FrX.rf hFc3 rfl) hFc7 rfl) hFc11 rfl) hFc34 rfl) rfl) (by omega) _ (fun rc37 hc37 Pc37 hBc37 hFc37 => ⟨rc37, rfl, ?_⟩)) cf_X6_readValue t_1026 rfl (Nat.le_of_ble_eq_true rfl) (by omega) rfl dX6_readValue_133
                    refine g_goto (tgt := 140) dX6_readValue_136 (by decide) ?_
                    refine g_istore (l1 := [(6, vI rc37), (5, vI rc11), (4, vR (crX (P 110 2).toNat 0)), (3, vI rc3), (0, vR 110), (1, vI a1), (2, vI a2)]) dX6_readValue_140 (by decide) rfl ?_
                    refine g_forget (l1 := [(0, vR 110), (3, vI rc3), (4, vR (crX (P 110 2).toNat 0)), (5, vI rc11), (6, vI rc37)]) (by intro q hq; simp only [List.mem_cons, List.not_mem_nil, or_false] at hq ⊢; rcases hq with rfl | rfl | rfl | rfl | rfl <;> simp) ?_
                    exact J142_24 rc37 ⟨by omega, by omega⟩ _ hBc37 (FrX.c (FrX.c FrX.rf hFc34 rfl) hFc37 rfl)
              · refine g_iconst dX6_readValue_97 ?_
                exact g_retI dX6_readValue_98 rfl (hQ (-1) (by decide) _ hBc11 (FrX.c (FrX.c (FrX.c FrX.rf hFc3 rfl) hFc7 rfl) hFc11 rfl) )
          · refine g_aload dX6_readValue_54 rfl ?_
            refine x_g29_5 (n := (crX (crX (P 110 2).toNat 0) 5)) (ck_28_0 (bk_110_2 hB)) ffX6_190 dX6_readValue_56 rfl ?_
            refine g_iload_n dX6_readValue_59 rfl ?_
            refine x_l35 (z := (P (crX (crX (P 110 2).toNat 0) 5) rc3)) (ck_29_5 (ck_28_0 (bk_110_2 hB))) dX6_readValue_60 ⟨by omega, by omega⟩ ((FrX.g hFc3 (ck_29_5 (ck_28_0 (bk_110_2 hB))) rfl).trans rfl) ?_
            exact g_retI dX6_readValue_61 rfl (hQ (P (crX (crX (P 110 2).toNat 0) 5) rc3) ⟨by have q0 := bx_35 (o := (crX (crX (P 110 2).toNat 0) 5)) (k := rc3) hB (ck_29_5 (ck_28_0 (bk_110_2 hB))); omega, by have q0 := bx_35 (o := (crX (crX (P 110 2).toNat 0) 5)) (k := rc3) hB (ck_29_5 (ck_28_0 (bk_110_2 hB))); omega⟩ _ hBc3 (FrX.c FrX.rf hFc3 rfl) )
        · refine g_iconst dX6_readValue_33 ?_
          exact g_retI dX6_readValue_34 rfl (hQ (-1) (by decide) _ hBc3 (FrX.c FrX.rf hFc3 rfl) )
      · refine g_iconst dX6_readValue_18 ?_
        refine g_goto (tgt := 27) dX6_readValue_19 (by decide) ?_
        refine g_istore_n (l1 := [(3, vI (-1)), (0, vR 110), (1, vI a1), (2, vI a2)]) dX6_readValue_27 (by decide) rfl ?_
        refine g_iload_n dX6_readValue_28 rfl ?_
        refine g_iconst dX6_readValue_29 ?_
        refine g_icmp_ne (tgt := 35) dX6_readValue_30 (by decide) (by decide) (by decide) (fun k38 => by exfalso; omega) (fun k38 => ?_)
        refine g_iconst dX6_readValue_33 ?_
        exact g_retI dX6_readValue_34 rfl (hQ (-1) (by decide) _ hB FrX.rf )
    · refine g_aload_n dX6_readValue_5 rfl ?_
      refine g_iconst dX6_readValue_6 ?_
      refine g_bipush dX6_readValue_7 (by decide) ?_
      refine g_vI (av := [vI 0, vI 19]) (o := 110) (st := []) (m_X6_readNumber G P 0 19 (by decide) (by decide) hB v_TX _ (fun rc39 hc39 Pc39 hBc39 hFc39 => ⟨rc39, rfl, ?_⟩)) cf_X6_readNumber t_816 rfl (show kx 110 45 from (⟨by decide, rfl⟩ : kx 110 45)).1 ((show kx 110 45 from (⟨by decide, rfl⟩ : kx 110 45)).sh rfl) rfl rfl (Nat.le_of_ble_eq_true rfl) (by omega) rfl dX6_readValue_9
      exact g_retI dX6_readValue_12 rfl (hQ rc39 ⟨by omega, by omega⟩ _ hBc39 (FrX.c FrX.rf hFc39 rfl) )
theorem m_X6_readValue (G : GT) (P : PH) (a1 : Int) (a2 : Int) (h_a1 : (-2147483648) ≤ a1 ∧ a1 ≤ 2147483647) (h_a2 : (-2147483648) ≤ a2 ∧ a2 ≤ 2147483647) (hB : BdX P) (p_dp : 0 ≤ a2) (v_TX : TX P) (hm : (6 - a2 : Int).toNat < 7) (Q : Option PV → PH → Prop) (hQ : ∀ (r : Int) (_ : (-2147483648) ≤ r ∧ r ≤ 2147483647) (P1 : PH) (_ : BdX P1) (_ : FrX ([(45, 3), (45, 4), (46, 3), (46, 4), (46, 5), (46, 6), (46, 7), (46, 8)], []) P P1), Q (some (vI r)) P1) : Ct WSX G 11 iX6_readValue [vR 110, vI a1, vI a2] P Q := mr_X6_readValue G 7 P a1 a2 h_a1 h_a2 hB p_dp v_TX hm Q hQ
set_option maxRecDepth 100000 in
set_option maxHeartbeats 4000000 in
theorem m_X6_readRow_B16 (G : GT) (P : PH) (o1 : Nat) (k_o1 : kx o1 28) (hB : BdX P) (Q : Option PV → PH → Prop) (hQ : ∀ (r : Int) (_ : (-2147483648) ≤ r ∧ r ≤ 2147483647) (P1 : PH) (_ : BdX P1) (_ : FrX ([(45, 2), (45, 3), (45, 4), (46, 1), (46, 2), (46, 3), (46, 4), (46, 5), (46, 6), (46, 7), (46, 8)], []) P P1) (_ : TX P1), Q (some (vI r)) P1) : Ct WSX G 12 iX6_readRow [vR 110, vR 1, vR o1] P Q := by
  refine Ct.of (by decide) (l0 := [(0, vR 110), (1, vR 1), (2, vR o1)]) rfl (Nat.le_of_ble_eq_true rfl) ?_
  refine g_aload_n dX6_readRow_0 rfl ?_
  refine g_aload_n dX6_readRow_1 rfl ?_
  refine x_p45_2 (⟨by decide, rfl⟩ : kx 110 45) pfX6_27 dX6_readRow_2 ?_
  have hB1 := bw_110_2 (x := o1) hB k_o1
  refine g_aload_n dX6_readRow_5 rfl ?_
  refine g_aload_n dX6_readRow_6 rfl ?_
  refine g_vV (av := [vR 1]) (o := 110) (st := []) (m_X6_begin_B16 G (up P 110 2 ((o1 : Nat) : Int))  hB1  _ (fun Pc2 hBc2 hFc2 vc2_TX => ⟨rfl, ?_⟩)) cf_X6_begin t_695 rfl (show kx 110 45 from (⟨by decide, rfl⟩ : kx 110 45)).1 ((show kx 110 45 from (⟨by decide, rfl⟩ : kx 110 45)).sh rfl) rfl rfl (Nat.le_of_ble_eq_true rfl) (by decide) rfl dX6_readRow_7
  refine g_aload_n dX6_readRow_10 rfl ?_
  refine x_g45_2 (n := o1) (⟨by decide, rfl⟩ : kx 110 45) ffX6_27 dX6_readRow_11 ((FrX.g hFc2 (⟨by decide, rfl⟩ : kx 110 45) rfl).trans up_same) ?_
  refine x_g28_6 (z := (P o1 6)) k_o1 ffX6_79 dX6_readRow_14 ((FrX.g hFc2 k_o1 rfl).trans ((up_o (kx.ne k_o1 (⟨by decide, rfl⟩ : kx 110 45) rfl)).trans rfl)) ?_
  have f3 := bx_28_6 (o := o1) hB k_o1
  refine g_if_ne (tgt := 29) dX6_readRow_17 (by decide) ⟨by have q0 := bx_28_6 (o := o1) hB k_o1; omega, by have q0 := bx_28_6 (o := o1) hB k_o1; omega⟩ (fun k4 => ?_) (fun k4 => ?_)
  · refine g_iconst dX6_readRow_29 ?_
    refine g_istore_n (l1 := [(3, vI 0), (0, vR 110), (1, vR 1), (2, vR o1)]) dX6_readRow_30 (by decide) rfl ?_
    refine g_iconst dX6_readRow_31 ?_
    refine g_istore (l1 := [(4, vI 0), (3, vI 0), (0, vR 110), (1, vR 1), (2, vR o1)]) dX6_readRow_32 (by decide) rfl ?_
    have L34_4 : ∀ (n34_4 : Nat) (x34_4_4 : Int) (h_x34_4_4 : 0 ≤ x34_4_4 ∧ x34_4_4 ≤ 4) (x34_3_4 : Int) (h_x34_3_4 : (-2147483648) ≤ x34_3_4 ∧ x34_3_4 ≤ 2147483647) (H34_4 : PH) (hB34_4 : BdX H34_4) (hE34_4 : FrX ([(45, 3), (45, 4), (46, 3), (46, 4), (46, 5), (46, 6), (46, 7), (46, 8)], []) Pc2 H34_4) (hm34_4 : ((5 - x34_4_4) : Int).toNat < n34_4), Go WSX G 12 iX6_readRow 34 [(0, vR 110), (3, vI x34_3_4), (4, vI x34_4_4)] [] H34_4 Q := by
      intro n34_4
      induction n34_4 with
      | zero => intro x34_4_4 h_x34_4_4 x34_3_4 h_x34_3_4 H34_4 hB34_4 hE34_4 hm34_4; exact absurd hm34_4 (Nat.not_lt_zero _)
      | succ n34_4 ih34_4 =>
      intro x34_4_4 h_x34_4_4 x34_3_4 h_x34_3_4 H34_4 hB34_4 hE34_4 hm34_4
      refine g_iload dX6_readRow_34 rfl ?_
      refine g_aload_n dX6_readRow_36 rfl ?_
      refine x_g45_2 (n := o1) (⟨by decide, rfl⟩ : kx 110 45) ffX6_27 dX6_readRow_37 ((FrX.g hE34_4 (⟨by decide, rfl⟩ : kx 110 45) rfl).trans ((FrX.g hFc2 (⟨by decide, rfl⟩ : kx 110 45) rfl).trans up_same)) ?_
      refine x_g28_6 (z := (P o1 6)) k_o1 ffX6_79 dX6_readRow_40 ((FrX.g hE34_4 k_o1 rfl).trans ((FrX.g hFc2 k_o1 rfl).trans ((up_o (kx.ne k_o1 (⟨by decide, rfl⟩ : kx 110 45) rfl)).trans rfl))) ?_
      refine g_icmp_ge (tgt := 109) dX6_readRow_43 (by decide) ⟨by omega, by omega⟩ ⟨by have q0 := bx_28_6 (o := o1) hB k_o1; omega, by have q0 := bx_28_6 (o := o1) hB k_o1; omega⟩ (fun k142 => ?_) (fun k142 => ?_)
      · refine g_aload_n dX6_readRow_109 rfl ?_
        refine x_g45_0 (n := 111) (⟨by decide, rfl⟩ : kx 110 45) ffX6_12 dX6_readRow_110 rfl ?_
        refine x_g46_4 (z := (H34_4 111 4)) (⟨by decide, rfl⟩ : kx 111 46) ffX6_40 dX6_readRow_113 rfl ?_
        have f143 := bx_46_4 (o := 111) hB34_4 (⟨by decide, rfl⟩ : kx 111 46)
        refine g_if_eq (tgt := 126) dX6_readRow_116 (by decide) ⟨by have q0 := bx_46_4 (o := 111) hB34_4 (⟨by decide, rfl⟩ : kx 111 46); omega, by have q0 := bx_46_4 (o := 111) hB34_4 (⟨by decide, rfl⟩ : kx 111 46); omega⟩ (fun k144 => ?_) (fun k144 => ?_)
        · refine g_iload_n dX6_readRow_126 rfl ?_
          exact g_retI dX6_readRow_127 rfl (hQ x34_3_4 ⟨by omega, by omega⟩ _ hB34_4 (FrX.c (FrX.c (FrX.s FrX.rf (⟨by decide, rfl⟩ : kx 110 45) rfl) hFc2 rfl) hE34_4 rfl) (TX.fr (F := ([(45, 3), (45, 4), (46, 3), (46, 4), (46, 5), (46, 6), (46, 7), (46, 8)], [])) vc2_TX (FrX.c FrX.rf hE34_4 rfl) rfl))
        · refine g_aload_n dX6_readRow_119 rfl ?_
          refine g_vI (av := []) (o := 110) (st := []) (m_X6_failHere G H34_4  hB34_4  _ (fun rc145 hc145 Pc145 hBc145 hFc145 => ⟨rc145, rfl, ?_⟩)) cf_X6_failHere t_723 rfl (show kx 110 45 from (⟨by decide, rfl⟩ : kx 110 45)).1 ((show kx 110 45 from (⟨by decide, rfl⟩ : kx 110 45)).sh rfl) rfl rfl (Nat.le_of_ble_eq_true rfl) (by decide) rfl dX6_readRow_120
          refine g_pop dX6_readRow_123 rfl ?_
          refine g_iconst dX6_readRow_124 ?_
          exact g_retI dX6_readRow_125 rfl (hQ (-1) (by decide) _ hBc145 (FrX.c (FrX.c (FrX.c (FrX.s FrX.rf (⟨by decide, rfl⟩ : kx 110 45) rfl) hFc2 rfl) hE34_4 rfl) hFc145 rfl) (TX.fr (F := ([(45, 3), (45, 4), (46, 3), (46, 4), (46, 5), (46, 6), (46, 7), (46, 8)], [])) vc2_TX (FrX.c (FrX.c FrX.rf hE34_4 rfl) hFc145 rfl) rfl))
      · refine g_iload dX6_readRow_46 rfl ?_
        have J62_153 : ∀ (H62_153 : PH) (hB62_153 : BdX H62_153) (hE62_153 : FrX ([(45, 3), (45, 4), (46, 3), (46, 4), (46, 5), (46, 6), (46, 7), (46, 8)], []) H34_4 H62_153), Go WSX G 12 iX6_readRow 62 [(0, vR 110), (3, vI x34_3_4), (4, vI x34_4_4)] [] H62_153 Q := by
          intro H62_153 hB62_153 hE62_153
          refine g_aload_n dX6_readRow_62 rfl ?_
          refine g_aload_n dX6_readRow_63 rfl ?_
          refine x_g45_2 (n := o1) (⟨by decide, rfl⟩ : kx 110 45) ffX6_27 dX6_readRow_64 ((FrX.g hE62_153 (⟨by decide, rfl⟩ : kx 110 45) rfl).trans ((FrX.g hE34_4 (⟨by decide, rfl⟩ : kx 110 45) rfl).trans ((FrX.g hFc2 (⟨by decide, rfl⟩ : kx 110 45) rfl).trans up_same))) ?_
          refine x_g28_1 (n := (crX o1 1)) k_o1 ffX6_159 dX6_readRow_67 rfl ?_
          refine g_iload dX6_readRow_70 rfl ?_
          refine x_l39 (z := (P (crX o1 1) x34_4_4)) (ck_28_1 k_o1) dX6_readRow_72 ⟨by omega, by omega⟩ ((FrX.g hE62_153 (ck_28_1 k_o1) rfl).trans ((FrX.g hE34_4 (ck_28_1 k_o1) rfl).trans ((FrX.g hFc2 (ck_28_1 k_o1) rfl).trans ((up_o (kx.ne (ck_28_1 k_o1) (⟨by decide, rfl⟩ : kx 110 45) rfl)).trans rfl)))) ?_
          refine g_iconst dX6_readRow_73 ?_
          have f155 := bx_39 (o := (crX o1 1)) (k := x34_4_4) hB (ck_28_1 k_o1)
          refine g_sI (av := [vR 110, vI (P (crX o1 1) x34_4_4), vI 0]) (st := []) (m_X6_readValue G H62_153 (P (crX o1 1) x34_4_4) 0 ⟨by have q0 := bx_39 (o := (crX o1 1)) (k := x34_4_4) hB (ck_28_1 k_o1); omega, by have q0 := bx_39 (o := (crX o1 1)) (k := x34_4_4) hB (ck_28_1 k_o1); omega⟩ (by decide) hB62_153 (by have q0 := bx_39 (o := (crX o1 1)) (k := x34_4_4) hB (ck_28_1 k_o1); omega) (TX.fr (F := ([(45, 3), (45, 4), (46, 3), (46, 4), (46, 5), (46, 6), (46, 7), (46, 8)], [])) vc2_TX (FrX.c (FrX.c FrX.rf hE34_4 rfl) hE62_153 rfl) rfl) (by omega) _ (fun rc156 hc156 Pc156 hBc156 hFc156 => ⟨rc156, rfl, ?_⟩)) cf_X6_readValue t_1026 rfl (Nat.le_of_ble_eq_true rfl) (by decide) rfl dX6_readRow_74
          refine g_istore (l1 := [(5, vI rc156), (0, vR 110), (3, vI x34_3_4), (4, vI x34_4_4)]) dX6_readRow_77 (by decide) rfl ?_
          refine g_iload dX6_readRow_79 rfl ?_
          refine g_iconst dX6_readRow_81 ?_
          refine g_icmp_ne (tgt := 87) dX6_readRow_82 (by decide) ⟨by omega, by omega⟩ (by decide) (fun k157 => ?_) (fun k157 => ?_)
          · refine g_iload_n dX6_readRow_87 rfl ?_
            refine g_aload_n dX6_readRow_88 rfl ?_
            refine x_g45_2 (n := o1) (⟨by decide, rfl⟩ : kx 110 45) ffX6_27 dX6_readRow_89 ((FrX.g hFc156 (⟨by decide, rfl⟩ : kx 110 45) rfl).trans ((FrX.g hE62_153 (⟨by decide, rfl⟩ : kx 110 45) rfl).trans ((FrX.g hE34_4 (⟨by decide, rfl⟩ : kx 110 45) rfl).trans ((FrX.g hFc2 (⟨by decide, rfl⟩ : kx 110 45) rfl).trans up_same)))) ?_
            refine x_g28_2 (n := (crX o1 2)) k_o1 ffX6_218 dX6_readRow_92 rfl ?_
            refine g_iload dX6_readRow_95 rfl ?_
            refine x_l40 (z := (P (crX o1 2) x34_4_4)) (ck_28_2 k_o1) dX6_readRow_97 ⟨by omega, by omega⟩ ((FrX.g hFc156 (ck_28_2 k_o1) rfl).trans ((FrX.g hE62_153 (ck_28_2 k_o1) rfl).trans ((FrX.g hE34_4 (ck_28_2 k_o1) rfl).trans ((FrX.g hFc2 (ck_28_2 k_o1) rfl).trans ((up_o (kx.ne (ck_28_2 k_o1) (⟨by decide, rfl⟩ : kx 110 45) rfl)).trans rfl))))) ?_
            refine g_imul dX6_readRow_98 ?_
            refine g_norm (fun r158 h_r158 e_r158 => ?_)
            refine g_iload dX6_readRow_99 rfl ?_
            refine g_iadd dX6_readRow_101 ?_
            refine g_norm (fun r159 h_r159 e_r159 => ?_)
            refine g_istore_n (l1 := [(3, vI r159), (5, vI rc156), (0, vR 110), (4, vI x34_4_4)]) dX6_readRow_102 (by decide) rfl ?_
            refine g_iinc (l1 := [(4, vI (x34_4_4 + 1)), (3, vI r159), (5, vI rc156), (0, vR 110)]) dX6_readRow_103 rfl (by decide) rfl ?_
            refine g_goto (tgt := 34) dX6_readRow_106 (by decide) ?_
            refine g_forget (l1 := [(0, vR 110), (3, vI r159), (4, vI (x34_4_4 + 1))]) (by intro q hq; simp only [List.mem_cons, List.not_mem_nil, or_false] at hq ⊢; rcases hq with rfl | rfl | rfl <;> simp) ?_
            exact ih34_4 (x34_4_4 + 1) ⟨by omega, by omega⟩ r159 ⟨by omega, by omega⟩ _ hBc156 (FrX.c (FrX.c (FrX.c FrX.rf hE34_4 rfl) hE62_153 rfl) hFc156 rfl) (by omega)
          · refine g_iconst dX6_readRow_85 ?_
            exact g_retI dX6_readRow_86 rfl (hQ (-1) (by decide) _ hBc156 (FrX.c (FrX.c (FrX.c (FrX.c (FrX.s FrX.rf (⟨by decide, rfl⟩ : kx 110 45) rfl) hFc2 rfl) hE34_4 rfl) hE62_153 rfl) hFc156 rfl) (TX.fr (F := ([(45, 3), (45, 4), (46, 3), (46, 4), (46, 5), (46, 6), (46, 7), (46, 8)], [])) vc2_TX (FrX.c (FrX.c (FrX.c FrX.rf hE34_4 rfl) hE62_153 rfl) hFc156 rfl) rfl))
        refine g_if_le (tgt := 62) dX6_readRow_48 (by decide) ⟨by omega, by omega⟩ (fun k160 => ?_) (fun k160 => ?_)
        · refine g_forget (l1 := [(0, vR 110), (3, vI x34_3_4), (4, vI x34_4_4)]) (by intro q hq; simp only [List.mem_cons, List.not_mem_nil, or_false] at hq ⊢; rcases hq with rfl | rfl | rfl <;> simp) ?_
          exact J62_153 _ hB34_4 FrX.rf
        · refine g_aload_n dX6_readRow_51 rfl ?_
          refine g_bipush dX6_readRow_52 (by decide) ?_
          refine g_vI (av := [vI 44]) (o := 110) (st := []) (m_X6_readSign G H34_4 44 (by decide) hB34_4 (TX.fr (F := ([(45, 3), (45, 4), (46, 3), (46, 4), (46, 5), (46, 6), (46, 7), (46, 8)], [])) vc2_TX (FrX.c FrX.rf hE34_4 rfl) rfl) _ (fun rc161 hc161 Pc161 hBc161 hFc161 => ⟨rc161, rfl, ?_⟩)) cf_X6_readSign t_797 rfl (show kx 110 45 from (⟨by decide, rfl⟩ : kx 110 45)).1 ((show kx 110 45 from (⟨by decide, rfl⟩ : kx 110 45)).sh rfl) rfl rfl (Nat.le_of_ble_eq_true rfl) (by decide) rfl dX6_readRow_54
          refine g_if_ne (tgt := 62) dX6_readRow_57 (by decide) ⟨by omega, by omega⟩ (fun k162 => ?_) (fun k162 => ?_)
          · refine g_forget (l1 := [(0, vR 110), (3, vI x34_3_4), (4, vI x34_4_4)]) (by intro q hq; simp only [List.mem_cons, List.not_mem_nil, or_false] at hq ⊢; rcases hq with rfl | rfl | rfl <;> simp) ?_
            exact J62_153 _ hBc161 (FrX.c FrX.rf hFc161 rfl)
          · refine g_iconst dX6_readRow_60 ?_
            exact g_retI dX6_readRow_61 rfl (hQ (-1) (by decide) _ hBc161 (FrX.c (FrX.c (FrX.c (FrX.s FrX.rf (⟨by decide, rfl⟩ : kx 110 45) rfl) hFc2 rfl) hE34_4 rfl) hFc161 rfl) (TX.fr (F := ([(45, 3), (45, 4), (46, 3), (46, 4), (46, 5), (46, 6), (46, 7), (46, 8)], [])) vc2_TX (FrX.c (FrX.c FrX.rf hE34_4 rfl) hFc161 rfl) rfl))
    refine g_forget (l1 := [(0, vR 110), (3, vI 0), (4, vI 0)]) (by intro q hq; simp only [List.mem_cons, List.not_mem_nil, or_false] at hq ⊢; rcases hq with rfl | rfl | rfl <;> simp) ?_
    exact L34_4 _ 0 (by decide) 0 (by decide) _ hBc2 FrX.rf (Nat.lt_succ_self _)
  · refine g_aload_n dX6_readRow_20 rfl ?_
    refine g_iconst dX6_readRow_21 ?_
    refine g_iconst dX6_readRow_22 ?_
    refine g_vI (av := [vI 1, vI 0]) (o := 110) (st := []) (m_X6_fail G Pc2 1 0 (by decide) (by decide) hBc2  _ (fun rc163 hc163 Pc163 hBc163 hFc163 => ⟨rc163, rfl, ?_⟩)) cf_X6_fail t_727 rfl (show kx 110 45 from (⟨by decide, rfl⟩ : kx 110 45)).1 ((show kx 110 45 from (⟨by decide, rfl⟩ : kx 110 45)).sh rfl) rfl rfl (Nat.le_of_ble_eq_true rfl) (by decide) rfl dX6_readRow_23
    refine g_pop dX6_readRow_26 rfl ?_
    refine g_iconst dX6_readRow_27 ?_
    exact g_retI dX6_readRow_28 rfl (hQ (-1) (by decide) _ hBc163 (FrX.c (FrX.c (FrX.s FrX.rf (⟨by decide, rfl⟩ : kx 110 45) rfl) hFc2 rfl) hFc163 rfl) (TX.fr (F := ([(45, 3), (45, 4)], [])) vc2_TX (FrX.c FrX.rf hFc163 rfl) rfl))
