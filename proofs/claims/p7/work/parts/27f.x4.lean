/-! Contracts of the class: x4. -/
set_option maxRecDepth 100000 in
set_option maxHeartbeats 4000000 in
theorem m_X6_fail (G : GT) (P : PH) (a1 : Int) (a2 : Int) (h_a1 : (-2147483648) ≤ a1 ∧ a1 ≤ 2147483647) (h_a2 : (-2147483648) ≤ a2 ∧ a2 ≤ 2147483647) (hB : BdX P) (Q : Option PV → PH → Prop) (hQ : ∀ (r : Int) (_ : 0 ≤ r ∧ r ≤ 1) (P1 : PH) (_ : BdX P1) (_ : FrX ([(45, 3), (45, 4)], []) P P1), Q (some (vI r)) P1) : Ct WSX G 1 iX6_fail [vR 110, vI a1, vI a2] P Q := by
  refine Ct.of (by decide) (l0 := [(0, vR 110), (1, vI a1), (2, vI a2)]) rfl (Nat.le_of_ble_eq_true rfl) ?_
  refine g_aload_n dX6_fail_0 rfl ?_
  refine g_iload_n dX6_fail_1 rfl ?_
  refine x_p45_3 (⟨by decide, rfl⟩ : kx 110 45) pfX6_82 dX6_fail_2 ?_
  have hB1 := by_45_3 (z := a1) hB (⟨by decide, rfl⟩ : kx 110 45) ⟨by omega, by omega⟩
  refine g_aload_n dX6_fail_5 rfl ?_
  refine g_iload_n dX6_fail_6 rfl ?_
  refine x_p45_4 (⟨by decide, rfl⟩ : kx 110 45) pfX6_23 dX6_fail_7 ?_
  have hB2 := by_45_4 (z := a2) hB1 (⟨by decide, rfl⟩ : kx 110 45) ⟨by omega, by omega⟩
  refine g_iconst dX6_fail_10 ?_
  exact g_retZ dX6_fail_11 rfl (by decide) (hQ 0 (by decide) _ hB2 (FrX.s (FrX.s FrX.rf (⟨by decide, rfl⟩ : kx 110 45) rfl) (⟨by decide, rfl⟩ : kx 110 45) rfl) )
set_option maxRecDepth 100000 in
set_option maxHeartbeats 4000000 in
theorem m_X6_failHere (G : GT) (P : PH) (hB : BdX P) (Q : Option PV → PH → Prop) (hQ : ∀ (r : Int) (_ : 0 ≤ r ∧ r ≤ 1) (P1 : PH) (_ : BdX P1) (_ : FrX ([(45, 3), (45, 4)], []) P P1), Q (some (vI r)) P1) : Ct WSX G 1 iX6_failHere [vR 110] P Q := by
  refine Ct.of (by decide) (l0 := [(0, vR 110)]) rfl (Nat.le_of_ble_eq_true rfl) ?_
  refine g_aload_n dX6_failHere_0 rfl ?_
  refine g_iconst dX6_failHere_1 ?_
  refine x_p45_3 (⟨by decide, rfl⟩ : kx 110 45) pfX6_82 dX6_failHere_2 ?_
  have hB1 := by_45_3 (z := 1) hB (⟨by decide, rfl⟩ : kx 110 45) (by decide)
  refine g_aload_n dX6_failHere_5 rfl ?_
  refine g_aload_n dX6_failHere_6 rfl ?_
  refine x_g45_0 (n := 111) (⟨by decide, rfl⟩ : kx 110 45) ffX6_12 dX6_failHere_7 rfl ?_
  refine x_g46_4 (z := (P 111 4)) (⟨by decide, rfl⟩ : kx 111 46) ffX6_40 dX6_failHere_10 ((up_o (kx.ne (⟨by decide, rfl⟩ : kx 111 46) (⟨by decide, rfl⟩ : kx 110 45) rfl)).trans rfl) ?_
  refine g_iconst dX6_failHere_13 ?_
  have f2 := bx_46_4 (o := 111) hB (⟨by decide, rfl⟩ : kx 111 46)
  refine g_icmp_ne (tgt := 27) dX6_failHere_14 (by decide) ⟨by have q0 := bx_46_4 (o := 111) hB (⟨by decide, rfl⟩ : kx 111 46); omega, by have q0 := bx_46_4 (o := 111) hB (⟨by decide, rfl⟩ : kx 111 46); omega⟩ (by decide) (fun k3 => ?_) (fun k3 => ?_)
  · refine g_aload_n dX6_failHere_27 rfl ?_
    refine x_g45_0 (n := 111) (⟨by decide, rfl⟩ : kx 110 45) ffX6_12 dX6_failHere_28 rfl ?_
    refine x_g46_5 (z := (P 111 5)) (⟨by decide, rfl⟩ : kx 111 46) ffX6_72 dX6_failHere_31 ((up_o (kx.ne (⟨by decide, rfl⟩ : kx 111 46) (⟨by decide, rfl⟩ : kx 110 45) rfl)).trans rfl) ?_
    refine x_p45_4 (⟨by decide, rfl⟩ : kx 110 45) pfX6_23 dX6_failHere_34 ?_
    have hB4 := by_45_4 (z := (P 111 5)) hB1 (⟨by decide, rfl⟩ : kx 110 45) ⟨by have q0 := bx_46_5 (o := 111) hB (⟨by decide, rfl⟩ : kx 111 46); omega, by have q0 := bx_46_5 (o := 111) hB (⟨by decide, rfl⟩ : kx 111 46); omega⟩
    refine g_iconst dX6_failHere_37 ?_
    exact g_retZ dX6_failHere_38 rfl (by decide) (hQ 0 (by decide) _ hB4 (FrX.s (FrX.s FrX.rf (⟨by decide, rfl⟩ : kx 110 45) rfl) (⟨by decide, rfl⟩ : kx 110 45) rfl) )
  · refine g_aload_n dX6_failHere_17 rfl ?_
    refine x_g45_0 (n := 111) (⟨by decide, rfl⟩ : kx 110 45) ffX6_12 dX6_failHere_18 rfl ?_
    refine x_g46_6 (z := (P 111 6)) (⟨by decide, rfl⟩ : kx 111 46) ffX6_86 dX6_failHere_21 ((up_o (kx.ne (⟨by decide, rfl⟩ : kx 111 46) (⟨by decide, rfl⟩ : kx 110 45) rfl)).trans rfl) ?_
    refine g_goto (tgt := 34) dX6_failHere_24 (by decide) ?_
    refine x_p45_4 (⟨by decide, rfl⟩ : kx 110 45) pfX6_23 dX6_failHere_34 ?_
    have hB5 := by_45_4 (z := (P 111 6)) hB1 (⟨by decide, rfl⟩ : kx 110 45) ⟨by have q0 := bx_46_6 (o := 111) hB (⟨by decide, rfl⟩ : kx 111 46); omega, by have q0 := bx_46_6 (o := 111) hB (⟨by decide, rfl⟩ : kx 111 46); omega⟩
    refine g_iconst dX6_failHere_37 ?_
    exact g_retZ dX6_failHere_38 rfl (by decide) (hQ 0 (by decide) _ hB5 (FrX.s (FrX.s FrX.rf (⟨by decide, rfl⟩ : kx 110 45) rfl) (⟨by decide, rfl⟩ : kx 110 45) rfl) )
set_option maxRecDepth 100000 in
set_option maxHeartbeats 4000000 in
theorem m_X6_begin_B16 (G : GT) (P : PH) (hB : BdX P) (Q : Option PV → PH → Prop) (hQ : ∀ (P1 : PH) (_ : BdX P1) (_ : FrX ([(45, 3), (45, 4), (46, 1), (46, 2), (46, 3), (46, 4), (46, 5), (46, 6), (46, 7), (46, 8)], []) P P1) (_ : TX P1), Q none P1) : Ct WSX G 4 iX6_begin [vR 110, vR 1] P Q := by
  refine Ct.of (by decide) (l0 := [(0, vR 110), (1, vR 1)]) rfl (Nat.le_of_ble_eq_true rfl) ?_
  refine g_aload_n dX6_begin_0 rfl ?_
  refine g_iconst dX6_begin_1 ?_
  refine x_p45_3 (⟨by decide, rfl⟩ : kx 110 45) pfX6_82 dX6_begin_2 ?_
  have hB1 := by_45_3 (z := 0) hB (⟨by decide, rfl⟩ : kx 110 45) (by decide)
  refine g_aload_n dX6_begin_5 rfl ?_
  refine g_iconst dX6_begin_6 ?_
  refine x_p45_4 (⟨by decide, rfl⟩ : kx 110 45) pfX6_23 dX6_begin_7 ?_
  have hB2 := by_45_4 (z := (-1)) hB1 (⟨by decide, rfl⟩ : kx 110 45) (by decide)
  refine g_aload_n dX6_begin_10 rfl ?_
  refine x_g45_0 (n := 111) (⟨by decide, rfl⟩ : kx 110 45) ffX6_12 dX6_begin_11 rfl ?_
  refine g_aload_n dX6_begin_14 rfl ?_
  refine g_vV (av := [vR 1]) (o := 111) (st := []) (m_X7_begin_B16 G (up (up P 110 3 0) 110 4 (-1))  hB2  _ (fun Pc3 hBc3 hFc3 vc3_TX => ⟨rfl, ?_⟩)) cf_X7_begin t_699 rfl (show kx 111 46 from (⟨by decide, rfl⟩ : kx 111 46)).1 ((show kx 111 46 from (⟨by decide, rfl⟩ : kx 111 46)).sh rfl) rfl rfl (Nat.le_of_ble_eq_true rfl) (by decide) rfl dX6_begin_15
  exact g_retV dX6_begin_18 rfl (hQ _ hBc3 (FrX.c (FrX.s (FrX.s FrX.rf (⟨by decide, rfl⟩ : kx 110 45) rfl) (⟨by decide, rfl⟩ : kx 110 45) rfl) hFc3 rfl) vc3_TX)
set_option maxRecDepth 100000 in
set_option maxHeartbeats 4000000 in
theorem m_X6_readSign (G : GT) (P : PH) (a1 : Int) (h_a1 : (-2147483648) ≤ a1 ∧ a1 ≤ 2147483647) (hB : BdX P) (v_TX : TX P) (Q : Option PV → PH → Prop) (hQ : ∀ (r : Int) (_ : 0 ≤ r ∧ r ≤ 1) (P1 : PH) (_ : BdX P1) (_ : FrX ([(45, 3), (45, 4), (46, 3), (46, 4), (46, 5), (46, 6), (46, 7), (46, 8)], []) P P1), Q (some (vI r)) P1) : Ct WSX G 3 iX6_readSign [vR 110, vI a1] P Q := by
  refine Ct.of (by decide) (l0 := [(0, vR 110), (1, vI a1)]) rfl (Nat.le_of_ble_eq_true rfl) ?_
  refine g_aload_n dX6_readSign_0 rfl ?_
  refine x_g45_0 (n := 111) (⟨by decide, rfl⟩ : kx 110 45) ffX6_12 dX6_readSign_1 rfl ?_
  refine g_iload_n dX6_readSign_4 rfl ?_
  refine g_vI (av := [vI a1]) (o := 111) (st := []) (m_X7_isSign G P a1 ⟨by omega, by omega⟩ hB  _ (fun rc1 hc1 => ⟨rc1, rfl, ?_⟩)) cf_X7_isSign t_801 rfl (show kx 111 46 from (⟨by decide, rfl⟩ : kx 111 46)).1 ((show kx 111 46 from (⟨by decide, rfl⟩ : kx 111 46)).sh rfl) rfl rfl (Nat.le_of_ble_eq_true rfl) (by decide) rfl dX6_readSign_5
  refine g_if_ne (tgt := 16) dX6_readSign_8 (by decide) ⟨by omega, by omega⟩ (fun k2 => ?_) (fun k2 => ?_)
  · refine g_aload_n dX6_readSign_16 rfl ?_
    refine x_g45_0 (n := 111) (⟨by decide, rfl⟩ : kx 110 45) ffX6_12 dX6_readSign_17 rfl ?_
    refine g_vV (av := []) (o := 111) (st := []) (m_X7_step G P  hB v_TX _ (fun Pc3 hBc3 hFc3 => ⟨rfl, ?_⟩)) cf_X7_step t_731 rfl (show kx 111 46 from (⟨by decide, rfl⟩ : kx 111 46)).1 ((show kx 111 46 from (⟨by decide, rfl⟩ : kx 111 46)).sh rfl) rfl rfl (Nat.le_of_ble_eq_true rfl) (by decide) rfl dX6_readSign_20
    refine g_iconst dX6_readSign_23 ?_
    exact g_retZ dX6_readSign_24 rfl (by decide) (hQ 1 (by decide) _ hBc3 (FrX.c FrX.rf hFc3 rfl) )
  · refine g_aload_n dX6_readSign_11 rfl ?_
    refine g_vI (av := []) (o := 110) (st := []) (m_X6_failHere G P  hB  _ (fun rc4 hc4 Pc4 hBc4 hFc4 => ⟨rc4, rfl, ?_⟩)) cf_X6_failHere t_723 rfl (show kx 110 45 from (⟨by decide, rfl⟩ : kx 110 45)).1 ((show kx 110 45 from (⟨by decide, rfl⟩ : kx 110 45)).sh rfl) rfl rfl (Nat.le_of_ble_eq_true rfl) (by decide) rfl dX6_readSign_12
    exact g_retZ dX6_readSign_15 rfl (by omega) (hQ rc4 ⟨by omega, by omega⟩ _ hBc4 (FrX.c FrX.rf hFc4 rfl) )
set_option maxRecDepth 100000 in
set_option maxHeartbeats 4000000 in
theorem m_X6_readNumber (G : GT) (P : PH) (a1 : Int) (a2 : Int) (h_a1 : (-2147483648) ≤ a1 ∧ a1 ≤ 2147483647) (h_a2 : (-2147483648) ≤ a2 ∧ a2 ≤ 2147483647) (hB : BdX P) (v_TX : TX P) (Q : Option PV → PH → Prop) (hQ : ∀ (r : Int) (_ : (-2147483648) ≤ r ∧ r ≤ 2147483647) (P1 : PH) (_ : BdX P1) (_ : FrX ([(45, 3), (45, 4), (46, 3), (46, 4), (46, 5), (46, 6), (46, 7), (46, 8)], []) P P1), Q (some (vI r)) P1) : Ct WSX G 3 iX6_readNumber [vR 110, vI a1, vI a2] P Q := by
  refine Ct.of (by decide) (l0 := [(0, vR 110), (1, vI a1), (2, vI a2)]) rfl (Nat.le_of_ble_eq_true rfl) ?_
  refine g_aload_n dX6_readNumber_0 rfl ?_
  refine x_g45_0 (n := 111) (⟨by decide, rfl⟩ : kx 110 45) ffX6_12 dX6_readNumber_1 rfl ?_
  refine x_g46_4 (z := (P 111 4)) (⟨by decide, rfl⟩ : kx 111 46) ffX6_40 dX6_readNumber_4 rfl ?_
  refine g_iconst dX6_readNumber_7 ?_
  have f1 := bx_46_4 (o := 111) hB (⟨by decide, rfl⟩ : kx 111 46)
  refine g_icmp_eq (tgt := 18) dX6_readNumber_8 (by decide) ⟨by have q0 := bx_46_4 (o := 111) hB (⟨by decide, rfl⟩ : kx 111 46); omega, by have q0 := bx_46_4 (o := 111) hB (⟨by decide, rfl⟩ : kx 111 46); omega⟩ (by decide) (fun k2 => ?_) (fun k2 => ?_)
  · refine g_aload_n dX6_readNumber_18 rfl ?_
    refine x_g45_0 (n := 111) (⟨by decide, rfl⟩ : kx 110 45) ffX6_12 dX6_readNumber_19 rfl ?_
    refine x_g46_7 (z := (P 111 7)) (⟨by decide, rfl⟩ : kx 111 46) ffX6_95 dX6_readNumber_22 rfl ?_
    refine g_istore_n (l1 := [(3, vI (P 111 7)), (0, vR 110), (1, vI a1), (2, vI a2)]) dX6_readNumber_25 (by decide) rfl ?_
    refine g_iload_n dX6_readNumber_26 rfl ?_
    refine g_iload_n dX6_readNumber_27 rfl ?_
    have f3 := bx_46_7 (o := 111) hB (⟨by decide, rfl⟩ : kx 111 46)
    refine g_icmp_lt (tgt := 36) dX6_readNumber_28 (by decide) ⟨by have q0 := bx_46_7 (o := 111) hB (⟨by decide, rfl⟩ : kx 111 46); omega, by have q0 := bx_46_7 (o := 111) hB (⟨by decide, rfl⟩ : kx 111 46); omega⟩ ⟨by omega, by omega⟩ (fun k4 => ?_) (fun k4 => ?_)
    · refine g_aload_n dX6_readNumber_36 rfl ?_
      refine g_iconst dX6_readNumber_37 ?_
      refine g_aload_n dX6_readNumber_38 rfl ?_
      refine x_g45_0 (n := 111) (⟨by decide, rfl⟩ : kx 110 45) ffX6_12 dX6_readNumber_39 rfl ?_
      refine x_g46_5 (z := (P 111 5)) (⟨by decide, rfl⟩ : kx 111 46) ffX6_72 dX6_readNumber_42 rfl ?_
      have f5 := bx_46_5 (o := 111) hB (⟨by decide, rfl⟩ : kx 111 46)
      refine g_vI (av := [vI 4, vI (P 111 5)]) (o := 110) (st := []) (m_X6_fail G P 4 (P 111 5) (by decide) ⟨by have q0 := bx_46_5 (o := 111) hB (⟨by decide, rfl⟩ : kx 111 46); omega, by have q0 := bx_46_5 (o := 111) hB (⟨by decide, rfl⟩ : kx 111 46); omega⟩ hB  _ (fun rc6 hc6 Pc6 hBc6 hFc6 => ⟨rc6, rfl, ?_⟩)) cf_X6_fail t_727 rfl (show kx 110 45 from (⟨by decide, rfl⟩ : kx 110 45)).1 ((show kx 110 45 from (⟨by decide, rfl⟩ : kx 110 45)).sh rfl) rfl rfl (Nat.le_of_ble_eq_true rfl) (by decide) rfl dX6_readNumber_45
      refine g_pop dX6_readNumber_48 rfl ?_
      refine g_iconst dX6_readNumber_49 ?_
      exact g_retI dX6_readNumber_50 rfl (hQ (-1) (by decide) _ hBc6 (FrX.c FrX.rf hFc6 rfl) )
    · refine g_iload_n dX6_readNumber_31 rfl ?_
      refine g_iload_n dX6_readNumber_32 rfl ?_
      refine g_icmp_le (tgt := 51) dX6_readNumber_33 (by decide) ⟨by have q0 := bx_46_7 (o := 111) hB (⟨by decide, rfl⟩ : kx 111 46); omega, by have q0 := bx_46_7 (o := 111) hB (⟨by decide, rfl⟩ : kx 111 46); omega⟩ ⟨by omega, by omega⟩ (fun k7 => ?_) (fun k7 => ?_)
      · refine g_aload_n dX6_readNumber_51 rfl ?_
        refine x_g45_0 (n := 111) (⟨by decide, rfl⟩ : kx 110 45) ffX6_12 dX6_readNumber_52 rfl ?_
        refine g_vV (av := []) (o := 111) (st := []) (m_X7_step G P  hB v_TX _ (fun Pc8 hBc8 hFc8 => ⟨rfl, ?_⟩)) cf_X7_step t_731 rfl (show kx 111 46 from (⟨by decide, rfl⟩ : kx 111 46)).1 ((show kx 111 46 from (⟨by decide, rfl⟩ : kx 111 46)).sh rfl) rfl rfl (Nat.le_of_ble_eq_true rfl) (by decide) rfl dX6_readNumber_55
        refine g_iload_n dX6_readNumber_58 rfl ?_
        exact g_retI dX6_readNumber_59 rfl (hQ (P 111 7) ⟨by have q0 := bx_46_7 (o := 111) hB (⟨by decide, rfl⟩ : kx 111 46); omega, by have q0 := bx_46_7 (o := 111) hB (⟨by decide, rfl⟩ : kx 111 46); omega⟩ _ hBc8 (FrX.c FrX.rf hFc8 rfl) )
      · refine g_aload_n dX6_readNumber_36 rfl ?_
        refine g_iconst dX6_readNumber_37 ?_
        refine g_aload_n dX6_readNumber_38 rfl ?_
        refine x_g45_0 (n := 111) (⟨by decide, rfl⟩ : kx 110 45) ffX6_12 dX6_readNumber_39 rfl ?_
        refine x_g46_5 (z := (P 111 5)) (⟨by decide, rfl⟩ : kx 111 46) ffX6_72 dX6_readNumber_42 rfl ?_
        have f9 := bx_46_5 (o := 111) hB (⟨by decide, rfl⟩ : kx 111 46)
        refine g_vI (av := [vI 4, vI (P 111 5)]) (o := 110) (st := []) (m_X6_fail G P 4 (P 111 5) (by decide) ⟨by have q0 := bx_46_5 (o := 111) hB (⟨by decide, rfl⟩ : kx 111 46); omega, by have q0 := bx_46_5 (o := 111) hB (⟨by decide, rfl⟩ : kx 111 46); omega⟩ hB  _ (fun rc10 hc10 Pc10 hBc10 hFc10 => ⟨rc10, rfl, ?_⟩)) cf_X6_fail t_727 rfl (show kx 110 45 from (⟨by decide, rfl⟩ : kx 110 45)).1 ((show kx 110 45 from (⟨by decide, rfl⟩ : kx 110 45)).sh rfl) rfl rfl (Nat.le_of_ble_eq_true rfl) (by decide) rfl dX6_readNumber_45
        refine g_pop dX6_readNumber_48 rfl ?_
        refine g_iconst dX6_readNumber_49 ?_
        exact g_retI dX6_readNumber_50 rfl (hQ (-1) (by decide) _ hBc10 (FrX.c FrX.rf hFc10 rfl) )
  · refine g_aload_n dX6_readNumber_11 rfl ?_
    refine g_vI (av := []) (o := 110) (st := []) (m_X6_failHere G P  hB  _ (fun rc11 hc11 Pc11 hBc11 hFc11 => ⟨rc11, rfl, ?_⟩)) cf_X6_failHere t_723 rfl (show kx 110 45 from (⟨by decide, rfl⟩ : kx 110 45)).1 ((show kx 110 45 from (⟨by decide, rfl⟩ : kx 110 45)).sh rfl) rfl rfl (Nat.le_of_ble_eq_true rfl) (by decide) rfl dX6_readNumber_12
    refine g_pop dX6_readNumber_15 rfl ?_
    refine g_iconst dX6_readNumber_16 ?_
    exact g_retI dX6_readNumber_17 rfl (hQ (-1) (by decide) _ hBc11 (FrX.c FrX.rf hFc11 rfl) )
set_option maxRecDepth 100000 in
set_option maxHeartbeats 4000000 in
theorem m_X6_fill (G : GT) (P : PH) (o1 : Nat) (a1 : Int) (a2 : Int) (a3 : Int) (k_o1 : kx o1 50) (h_a1 : (-2147483648) ≤ a1 ∧ a1 ≤ 2147483647) (h_a2 : (-2147483648) ≤ a2 ∧ a2 ≤ 2147483647) (h_a3 : (-2147483648) ≤ a3 ∧ a3 ≤ 2147483647) (hB : BdX P) (Q : Option PV → PH → Prop) (hQ : ∀ (P1 : PH) (_ : BdX P1) (_ : FrX ([], [50]) P P1), Q none P1) : Ct WSX G 2 iX6_fill [vR o1, vI a1, vI a2, vI a3] P Q := by
  refine Ct.of (by decide) (l0 := [(0, vR o1), (1, vI a1), (2, vI a2), (3, vI a3)]) rfl (Nat.le_of_ble_eq_true rfl) ?_
  refine g_iload_n dX6_fill_0 rfl ?_
  refine g_iconst dX6_fill_1 ?_
  refine g_sI (av := [vI a1, vI 0]) (st := []) (m_J9_max_7cf53 G P a1 0 ⟨by omega, by omega⟩ (by decide) hB  _ (fun rc1 hc1 gc1_m => ⟨rc1, rfl, ?_⟩)) cf_J9_max_7cf53 t_811 rfl (Nat.le_of_ble_eq_true rfl) (by decide) rfl dX6_fill_2
  refine g_istore (l1 := [(4, vI rc1), (0, vR o1), (1, vI a1), (2, vI a2), (3, vI a3)]) dX6_fill_5 (by decide) rfl ?_
  have L7_1 : ∀ (n7_1 : Nat) (x7_4_1 : Int) (h_x7_4_1 : 0 ≤ x7_4_1 ∧ x7_4_1 ≤ 2147483647) (H7_1 : PH) (hB7_1 : BdX H7_1) (hE7_1 : FrX ([], [50]) P H7_1) (hm7_1 : ((2147483648 - x7_4_1) : Int).toNat < n7_1), Go WSX G 2 iX6_fill 7 [(0, vR o1), (2, vI a2), (3, vI a3), (4, vI x7_4_1)] [] H7_1 Q := by
    intro n7_1
    induction n7_1 with
    | zero => intro x7_4_1 h_x7_4_1 H7_1 hB7_1 hE7_1 hm7_1; exact absurd hm7_1 (Nat.not_lt_zero _)
    | succ n7_1 ih7_1 =>
    intro x7_4_1 h_x7_4_1 H7_1 hB7_1 hE7_1 hm7_1
    refine g_iload dX6_fill_7 rfl ?_
    refine g_iload_n dX6_fill_9 rfl ?_
    refine g_icmp_gt (tgt := 31) dX6_fill_10 (by decide) ⟨by omega, by omega⟩ ⟨by omega, by omega⟩ (fun k15 => ?_) (fun k15 => ?_)
    · exact g_retV dX6_fill_31 rfl (hQ _ hB7_1 (FrX.c FrX.rf hE7_1 rfl) )
    · refine g_iload dX6_fill_13 rfl ?_
      refine g_aload_n dX6_fill_15 rfl ?_
      refine x_n50 k_o1 dX6_fill_16 ?_
      refine g_icmp_ge (tgt := 31) dX6_fill_17 (by decide) ⟨by omega, by omega⟩ (by decide) (fun k16 => ?_) (fun k16 => ?_)
      · exact g_retV dX6_fill_31 rfl (hQ _ hB7_1 (FrX.c FrX.rf hE7_1 rfl) )
      · refine g_aload_n dX6_fill_20 rfl ?_
        refine g_iload dX6_fill_21 rfl ?_
        refine g_iload_n dX6_fill_23 rfl ?_
        refine x_s50 k_o1 dX6_fill_24 ⟨by omega, by omega⟩ ?_
        have hB17 := by_50 (z := a3) (k := x7_4_1) hB7_1 k_o1 ⟨by omega, by omega⟩
        refine g_iinc (l1 := [(4, vI (x7_4_1 + 1)), (0, vR o1), (2, vI a2), (3, vI a3)]) dX6_fill_25 rfl (by decide) rfl ?_
        refine g_goto (tgt := 7) dX6_fill_28 (by decide) ?_
        refine g_forget (l1 := [(0, vR o1), (2, vI a2), (3, vI a3), (4, vI (x7_4_1 + 1))]) (by intro q hq; simp only [List.mem_cons, List.not_mem_nil, or_false] at hq ⊢; rcases hq with rfl | rfl | rfl | rfl <;> simp) ?_
        exact ih7_1 (x7_4_1 + 1) ⟨by omega, by omega⟩ _ hB17 (FrX.s (FrX.c FrX.rf hE7_1 rfl) k_o1 rfl) (by omega)
  refine g_forget (l1 := [(0, vR o1), (2, vI a2), (3, vI a3), (4, vI rc1)]) (by intro q hq; simp only [List.mem_cons, List.not_mem_nil, or_false] at hq ⊢; rcases hq with rfl | rfl | rfl | rfl <;> simp) ?_
  exact L7_1 _ rc1 ⟨by omega, by omega⟩ _ hB FrX.rf (Nat.lt_succ_self _)
set_option maxRecDepth 100000 in
set_option maxHeartbeats 4000000 in
theorem m_X6_readConName (G : GT) (P : PH) (a1 : Int) (h_a1 : (-2147483648) ≤ a1 ∧ a1 ≤ 2147483647) (hB : BdX P) (v_TX : TX P) (Q : Option PV → PH → Prop) (hQ : ∀ (r : Int) (_ : (-1) ≤ r ∧ r ≤ 23) (P1 : PH) (_ : BdX P1) (_ : FrX ([(45, 3), (45, 4), (46, 3), (46, 4), (46, 5), (46, 6), (46, 7), (46, 8)], []) P P1), Q (some (vI r)) P1) : Ct WSX G 3 iX6_readConName [vR 110, vI a1] P Q := by
  refine Ct.of (by decide) (l0 := [(0, vR 110), (1, vI a1)]) rfl (Nat.le_of_ble_eq_true rfl) ?_
  refine g_aload_n dX6_readConName_0 rfl ?_
  refine x_g45_0 (n := 111) (⟨by decide, rfl⟩ : kx 110 45) ffX6_12 dX6_readConName_1 rfl ?_
  refine g_vI (av := []) (o := 111) (st := []) (m_X7_isName G P  hB  _ (fun rc1 hc1 => ⟨rc1, rfl, ?_⟩)) cf_X7_isName t_736 rfl (show kx 111 46 from (⟨by decide, rfl⟩ : kx 111 46)).1 ((show kx 111 46 from (⟨by decide, rfl⟩ : kx 111 46)).sh rfl) rfl rfl (Nat.le_of_ble_eq_true rfl) (by decide) rfl dX6_readConName_4
  refine g_if_ne (tgt := 17) dX6_readConName_7 (by decide) ⟨by omega, by omega⟩ (fun k2 => ?_) (fun k2 => ?_)
  · refine g_aload_n dX6_readConName_17 rfl ?_
    refine x_g45_2 (n := (P 110 2).toNat) (⟨by decide, rfl⟩ : kx 110 45) ffX6_27 dX6_readConName_18 (br_110_2 hB) ?_
    refine x_g28_0 (n := (crX (P 110 2).toNat 0)) (bk_110_2 hB) ffX6_108 dX6_readConName_21 rfl ?_
    refine g_iload_n dX6_readConName_24 rfl ?_
    refine g_aload_n dX6_readConName_25 rfl ?_
    refine x_g45_0 (n := 111) (⟨by decide, rfl⟩ : kx 110 45) ffX6_12 dX6_readConName_26 rfl ?_
    refine x_g46_7 (z := (P 111 7)) (⟨by decide, rfl⟩ : kx 111 46) ffX6_95 dX6_readConName_29 rfl ?_
    have f3 := bx_46_7 (o := 111) hB (⟨by decide, rfl⟩ : kx 111 46)
    refine g_vI (av := [vI a1, vI (P 111 7)]) (o := (crX (P 110 2).toNat 0)) (st := []) (m_X3_conNamedOf G P (crX (P 110 2).toNat 0) a1 (P 111 7) (ck_28_0 (bk_110_2 hB)) ⟨by omega, by omega⟩ ⟨by have q0 := bx_46_7 (o := 111) hB (⟨by decide, rfl⟩ : kx 111 46); omega, by have q0 := bx_46_7 (o := 111) hB (⟨by decide, rfl⟩ : kx 111 46); omega⟩ hB  _ (fun rc4 hc4 => ⟨rc4, rfl, ?_⟩)) cf_X3_conNamedOf t_827 rfl (show kx (crX (P 110 2).toNat 0) 29 from (ck_28_0 (bk_110_2 hB))).1 ((show kx (crX (P 110 2).toNat 0) 29 from (ck_28_0 (bk_110_2 hB))).sh rfl) rfl rfl (Nat.le_of_ble_eq_true rfl) (by decide) rfl dX6_readConName_32
    refine g_istore_n (l1 := [(2, vI rc4), (0, vR 110), (1, vI a1)]) dX6_readConName_35 (by decide) rfl ?_
    refine g_iload_n dX6_readConName_36 rfl ?_
    refine g_iconst dX6_readConName_37 ?_
    refine g_icmp_ne (tgt := 56) dX6_readConName_38 (by decide) ⟨by omega, by omega⟩ (by decide) (fun k5 => ?_) (fun k5 => ?_)
    · refine g_aload_n dX6_readConName_56 rfl ?_
      refine x_g45_0 (n := 111) (⟨by decide, rfl⟩ : kx 110 45) ffX6_12 dX6_readConName_57 rfl ?_
      refine g_vV (av := []) (o := 111) (st := []) (m_X7_step G P  hB v_TX _ (fun Pc6 hBc6 hFc6 => ⟨rfl, ?_⟩)) cf_X7_step t_731 rfl (show kx 111 46 from (⟨by decide, rfl⟩ : kx 111 46)).1 ((show kx 111 46 from (⟨by decide, rfl⟩ : kx 111 46)).sh rfl) rfl rfl (Nat.le_of_ble_eq_true rfl) (by decide) rfl dX6_readConName_60
      refine g_iload_n dX6_readConName_63 rfl ?_
      exact g_retI dX6_readConName_64 rfl (hQ rc4 ⟨by omega, by omega⟩ _ hBc6 (FrX.c FrX.rf hFc6 rfl) )
    · refine g_aload_n dX6_readConName_41 rfl ?_
      refine g_iconst dX6_readConName_42 ?_
      refine g_aload_n dX6_readConName_43 rfl ?_
      refine x_g45_0 (n := 111) (⟨by decide, rfl⟩ : kx 110 45) ffX6_12 dX6_readConName_44 rfl ?_
      refine x_g46_5 (z := (P 111 5)) (⟨by decide, rfl⟩ : kx 111 46) ffX6_72 dX6_readConName_47 rfl ?_
      have f7 := bx_46_5 (o := 111) hB (⟨by decide, rfl⟩ : kx 111 46)
      refine g_vI (av := [vI 3, vI (P 111 5)]) (o := 110) (st := []) (m_X6_fail G P 3 (P 111 5) (by decide) ⟨by have q0 := bx_46_5 (o := 111) hB (⟨by decide, rfl⟩ : kx 111 46); omega, by have q0 := bx_46_5 (o := 111) hB (⟨by decide, rfl⟩ : kx 111 46); omega⟩ hB  _ (fun rc8 hc8 Pc8 hBc8 hFc8 => ⟨rc8, rfl, ?_⟩)) cf_X6_fail t_727 rfl (show kx 110 45 from (⟨by decide, rfl⟩ : kx 110 45)).1 ((show kx 110 45 from (⟨by decide, rfl⟩ : kx 110 45)).sh rfl) rfl rfl (Nat.le_of_ble_eq_true rfl) (by decide) rfl dX6_readConName_50
      refine g_pop dX6_readConName_53 rfl ?_
      refine g_iconst dX6_readConName_54 ?_
      exact g_retI dX6_readConName_55 rfl (hQ (-1) (by decide) _ hBc8 (FrX.c FrX.rf hFc8 rfl) )
  · refine g_aload_n dX6_readConName_10 rfl ?_
    refine g_vI (av := []) (o := 110) (st := []) (m_X6_failHere G P  hB  _ (fun rc9 hc9 Pc9 hBc9 hFc9 => ⟨rc9, rfl, ?_⟩)) cf_X6_failHere t_723 rfl (show kx 110 45 from (⟨by decide, rfl⟩ : kx 110 45)).1 ((show kx 110 45 from (⟨by decide, rfl⟩ : kx 110 45)).sh rfl) rfl rfl (Nat.le_of_ble_eq_true rfl) (by decide) rfl dX6_readConName_11
    refine g_pop dX6_readConName_14 rfl ?_
    refine g_iconst dX6_readConName_15 ?_
    exact g_retI dX6_readConName_16 rfl (hQ (-1) (by decide) _ hBc9 (FrX.c FrX.rf hFc9 rfl) )
set_option maxRecDepth 100000 in
set_option maxHeartbeats 4000000 in
theorem m_X6_fillCase (G : GT) (P : PH) (a1 : Int) (a2 : Int) (a3 : Int) (h_a1 : 0 ≤ a1 ∧ a1 ≤ 23) (h_a2 : 0 ≤ a2 ∧ a2 ≤ 9) (h_a3 : 0 ≤ a3 ∧ a3 ≤ 10) (hB : BdX P) (Q : Option PV → PH → Prop) (hQ : ∀ (P1 : PH) (_ : BdX P1) (_ : FrX ([], [50]) P P1), Q none P1) : Ct WSX G 3 iX6_fillCase [vR 110, vI a1, vI a2, vI a3] P Q := by
  refine Ct.of (by decide) (l0 := [(0, vR 110), (1, vI a1), (2, vI a2), (3, vI a3)]) rfl (Nat.le_of_ble_eq_true rfl) ?_
  refine g_iload_n dX6_fillCase_0 rfl ?_
  refine g_if_lt (tgt := 15) dX6_fillCase_1 (by decide) ⟨by omega, by omega⟩ (fun k1 => by exfalso; omega) (fun k1 => ?_)
  refine g_iload_n dX6_fillCase_4 rfl ?_
  refine g_iconst dX6_fillCase_5 ?_
  refine g_iadd dX6_fillCase_6 ?_
  refine g_aload_n dX6_fillCase_7 rfl ?_
  refine x_g45_1 (n := 114) (⟨by decide, rfl⟩ : kx 110 45) ffX6_20 dX6_fillCase_8 rfl ?_
  refine x_n49 (⟨by decide, rfl⟩ : kx 114 49) dX6_fillCase_11 ?_
  refine g_icmp_lt (tgt := 16) dX6_fillCase_12 (by decide) ⟨by omega, by omega⟩ (by decide) (fun k2 => ?_) (fun k2 => ?_)
  · refine g_aload_n dX6_fillCase_16 rfl ?_
    refine x_g45_2 (n := (P 110 2).toNat) (⟨by decide, rfl⟩ : kx 110 45) ffX6_27 dX6_fillCase_17 (br_110_2 hB) ?_
    refine x_g28_0 (n := (crX (P 110 2).toNat 0)) (bk_110_2 hB) ffX6_108 dX6_fillCase_20 rfl ?_
    refine g_astore (l1 := [(4, vR (crX (P 110 2).toNat 0)), (0, vR 110), (1, vI a1), (2, vI a2), (3, vI a3)]) dX6_fillCase_23 (by decide) rfl ?_
    refine g_aload dX6_fillCase_25 rfl ?_
    refine g_aload dX6_fillCase_27 rfl ?_
    refine x_g29_7 (n := (crX (crX (P 110 2).toNat 0) 7)) (ck_28_0 (bk_110_2 hB)) ffX6_193 dX6_fillCase_29 rfl ?_
    refine g_iload_n dX6_fillCase_32 rfl ?_
    refine x_l37 (z := (P (crX (crX (P 110 2).toNat 0) 7) a1)) (ck_29_7 (ck_28_0 (bk_110_2 hB))) dX6_fillCase_33 ⟨by omega, by omega⟩ rfl ?_
    have f3 := bx_37 (o := (crX (crX (P 110 2).toNat 0) 7)) (k := a1) hB (ck_29_7 (ck_28_0 (bk_110_2 hB)))
    refine g_vI (av := [vI (P (crX (crX (P 110 2).toNat 0) 7) a1)]) (o := (crX (P 110 2).toNat 0)) (st := []) (m_X3_sizeOf G P (crX (P 110 2).toNat 0) (P (crX (crX (P 110 2).toNat 0) 7) a1) (ck_28_0 (bk_110_2 hB)) ⟨by have q0 := bx_37 (o := (crX (crX (P 110 2).toNat 0) 7)) (k := a1) hB (ck_29_7 (ck_28_0 (bk_110_2 hB))); omega, by have q0 := bx_37 (o := (crX (crX (P 110 2).toNat 0) 7)) (k := a1) hB (ck_29_7 (ck_28_0 (bk_110_2 hB))); omega⟩ hB  _ (fun rc4 hc4 => ⟨rc4, rfl, ?_⟩)) cf_X3_sizeOf t_776 rfl (show kx (crX (P 110 2).toNat 0) 29 from (ck_28_0 (bk_110_2 hB))).1 ((show kx (crX (P 110 2).toNat 0) 29 from (ck_28_0 (bk_110_2 hB))).sh rfl) rfl rfl (Nat.le_of_ble_eq_true rfl) (by decide) rfl dX6_fillCase_34
    refine g_istore (l1 := [(5, vI rc4), (4, vR (crX (P 110 2).toNat 0)), (0, vR 110), (1, vI a1), (2, vI a2), (3, vI a3)]) dX6_fillCase_37 (by decide) rfl ?_
    refine g_aload dX6_fillCase_39 rfl ?_
    refine g_iload_n dX6_fillCase_41 rfl ?_
    refine g_vI (av := [vI a1]) (o := (crX (P 110 2).toNat 0)) (st := []) (m_X3_secondSize G P (crX (P 110 2).toNat 0) a1 (ck_28_0 (bk_110_2 hB)) ⟨by omega, by omega⟩ hB  _ (fun rc5 hc5 => ⟨rc5, rfl, ?_⟩)) cf_X3_secondSize t_836 rfl (show kx (crX (P 110 2).toNat 0) 29 from (ck_28_0 (bk_110_2 hB))).1 ((show kx (crX (P 110 2).toNat 0) 29 from (ck_28_0 (bk_110_2 hB))).sh rfl) rfl rfl (Nat.le_of_ble_eq_true rfl) (by decide) rfl dX6_fillCase_42
    refine g_istore (l1 := [(6, vI rc5), (5, vI rc4), (4, vR (crX (P 110 2).toNat 0)), (0, vR 110), (1, vI a1), (2, vI a2), (3, vI a3)]) dX6_fillCase_45 (by decide) rfl ?_
    refine g_aload dX6_fillCase_47 rfl ?_
    refine x_g29_6 (n := (crX (crX (P 110 2).toNat 0) 6)) (ck_28_0 (bk_110_2 hB)) ffX6_187 dX6_fillCase_49 rfl ?_
    refine g_iload_n dX6_fillCase_52 rfl ?_
    refine x_l36 (z := (P (crX (crX (P 110 2).toNat 0) 6) a1)) (ck_29_6 (ck_28_0 (bk_110_2 hB))) dX6_fillCase_53 ⟨by omega, by omega⟩ rfl ?_
    refine g_iconst dX6_fillCase_54 ?_
    have f6 := bx_36 (o := (crX (crX (P 110 2).toNat 0) 6)) (k := a1) hB (ck_29_6 (ck_28_0 (bk_110_2 hB)))
    refine g_icmp_ge (tgt := 62) dX6_fillCase_55 (by decide) ⟨by have q0 := bx_36 (o := (crX (crX (P 110 2).toNat 0) 6)) (k := a1) hB (ck_29_6 (ck_28_0 (bk_110_2 hB))); omega, by have q0 := bx_36 (o := (crX (crX (P 110 2).toNat 0) 6)) (k := a1) hB (ck_29_6 (ck_28_0 (bk_110_2 hB))); omega⟩ (by decide) (fun k7 => ?_) (fun k7 => ?_)
    · refine g_iconst dX6_fillCase_62 ?_
      refine g_istore (l1 := [(7, vI 0), (6, vI rc5), (5, vI rc4), (4, vR (crX (P 110 2).toNat 0)), (0, vR 110), (1, vI a1), (2, vI a2), (3, vI a3)]) dX6_fillCase_63 (by decide) rfl ?_
      refine g_iconst dX6_fillCase_65 ?_
      refine g_istore (l1 := [(8, vI 0), (7, vI 0), (6, vI rc5), (5, vI rc4), (4, vR (crX (P 110 2).toNat 0)), (0, vR 110), (1, vI a1), (2, vI a2), (3, vI a3)]) dX6_fillCase_66 (by decide) rfl ?_
      have L68_7 : ∀ (n68_7 : Nat) (x68_8_7 : Int) (h_x68_8_7 : 0 ≤ x68_8_7 ∧ x68_8_7 ≤ 2048) (H68_7 : PH) (hB68_7 : BdX H68_7) (hE68_7 : FrX ([], [50]) P H68_7) (hm68_7 : ((2049 - x68_8_7) : Int).toNat < n68_7), Go WSX G 3 iX6_fillCase 68 [(0, vR 110), (1, vI a1), (2, vI a2), (3, vI a3), (4, vR (crX (P 110 2).toNat 0)), (5, vI rc4), (6, vI rc5), (7, vI 0), (8, vI x68_8_7)] [] H68_7 Q := by
        intro n68_7
        induction n68_7 with
        | zero => intro x68_8_7 h_x68_8_7 H68_7 hB68_7 hE68_7 hm68_7; exact absurd hm68_7 (Nat.not_lt_zero _)
        | succ n68_7 ih68_7 =>
        intro x68_8_7 h_x68_8_7 H68_7 hB68_7 hE68_7 hm68_7
        refine g_iload dX6_fillCase_68 rfl ?_
        refine g_iload dX6_fillCase_70 rfl ?_
        refine g_icmp_ge (tgt := 182) dX6_fillCase_72 (by decide) ⟨by omega, by omega⟩ ⟨by omega, by omega⟩ (fun k17747 => ?_) (fun k17747 => ?_)
        · exact g_retV dX6_fillCase_182 rfl (hQ _ hB68_7 (FrX.c FrX.rf hE68_7 rfl) )
        · refine g_iload dX6_fillCase_75 rfl ?_
          refine g_sipush dX6_fillCase_77 (by decide) ?_
          refine g_icmp_ge (tgt := 182) dX6_fillCase_80 (by decide) ⟨by omega, by omega⟩ (by decide) (fun k17748 => ?_) (fun k17748 => ?_)
          · exact g_retV dX6_fillCase_182 rfl (hQ _ hB68_7 (FrX.c FrX.rf hE68_7 rfl) )
          · refine g_aload_n dX6_fillCase_83 rfl ?_
            refine x_g45_1 (n := 114) (⟨by decide, rfl⟩ : kx 110 45) ffX6_20 dX6_fillCase_84 rfl ?_
            refine g_iload_n dX6_fillCase_87 rfl ?_
            refine x_l49 (n := (crX 114 a3.toNat)) (⟨by decide, rfl⟩ : kx 114 49) dX6_fillCase_88 ⟨by omega, by omega⟩ rfl ?_
            have kk17749 := (ce_49 (j := a3.toNat) (⟨by decide, rfl⟩ : kx 114 49) (by omega))
            refine g_iload dX6_fillCase_89 rfl ?_
            refine x_l50 (z := (H68_7 (crX 114 a3.toNat) x68_8_7)) kk17749 dX6_fillCase_91 ⟨by omega, by omega⟩ rfl ?_
            have f17750 := bx_50 (o := (crX 114 a3.toNat)) (k := x68_8_7) hB68_7 kk17749
            have J176_18191 : ∀ (H176_18191 : PH) (hB176_18191 : BdX H176_18191) (hE176_18191 : FrX ([], [50]) H68_7 H176_18191), Go WSX G 3 iX6_fillCase 176 [(0, vR 110), (1, vI a1), (2, vI a2), (3, vI a3), (4, vR (crX (P 110 2).toNat 0)), (5, vI rc4), (6, vI rc5), (7, vI 0), (8, vI x68_8_7)] [] H176_18191 Q := by
              intro H176_18191 hB176_18191 hE176_18191
              refine g_iinc (l1 := [(8, vI (x68_8_7 + 1)), (0, vR 110), (1, vI a1), (2, vI a2), (3, vI a3), (4, vR (crX (P 110 2).toNat 0)), (5, vI rc4), (6, vI rc5), (7, vI 0)]) dX6_fillCase_176 rfl (by decide) rfl ?_
              refine g_goto (tgt := 68) dX6_fillCase_179 (by decide) ?_
              refine g_forget (l1 := [(0, vR 110), (1, vI a1), (2, vI a2), (3, vI a3), (4, vR (crX (P 110 2).toNat 0)), (5, vI rc4), (6, vI rc5), (7, vI 0), (8, vI (x68_8_7 + 1))]) (by intro q hq; simp only [List.mem_cons, List.not_mem_nil, or_false] at hq ⊢; rcases hq with rfl | rfl | rfl | rfl | rfl | rfl | rfl | rfl | rfl <;> simp) ?_
              exact ih68_7 (x68_8_7 + 1) ⟨by omega, by omega⟩ _ hB176_18191 (FrX.c (FrX.c FrX.rf hE68_7 rfl) hE176_18191 rfl) (by omega)
            refine g_if_ne (tgt := 98) dX6_fillCase_92 (by decide) ⟨by have q0 := bx_50 (o := (crX 114 a3.toNat)) (k := x68_8_7) hB68_7 kk17749; omega, by have q0 := bx_50 (o := (crX 114 a3.toNat)) (k := x68_8_7) hB68_7 kk17749; omega⟩ (fun k18193 => ?_) (fun k18193 => ?_)
            · refine g_aload dX6_fillCase_98 rfl ?_
              refine x_g29_5 (n := (crX (crX (P 110 2).toNat 0) 5)) (ck_28_0 (bk_110_2 hB)) ffX6_190 dX6_fillCase_100 rfl ?_
              refine g_iload_n dX6_fillCase_103 rfl ?_
              refine x_l35 (z := (P (crX (crX (P 110 2).toNat 0) 5) a1)) (ck_29_5 (ck_28_0 (bk_110_2 hB))) dX6_fillCase_104 ⟨by omega, by omega⟩ ((FrX.g hE68_7 (ck_29_5 (ck_28_0 (bk_110_2 hB))) rfl).trans rfl) ?_
              refine g_iload dX6_fillCase_105 rfl ?_
              refine g_iload dX6_fillCase_107 rfl ?_
              refine g_imul dX6_fillCase_109 ?_
              refine g_norm (fun r18194 h_r18194 e_r18194 => ?_)
              refine g_iadd dX6_fillCase_110 ?_
              refine g_norm (fun r18195 h_r18195 e_r18195 => ?_)
              refine g_istore (l1 := [(9, vI r18195), (0, vR 110), (1, vI a1), (2, vI a2), (3, vI a3), (4, vR (crX (P 110 2).toNat 0)), (5, vI rc4), (6, vI rc5), (7, vI 0), (8, vI x68_8_7)]) dX6_fillCase_111 (by decide) rfl ?_
              refine g_iconst dX6_fillCase_113 ?_
              refine g_istore (l1 := [(10, vI 0), (9, vI r18195), (0, vR 110), (1, vI a1), (2, vI a2), (3, vI a3), (4, vR (crX (P 110 2).toNat 0)), (5, vI rc4), (6, vI rc5), (7, vI 0), (8, vI x68_8_7)]) dX6_fillCase_114 (by decide) rfl ?_
              have L116_18195 : ∀ (n116_18195 : Nat) (x116_10_18195 : Int) (h_x116_10_18195 : 0 ≤ x116_10_18195 ∧ x116_10_18195 ≤ 2048) (H116_18195 : PH) (hB116_18195 : BdX H116_18195) (hE116_18195 : FrX ([], [50]) H68_7 H116_18195) (hm116_18195 : ((2049 - x116_10_18195) : Int).toNat < n116_18195), Go WSX G 3 iX6_fillCase 116 [(0, vR 110), (1, vI a1), (2, vI a2), (3, vI a3), (4, vR (crX (P 110 2).toNat 0)), (5, vI rc4), (6, vI rc5), (7, vI 0), (8, vI x68_8_7), (9, vI r18195), (10, vI x116_10_18195)] [] H116_18195 Q := by
                intro n116_18195
                induction n116_18195 with
                | zero => intro x116_10_18195 h_x116_10_18195 H116_18195 hB116_18195 hE116_18195 hm116_18195; exact absurd hm116_18195 (Nat.not_lt_zero _)
                | succ n116_18195 ih116_18195 =>
                intro x116_10_18195 h_x116_10_18195 H116_18195 hB116_18195 hE116_18195 hm116_18195
                refine g_iload dX6_fillCase_116 rfl ?_
                refine g_iload dX6_fillCase_118 rfl ?_
                refine g_icmp_ge (tgt := 176) dX6_fillCase_120 (by decide) ⟨by omega, by omega⟩ ⟨by omega, by omega⟩ (fun k18613 => ?_) (fun k18613 => ?_)
                · refine g_forget (l1 := [(0, vR 110), (1, vI a1), (2, vI a2), (3, vI a3), (4, vR (crX (P 110 2).toNat 0)), (5, vI rc4), (6, vI rc5), (7, vI 0), (8, vI x68_8_7)]) (by intro q hq; simp only [List.mem_cons, List.not_mem_nil, or_false] at hq ⊢; rcases hq with rfl | rfl | rfl | rfl | rfl | rfl | rfl | rfl | rfl <;> simp) ?_
                  exact J176_18191 _ hB116_18195 (FrX.c FrX.rf hE116_18195 rfl)
                · refine g_iload dX6_fillCase_123 rfl ?_
                  refine g_sipush dX6_fillCase_125 (by decide) ?_
                  refine g_icmp_ge (tgt := 176) dX6_fillCase_128 (by decide) ⟨by omega, by omega⟩ (by decide) (fun k18614 => ?_) (fun k18614 => ?_)
                  · refine g_forget (l1 := [(0, vR 110), (1, vI a1), (2, vI a2), (3, vI a3), (4, vR (crX (P 110 2).toNat 0)), (5, vI rc4), (6, vI rc5), (7, vI 0), (8, vI x68_8_7)]) (by intro q hq; simp only [List.mem_cons, List.not_mem_nil, or_false] at hq ⊢; rcases hq with rfl | rfl | rfl | rfl | rfl | rfl | rfl | rfl | rfl <;> simp) ?_
                    exact J176_18191 _ hB116_18195 (FrX.c FrX.rf hE116_18195 rfl)
                  · refine g_iload dX6_fillCase_131 rfl ?_
                    have J170_18623 : ∀ (H170_18623 : PH) (hB170_18623 : BdX H170_18623) (hE170_18623 : FrX ([], [50]) H116_18195 H170_18623), Go WSX G 3 iX6_fillCase 170 [(0, vR 110), (1, vI a1), (2, vI a2), (3, vI a3), (4, vR (crX (P 110 2).toNat 0)), (5, vI rc4), (6, vI rc5), (7, vI 0), (8, vI x68_8_7), (9, vI r18195), (10, vI x116_10_18195)] [] H170_18623 Q := by
                      intro H170_18623 hB170_18623 hE170_18623
                      refine g_iinc (l1 := [(10, vI (x116_10_18195 + 1)), (0, vR 110), (1, vI a1), (2, vI a2), (3, vI a3), (4, vR (crX (P 110 2).toNat 0)), (5, vI rc4), (6, vI rc5), (7, vI 0), (8, vI x68_8_7), (9, vI r18195)]) dX6_fillCase_170 rfl (by decide) rfl ?_
                      refine g_goto (tgt := 116) dX6_fillCase_173 (by decide) ?_
                      refine g_forget (l1 := [(0, vR 110), (1, vI a1), (2, vI a2), (3, vI a3), (4, vR (crX (P 110 2).toNat 0)), (5, vI rc4), (6, vI rc5), (7, vI 0), (8, vI x68_8_7), (9, vI r18195), (10, vI (x116_10_18195 + 1))]) (by intro q hq; simp only [List.mem_cons, List.not_mem_nil, or_false] at hq ⊢; rcases hq with rfl | rfl | rfl | rfl | rfl | rfl | rfl | rfl | rfl | rfl | rfl <;> simp) ?_
                      exact ih116_18195 (x116_10_18195 + 1) ⟨by omega, by omega⟩ _ hB170_18623 (FrX.c (FrX.c FrX.rf hE116_18195 rfl) hE170_18623 rfl) (by omega)
                    have J150_18624 : ∀ (_ : True), Go WSX G 3 iX6_fillCase 150 [(0, vR 110), (1, vI a1), (2, vI a2), (3, vI a3), (4, vR (crX (P 110 2).toNat 0)), (5, vI rc4), (6, vI rc5), (7, vI 0), (8, vI x68_8_7), (9, vI r18195), (10, vI x116_10_18195)] [] H116_18195 Q := by
                      intro _
                      refine g_aload_n dX6_fillCase_150 rfl ?_
                      refine x_g45_1 (n := 114) (⟨by decide, rfl⟩ : kx 110 45) ffX6_20 dX6_fillCase_151 rfl ?_
                      refine g_iload_n dX6_fillCase_154 rfl ?_
                      refine x_l49 (n := (crX 114 a2.toNat)) (⟨by decide, rfl⟩ : kx 114 49) dX6_fillCase_155 ⟨by omega, by omega⟩ rfl ?_
                      have kk18626 := (ce_49 (j := a2.toNat) (⟨by decide, rfl⟩ : kx 114 49) (by omega))
                      refine g_iload dX6_fillCase_156 rfl ?_
                      refine g_iload dX6_fillCase_158 rfl ?_
                      refine g_iadd dX6_fillCase_160 ?_
                      refine g_norm (fun r18627 h_r18627 e_r18627 => ?_)
                      refine g_iload dX6_fillCase_161 rfl ?_
                      refine g_iload dX6_fillCase_163 rfl ?_
                      refine g_iadd dX6_fillCase_165 ?_
                      refine g_norm (fun r18628 h_r18628 e_r18628 => ?_)
                      refine g_iconst dX6_fillCase_166 ?_
                      refine g_sV (av := [vR (crX 114 a2.toNat), vI r18627, vI r18628, vI 1]) (st := []) (m_X6_fill G H116_18195 (crX 114 a2.toNat) r18627 r18628 1 kk18626 ⟨by omega, by omega⟩ ⟨by omega, by omega⟩ (by decide) hB116_18195  _ (fun Pc18629 hBc18629 hFc18629 => ⟨rfl, ?_⟩)) cf_X6_fill t_808 rfl (Nat.le_of_ble_eq_true rfl) (by decide) rfl dX6_fillCase_167
                      refine g_forget (l1 := [(0, vR 110), (1, vI a1), (2, vI a2), (3, vI a3), (4, vR (crX (P 110 2).toNat 0)), (5, vI rc4), (6, vI rc5), (7, vI 0), (8, vI x68_8_7), (9, vI r18195), (10, vI x116_10_18195)]) (by intro q hq; simp only [List.mem_cons, List.not_mem_nil, or_false] at hq ⊢; rcases hq with rfl | rfl | rfl | rfl | rfl | rfl | rfl | rfl | rfl | rfl | rfl <;> simp) ?_
                      exact J170_18623 _ hBc18629 (FrX.c FrX.rf hFc18629 rfl)
                    refine g_if_ne (tgt := 150) dX6_fillCase_133 (by decide) (by decide) (fun k18630 => by exfalso; omega) (fun k18630 => ?_)
                    refine g_aload_n dX6_fillCase_136 rfl ?_
                    refine x_g45_1 (n := 114) (⟨by decide, rfl⟩ : kx 110 45) ffX6_20 dX6_fillCase_137 rfl ?_
                    refine g_iload_n dX6_fillCase_140 rfl ?_
                    refine g_iconst dX6_fillCase_141 ?_
                    refine g_iadd dX6_fillCase_142 ?_
                    refine x_l49 (n := (crX 114 (a3 + 1).toNat)) (⟨by decide, rfl⟩ : kx 114 49) dX6_fillCase_143 ⟨by omega, by omega⟩ rfl ?_
                    have kk18631 := (ce_49 (j := (a3 + 1).toNat) (⟨by decide, rfl⟩ : kx 114 49) (by omega))
                    refine g_iload dX6_fillCase_144 rfl ?_
                    refine x_l50 (z := (H116_18195 (crX 114 (a3 + 1).toNat) x116_10_18195)) kk18631 dX6_fillCase_146 ⟨by omega, by omega⟩ rfl ?_
                    have f18632 := bx_50 (o := (crX 114 (a3 + 1).toNat)) (k := x116_10_18195) hB116_18195 kk18631
                    refine g_if_eq (tgt := 170) dX6_fillCase_147 (by decide) ⟨by have q0 := bx_50 (o := (crX 114 (a3 + 1).toNat)) (k := x116_10_18195) hB116_18195 kk18631; omega, by have q0 := bx_50 (o := (crX 114 (a3 + 1).toNat)) (k := x116_10_18195) hB116_18195 kk18631; omega⟩ (fun k18633 => ?_) (fun k18633 => ?_)
                    · refine g_forget (l1 := [(0, vR 110), (1, vI a1), (2, vI a2), (3, vI a3), (4, vR (crX (P 110 2).toNat 0)), (5, vI rc4), (6, vI rc5), (7, vI 0), (8, vI x68_8_7), (9, vI r18195), (10, vI x116_10_18195)]) (by intro q hq; simp only [List.mem_cons, List.not_mem_nil, or_false] at hq ⊢; rcases hq with rfl | rfl | rfl | rfl | rfl | rfl | rfl | rfl | rfl | rfl | rfl <;> simp) ?_
                      exact J170_18623 _ hB116_18195 FrX.rf
                    · refine g_forget (l1 := [(0, vR 110), (1, vI a1), (2, vI a2), (3, vI a3), (4, vR (crX (P 110 2).toNat 0)), (5, vI rc4), (6, vI rc5), (7, vI 0), (8, vI x68_8_7), (9, vI r18195), (10, vI x116_10_18195)]) (by intro q hq; simp only [List.mem_cons, List.not_mem_nil, or_false] at hq ⊢; rcases hq with rfl | rfl | rfl | rfl | rfl | rfl | rfl | rfl | rfl | rfl | rfl <;> simp) ?_
                      exact J150_18624 trivial
              refine g_forget (l1 := [(0, vR 110), (1, vI a1), (2, vI a2), (3, vI a3), (4, vR (crX (P 110 2).toNat 0)), (5, vI rc4), (6, vI rc5), (7, vI 0), (8, vI x68_8_7), (9, vI r18195), (10, vI 0)]) (by intro q hq; simp only [List.mem_cons, List.not_mem_nil, or_false] at hq ⊢; rcases hq with rfl | rfl | rfl | rfl | rfl | rfl | rfl | rfl | rfl | rfl | rfl <;> simp) ?_
              exact L116_18195 _ 0 (by decide) _ hB68_7 FrX.rf (Nat.lt_succ_self _)
            · refine g_goto (tgt := 176) dX6_fillCase_95 (by decide) ?_
              refine g_forget (l1 := [(0, vR 110), (1, vI a1), (2, vI a2), (3, vI a3), (4, vR (crX (P 110 2).toNat 0)), (5, vI rc4), (6, vI rc5), (7, vI 0), (8, vI x68_8_7)]) (by intro q hq; simp only [List.mem_cons, List.not_mem_nil, or_false] at hq ⊢; rcases hq with rfl | rfl | rfl | rfl | rfl | rfl | rfl | rfl | rfl <;> simp) ?_
              exact J176_18191 _ hB68_7 FrX.rf
      refine g_forget (l1 := [(0, vR 110), (1, vI a1), (2, vI a2), (3, vI a3), (4, vR (crX (P 110 2).toNat 0)), (5, vI rc4), (6, vI rc5), (7, vI 0), (8, vI 0)]) (by intro q hq; simp only [List.mem_cons, List.not_mem_nil, or_false] at hq ⊢; rcases hq with rfl | rfl | rfl | rfl | rfl | rfl | rfl | rfl | rfl <;> simp) ?_
      exact L68_7 _ 0 (by decide) _ hB FrX.rf (Nat.lt_succ_self _)
    · refine g_iconst dX6_fillCase_58 ?_
      refine g_goto (tgt := 63) dX6_fillCase_59 (by decide) ?_
      refine g_istore (l1 := [(7, vI 1), (6, vI rc5), (5, vI rc4), (4, vR (crX (P 110 2).toNat 0)), (0, vR 110), (1, vI a1), (2, vI a2), (3, vI a3)]) dX6_fillCase_63 (by decide) rfl ?_
      refine g_iconst dX6_fillCase_65 ?_
      refine g_istore (l1 := [(8, vI 0), (7, vI 1), (6, vI rc5), (5, vI rc4), (4, vR (crX (P 110 2).toNat 0)), (0, vR 110), (1, vI a1), (2, vI a2), (3, vI a3)]) dX6_fillCase_66 (by decide) rfl ?_
      have L68_18633 : ∀ (n68_18633 : Nat) (x68_8_18633 : Int) (h_x68_8_18633 : 0 ≤ x68_8_18633 ∧ x68_8_18633 ≤ 2048) (H68_18633 : PH) (hB68_18633 : BdX H68_18633) (hE68_18633 : FrX ([], [50]) P H68_18633) (hm68_18633 : ((2049 - x68_8_18633) : Int).toNat < n68_18633), Go WSX G 3 iX6_fillCase 68 [(0, vR 110), (1, vI a1), (2, vI a2), (3, vI a3), (4, vR (crX (P 110 2).toNat 0)), (5, vI rc4), (6, vI rc5), (7, vI 1), (8, vI x68_8_18633)] [] H68_18633 Q := by
        intro n68_18633
        induction n68_18633 with
        | zero => intro x68_8_18633 h_x68_8_18633 H68_18633 hB68_18633 hE68_18633 hm68_18633; exact absurd hm68_18633 (Nat.not_lt_zero _)
        | succ n68_18633 ih68_18633 =>
        intro x68_8_18633 h_x68_8_18633 H68_18633 hB68_18633 hE68_18633 hm68_18633
        refine g_iload dX6_fillCase_68 rfl ?_
        refine g_iload dX6_fillCase_70 rfl ?_
        refine g_icmp_ge (tgt := 182) dX6_fillCase_72 (by decide) ⟨by omega, by omega⟩ ⟨by omega, by omega⟩ (fun k31333 => ?_) (fun k31333 => ?_)
        · exact g_retV dX6_fillCase_182 rfl (hQ _ hB68_18633 (FrX.c FrX.rf hE68_18633 rfl) )
        · refine g_iload dX6_fillCase_75 rfl ?_
          refine g_sipush dX6_fillCase_77 (by decide) ?_
          refine g_icmp_ge (tgt := 182) dX6_fillCase_80 (by decide) ⟨by omega, by omega⟩ (by decide) (fun k31334 => ?_) (fun k31334 => ?_)
          · exact g_retV dX6_fillCase_182 rfl (hQ _ hB68_18633 (FrX.c FrX.rf hE68_18633 rfl) )
          · refine g_aload_n dX6_fillCase_83 rfl ?_
            refine x_g45_1 (n := 114) (⟨by decide, rfl⟩ : kx 110 45) ffX6_20 dX6_fillCase_84 rfl ?_
            refine g_iload_n dX6_fillCase_87 rfl ?_
            refine x_l49 (n := (crX 114 a3.toNat)) (⟨by decide, rfl⟩ : kx 114 49) dX6_fillCase_88 ⟨by omega, by omega⟩ rfl ?_
            have kk31335 := (ce_49 (j := a3.toNat) (⟨by decide, rfl⟩ : kx 114 49) (by omega))
            refine g_iload dX6_fillCase_89 rfl ?_
            refine x_l50 (z := (H68_18633 (crX 114 a3.toNat) x68_8_18633)) kk31335 dX6_fillCase_91 ⟨by omega, by omega⟩ rfl ?_
            have f31336 := bx_50 (o := (crX 114 a3.toNat)) (k := x68_8_18633) hB68_18633 kk31335
            have J176_31651 : ∀ (H176_31651 : PH) (hB176_31651 : BdX H176_31651) (hE176_31651 : FrX ([], [50]) H68_18633 H176_31651), Go WSX G 3 iX6_fillCase 176 [(0, vR 110), (1, vI a1), (2, vI a2), (3, vI a3), (4, vR (crX (P 110 2).toNat 0)), (5, vI rc4), (6, vI rc5), (7, vI 1), (8, vI x68_8_18633)] [] H176_31651 Q := by
              intro H176_31651 hB176_31651 hE176_31651
              refine g_iinc (l1 := [(8, vI (x68_8_18633 + 1)), (0, vR 110), (1, vI a1), (2, vI a2), (3, vI a3), (4, vR (crX (P 110 2).toNat 0)), (5, vI rc4), (6, vI rc5), (7, vI 1)]) dX6_fillCase_176 rfl (by decide) rfl ?_
              refine g_goto (tgt := 68) dX6_fillCase_179 (by decide) ?_
              refine g_forget (l1 := [(0, vR 110), (1, vI a1), (2, vI a2), (3, vI a3), (4, vR (crX (P 110 2).toNat 0)), (5, vI rc4), (6, vI rc5), (7, vI 1), (8, vI (x68_8_18633 + 1))]) (by intro q hq; simp only [List.mem_cons, List.not_mem_nil, or_false] at hq ⊢; rcases hq with rfl | rfl | rfl | rfl | rfl | rfl | rfl | rfl | rfl <;> simp) ?_
              exact ih68_18633 (x68_8_18633 + 1) ⟨by omega, by omega⟩ _ hB176_31651 (FrX.c (FrX.c FrX.rf hE68_18633 rfl) hE176_31651 rfl) (by omega)
            refine g_if_ne (tgt := 98) dX6_fillCase_92 (by decide) ⟨by have q0 := bx_50 (o := (crX 114 a3.toNat)) (k := x68_8_18633) hB68_18633 kk31335; omega, by have q0 := bx_50 (o := (crX 114 a3.toNat)) (k := x68_8_18633) hB68_18633 kk31335; omega⟩ (fun k31653 => ?_) (fun k31653 => ?_)
            · refine g_aload dX6_fillCase_98 rfl ?_
              refine x_g29_5 (n := (crX (crX (P 110 2).toNat 0) 5)) (ck_28_0 (bk_110_2 hB)) ffX6_190 dX6_fillCase_100 rfl ?_
              refine g_iload_n dX6_fillCase_103 rfl ?_
              refine x_l35 (z := (P (crX (crX (P 110 2).toNat 0) 5) a1)) (ck_29_5 (ck_28_0 (bk_110_2 hB))) dX6_fillCase_104 ⟨by omega, by omega⟩ ((FrX.g hE68_18633 (ck_29_5 (ck_28_0 (bk_110_2 hB))) rfl).trans rfl) ?_
              refine g_iload dX6_fillCase_105 rfl ?_
              refine g_iload dX6_fillCase_107 rfl ?_
              refine g_imul dX6_fillCase_109 ?_
              refine g_norm (fun r31654 h_r31654 e_r31654 => ?_)
              refine g_iadd dX6_fillCase_110 ?_
              refine g_norm (fun r31655 h_r31655 e_r31655 => ?_)
              refine g_istore (l1 := [(9, vI r31655), (0, vR 110), (1, vI a1), (2, vI a2), (3, vI a3), (4, vR (crX (P 110 2).toNat 0)), (5, vI rc4), (6, vI rc5), (7, vI 1), (8, vI x68_8_18633)]) dX6_fillCase_111 (by decide) rfl ?_
              refine g_iconst dX6_fillCase_113 ?_
              refine g_istore (l1 := [(10, vI 0), (9, vI r31655), (0, vR 110), (1, vI a1), (2, vI a2), (3, vI a3), (4, vR (crX (P 110 2).toNat 0)), (5, vI rc4), (6, vI rc5), (7, vI 1), (8, vI x68_8_18633)]) dX6_fillCase_114 (by decide) rfl ?_
              have L116_31655 : ∀ (n116_31655 : Nat) (x116_10_31655 : Int) (h_x116_10_31655 : 0 ≤ x116_10_31655 ∧ x116_10_31655 ≤ 2048) (H116_31655 : PH) (hB116_31655 : BdX H116_31655) (hE116_31655 : FrX ([], [50]) H68_18633 H116_31655) (hm116_31655 : ((2049 - x116_10_31655) : Int).toNat < n116_31655), Go WSX G 3 iX6_fillCase 116 [(0, vR 110), (1, vI a1), (2, vI a2), (3, vI a3), (4, vR (crX (P 110 2).toNat 0)), (5, vI rc4), (6, vI rc5), (7, vI 1), (8, vI x68_8_18633), (9, vI r31655), (10, vI x116_10_31655)] [] H116_31655 Q := by
                intro n116_31655
                induction n116_31655 with
                | zero => intro x116_10_31655 h_x116_10_31655 H116_31655 hB116_31655 hE116_31655 hm116_31655; exact absurd hm116_31655 (Nat.not_lt_zero _)
                | succ n116_31655 ih116_31655 =>
                intro x116_10_31655 h_x116_10_31655 H116_31655 hB116_31655 hE116_31655 hm116_31655
                refine g_iload dX6_fillCase_116 rfl ?_
                refine g_iload dX6_fillCase_118 rfl ?_
                refine g_icmp_ge (tgt := 176) dX6_fillCase_120 (by decide) ⟨by omega, by omega⟩ ⟨by omega, by omega⟩ (fun k31953 => ?_) (fun k31953 => ?_)
                · refine g_forget (l1 := [(0, vR 110), (1, vI a1), (2, vI a2), (3, vI a3), (4, vR (crX (P 110 2).toNat 0)), (5, vI rc4), (6, vI rc5), (7, vI 1), (8, vI x68_8_18633)]) (by intro q hq; simp only [List.mem_cons, List.not_mem_nil, or_false] at hq ⊢; rcases hq with rfl | rfl | rfl | rfl | rfl | rfl | rfl | rfl | rfl <;> simp) ?_
                  exact J176_31651 _ hB116_31655 (FrX.c FrX.rf hE116_31655 rfl)
                · refine g_iload dX6_fillCase_123 rfl ?_
                  refine g_sipush dX6_fillCase_125 (by decide) ?_
                  refine g_icmp_ge (tgt := 176) dX6_fillCase_128 (by decide) ⟨by omega, by omega⟩ (by decide) (fun k31954 => ?_) (fun k31954 => ?_)
                  · refine g_forget (l1 := [(0, vR 110), (1, vI a1), (2, vI a2), (3, vI a3), (4, vR (crX (P 110 2).toNat 0)), (5, vI rc4), (6, vI rc5), (7, vI 1), (8, vI x68_8_18633)]) (by intro q hq; simp only [List.mem_cons, List.not_mem_nil, or_false] at hq ⊢; rcases hq with rfl | rfl | rfl | rfl | rfl | rfl | rfl | rfl | rfl <;> simp) ?_
                    exact J176_31651 _ hB116_31655 (FrX.c FrX.rf hE116_31655 rfl)
                  · refine g_iload dX6_fillCase_131 rfl ?_
                    have J170_31960 : ∀ (H170_31960 : PH) (hB170_31960 : BdX H170_31960) (hE170_31960 : FrX ([], [50]) H116_31655 H170_31960), Go WSX G 3 iX6_fillCase 170 [(0, vR 110), (1, vI a1), (2, vI a2), (3, vI a3), (4, vR (crX (P 110 2).toNat 0)), (5, vI rc4), (6, vI rc5), (7, vI 1), (8, vI x68_8_18633), (9, vI r31655), (10, vI x116_10_31655)] [] H170_31960 Q := by
                      intro H170_31960 hB170_31960 hE170_31960
                      refine g_iinc (l1 := [(10, vI (x116_10_31655 + 1)), (0, vR 110), (1, vI a1), (2, vI a2), (3, vI a3), (4, vR (crX (P 110 2).toNat 0)), (5, vI rc4), (6, vI rc5), (7, vI 1), (8, vI x68_8_18633), (9, vI r31655)]) dX6_fillCase_170 rfl (by decide) rfl ?_
                      refine g_goto (tgt := 116) dX6_fillCase_173 (by decide) ?_
                      refine g_forget (l1 := [(0, vR 110), (1, vI a1), (2, vI a2), (3, vI a3), (4, vR (crX (P 110 2).toNat 0)), (5, vI rc4), (6, vI rc5), (7, vI 1), (8, vI x68_8_18633), (9, vI r31655), (10, vI (x116_10_31655 + 1))]) (by intro q hq; simp only [List.mem_cons, List.not_mem_nil, or_false] at hq ⊢; rcases hq with rfl | rfl | rfl | rfl | rfl | rfl | rfl | rfl | rfl | rfl | rfl <;> simp) ?_
                      exact ih116_31655 (x116_10_31655 + 1) ⟨by omega, by omega⟩ _ hB170_31960 (FrX.c (FrX.c FrX.rf hE116_31655 rfl) hE170_31960 rfl) (by omega)
                    have J150_31961 : ∀ (_ : True), Go WSX G 3 iX6_fillCase 150 [(0, vR 110), (1, vI a1), (2, vI a2), (3, vI a3), (4, vR (crX (P 110 2).toNat 0)), (5, vI rc4), (6, vI rc5), (7, vI 1), (8, vI x68_8_18633), (9, vI r31655), (10, vI x116_10_31655)] [] H116_31655 Q := by
                      intro _
                      refine g_aload_n dX6_fillCase_150 rfl ?_
                      refine x_g45_1 (n := 114) (⟨by decide, rfl⟩ : kx 110 45) ffX6_20 dX6_fillCase_151 rfl ?_
                      refine g_iload_n dX6_fillCase_154 rfl ?_
                      refine x_l49 (n := (crX 114 a2.toNat)) (⟨by decide, rfl⟩ : kx 114 49) dX6_fillCase_155 ⟨by omega, by omega⟩ rfl ?_
                      have kk31963 := (ce_49 (j := a2.toNat) (⟨by decide, rfl⟩ : kx 114 49) (by omega))
                      refine g_iload dX6_fillCase_156 rfl ?_
                      refine g_iload dX6_fillCase_158 rfl ?_
                      refine g_iadd dX6_fillCase_160 ?_
                      refine g_norm (fun r31964 h_r31964 e_r31964 => ?_)
                      refine g_iload dX6_fillCase_161 rfl ?_
                      refine g_iload dX6_fillCase_163 rfl ?_
                      refine g_iadd dX6_fillCase_165 ?_
                      refine g_norm (fun r31965 h_r31965 e_r31965 => ?_)
                      refine g_iconst dX6_fillCase_166 ?_
                      refine g_sV (av := [vR (crX 114 a2.toNat), vI r31964, vI r31965, vI 1]) (st := []) (m_X6_fill G H116_31655 (crX 114 a2.toNat) r31964 r31965 1 kk31963 ⟨by omega, by omega⟩ ⟨by omega, by omega⟩ (by decide) hB116_31655  _ (fun Pc31966 hBc31966 hFc31966 => ⟨rfl, ?_⟩)) cf_X6_fill t_808 rfl (Nat.le_of_ble_eq_true rfl) (by decide) rfl dX6_fillCase_167
                      refine g_forget (l1 := [(0, vR 110), (1, vI a1), (2, vI a2), (3, vI a3), (4, vR (crX (P 110 2).toNat 0)), (5, vI rc4), (6, vI rc5), (7, vI 1), (8, vI x68_8_18633), (9, vI r31655), (10, vI x116_10_31655)]) (by intro q hq; simp only [List.mem_cons, List.not_mem_nil, or_false] at hq ⊢; rcases hq with rfl | rfl | rfl | rfl | rfl | rfl | rfl | rfl | rfl | rfl | rfl <;> simp) ?_
                      exact J170_31960 _ hBc31966 (FrX.c FrX.rf hFc31966 rfl)
                    refine g_if_ne (tgt := 150) dX6_fillCase_133 (by decide) (by decide) (fun k31967 => ?_) (fun k31967 => by exfalso; omega)
                    refine g_forget (l1 := [(0, vR 110), (1, vI a1), (2, vI a2), (3, vI a3), (4, vR (crX (P 110 2).toNat 0)), (5, vI rc4), (6, vI rc5), (7, vI 1), (8, vI x68_8_18633), (9, vI r31655), (10, vI x116_10_31655)]) (by intro q hq; simp only [List.mem_cons, List.not_mem_nil, or_false] at hq ⊢; rcases hq with rfl | rfl | rfl | rfl | rfl | rfl | rfl | rfl | rfl | rfl | rfl <;> simp) ?_
                    exact J150_31961 trivial
              refine g_forget (l1 := [(0, vR 110), (1, vI a1), (2, vI a2), (3, vI a3), (4, vR (crX (P 110 2).toNat 0)), (5, vI rc4), (6, vI rc5), (7, vI 1), (8, vI x68_8_18633), (9, vI r31655), (10, vI 0)]) (by intro q hq; simp only [List.mem_cons, List.not_mem_nil, or_false] at hq ⊢; rcases hq with rfl | rfl | rfl | rfl | rfl | rfl | rfl | rfl | rfl | rfl | rfl <;> simp) ?_
              exact L116_31655 _ 0 (by decide) _ hB68_18633 FrX.rf (Nat.lt_succ_self _)
            · refine g_goto (tgt := 176) dX6_fillCase_95 (by decide) ?_
              refine g_forget (l1 := [(0, vR 110), (1, vI a1), (2, vI a2), (3, vI a3), (4, vR (crX (P 110 2).toNat 0)), (5, vI rc4), (6, vI rc5), (7, vI 1), (8, vI x68_8_18633)]) (by intro q hq; simp only [List.mem_cons, List.not_mem_nil, or_false] at hq ⊢; rcases hq with rfl | rfl | rfl | rfl | rfl | rfl | rfl | rfl | rfl <;> simp) ?_
              exact J176_31651 _ hB68_18633 FrX.rf
      refine g_forget (l1 := [(0, vR 110), (1, vI a1), (2, vI a2), (3, vI a3), (4, vR (crX (P 110 2).toNat 0)), (5, vI rc4), (6, vI rc5), (7, vI 1), (8, vI 0)]) (by intro q hq; simp only [List.mem_cons, List.not_mem_nil, or_false] at hq ⊢; rcases hq with rfl | rfl | rfl | rfl | rfl | rfl | rfl | rfl | rfl <;> simp) ?_
      exact L68_18633 _ 0 (by decide) _ hB FrX.rf (Nat.lt_succ_self _)
  · exact g_retV dX6_fillCase_15 rfl (hQ _ hB FrX.rf )
def st_X6_readValue (G : GT) (n : Nat) : Prop := ∀ (P : PH) (a1 : Int) (a2 : Int) (h_a1 : (-2147483648) ≤ a1 ∧ a1 ≤ 2147483647) (h_a2 : (-2147483648) ≤ a2 ∧ a2 ≤ 2147483647) (hB : BdX P) (p_dp : 0 ≤ a2) (v_TX : TX P) (hm : (6 - a2 : Int).toNat < n) (Q : Option PV → PH → Prop) (hQ : ∀ (r : Int) (_ : (-2147483648) ≤ r ∧ r ≤ 2147483647) (P1 : PH) (_ : BdX P1) (_ : FrX ([(45, 3), (45, 4), (46, 3), (46, 4), (46, 5), (46, 6), (46, 7), (46, 8)], []) P P1), Q (some (vI r)) P1), Ct WSX G (4 + 1 * n) iX6_readValue [vR 110, vI a1, vI a2] P Q
set_option maxRecDepth 100000 in
set_option maxHeartbeats 4000000 in
theorem mr_X6_readValue (G : GT) (n : Nat) : st_X6_readValue G n := by
  induction n with
  | zero => intro P a1 a2 h_a1 h_a2 hB p_dp v_TX hm; exact absurd hm (Nat.not_lt_zero _)
  | succ n ih =>
    intro P a1 a2 h_a1 h_a2 hB p_dp v_TX hm Q hQ
    refine Ct.of (by decide) (l0 := [(0, vR 110), (1, vI a1), (2, vI a2)]) rfl (Nat.le_of_ble_eq_true rfl) ?_
    refine g_iload_n dX6_readValue_0 rfl ?_
    refine g_iconst dX6_readValue_1 ?_
    refine g_icmp_ne (tgt := 13) dX6_readValue_2 (by decide) ⟨by omega, by omega⟩ (by decide) (fun k1 => ?_) (fun k1 => ?_)
    · refine g_iload_n dX6_readValue_13 rfl ?_
      refine g_iconst dX6_readValue_14 ?_
      refine g_icmp_le (tgt := 22) dX6_readValue_15 (by decide) ⟨by omega, by omega⟩ (by decide) (fun k2 => ?_) (fun k2 => ?_)
      · refine g_aload_n dX6_readValue_22 rfl ?_
        refine g_iload_n dX6_readValue_23 rfl ?_
        refine g_vI (av := [vI a1]) (o := 110) (st := []) (m_X6_readConName G P a1 ⟨by omega, by omega⟩ hB v_TX _ (fun rc3 hc3 Pc3 hBc3 hFc3 => ⟨rc3, rfl, ?_⟩)) cf_X6_readConName t_823 rfl (show kx 110 45 from (⟨by decide, rfl⟩ : kx 110 45)).1 ((show kx 110 45 from (⟨by decide, rfl⟩ : kx 110 45)).sh rfl) rfl rfl (Nat.le_of_ble_eq_true rfl) (by omega) rfl dX6_readValue_24
        refine g_istore_n (l1 := [(3, vI rc3), (0, vR 110), (1, vI a1), (2, vI a2)]) dX6_readValue_27 (by decide) rfl ?_
        refine g_iload_n dX6_readValue_28 rfl ?_
        refine g_iconst dX6_readValue_29 ?_
        refine g_icmp_ne (tgt := 35) dX6_readValue_30 (by decide) ⟨by omega, by omega⟩ (by decide) (fun k4 => ?_) (fun k4 => ?_)
        · refine g_aload_n dX6_readValue_35 rfl ?_
          refine x_g45_2 (n := (P 110 2).toNat) (⟨by decide, rfl⟩ : kx 110 45) ffX6_27 dX6_readValue_36 ((FrX.g hFc3 (⟨by decide, rfl⟩ : kx 110 45) rfl).trans (br_110_2 hB)) ?_
          refine x_g28_0 (n := (crX (P 110 2).toNat 0)) (bk_110_2 hB) ffX6_108 dX6_readValue_39 rfl ?_
          refine g_astore (l1 := [(4, vR (crX (P 110 2).toNat 0)), (3, vI rc3), (0, vR 110), (1, vI a1), (2, vI a2)]) dX6_readValue_42 (by decide) rfl ?_
          refine g_aload dX6_readValue_44 rfl ?_
          refine x_g29_6 (n := (crX (crX (P 110 2).toNat 0) 6)) (ck_28_0 (bk_110_2 hB)) ffX6_187 dX6_readValue_46 rfl ?_
          refine g_iload_n dX6_readValue_49 rfl ?_
          refine x_l36 (z := (P (crX (crX (P 110 2).toNat 0) 6) rc3)) (ck_29_6 (ck_28_0 (bk_110_2 hB))) dX6_readValue_50 ⟨by omega, by omega⟩ ((FrX.g hFc3 (ck_29_6 (ck_28_0 (bk_110_2 hB))) rfl).trans rfl) ?_
          have f5 := bx_36 (o := (crX (crX (P 110 2).toNat 0) 6)) (k := rc3) hB (ck_29_6 (ck_28_0 (bk_110_2 hB)))
          refine g_if_ne (tgt := 62) dX6_readValue_51 (by decide) ⟨by have q0 := bx_36 (o := (crX (crX (P 110 2).toNat 0) 6)) (k := rc3) hB (ck_29_6 (ck_28_0 (bk_110_2 hB))); omega, by have q0 := bx_36 (o := (crX (crX (P 110 2).toNat 0) 6)) (k := rc3) hB (ck_29_6 (ck_28_0 (bk_110_2 hB))); omega⟩ (fun k6 => ?_) (fun k6 => ?_)
          · refine g_aload_n dX6_readValue_62 rfl ?_
            refine g_bipush dX6_readValue_63 (by decide) ?_
            refine g_vI (av := [vI 40]) (o := 110) (st := []) (m_X6_readSign G Pc3 40 (by decide) hBc3 (TX.fr (F := ([(45, 3), (45, 4), (46, 3), (46, 4), (46, 5), (46, 6), (46, 7), (46, 8)], [])) v_TX (FrX.c FrX.rf hFc3 rfl) rfl) _ (fun rc7 hc7 Pc7 hBc7 hFc7 => ⟨rc7, rfl, ?_⟩)) cf_X6_readSign t_797 rfl (show kx 110 45 from (⟨by decide, rfl⟩ : kx 110 45)).1 ((show kx 110 45 from (⟨by decide, rfl⟩ : kx 110 45)).sh rfl) rfl rfl (Nat.le_of_ble_eq_true rfl) (by omega) rfl dX6_readValue_65
            refine g_if_eq (tgt := 88) dX6_readValue_68 (by decide) ⟨by omega, by omega⟩ (fun k8 => ?_) (fun k8 => ?_)
            · refine g_iconst dX6_readValue_88 ?_
              refine g_istore (l1 := [(5, vI (-1)), (4, vR (crX (P 110 2).toNat 0)), (3, vI rc3), (0, vR 110), (1, vI a1), (2, vI a2)]) dX6_readValue_89 (by decide) rfl ?_
              refine g_iload dX6_readValue_91 rfl ?_
              refine g_iconst dX6_readValue_93 ?_
              refine g_icmp_ne (tgt := 99) dX6_readValue_94 (by decide) (by decide) (by decide) (fun k9 => by exfalso; omega) (fun k9 => ?_)
              refine g_iconst dX6_readValue_97 ?_
              exact g_retI dX6_readValue_98 rfl (hQ (-1) (by decide) _ hBc7 (FrX.c (FrX.c FrX.rf hFc3 rfl) hFc7 rfl) )
            · refine g_aload_n dX6_readValue_71 rfl ?_
              refine g_aload dX6_readValue_72 rfl ?_
              refine x_g29_7 (n := (crX (crX (P 110 2).toNat 0) 7)) (ck_28_0 (bk_110_2 hB)) ffX6_193 dX6_readValue_74 rfl ?_
              refine g_iload_n dX6_readValue_77 rfl ?_
              refine x_l37 (z := (P (crX (crX (P 110 2).toNat 0) 7) rc3)) (ck_29_7 (ck_28_0 (bk_110_2 hB))) dX6_readValue_78 ⟨by omega, by omega⟩ ((FrX.g hFc7 (ck_29_7 (ck_28_0 (bk_110_2 hB))) rfl).trans ((FrX.g hFc3 (ck_29_7 (ck_28_0 (bk_110_2 hB))) rfl).trans rfl)) ?_
              refine g_iload_n dX6_readValue_79 rfl ?_
              refine g_iconst dX6_readValue_80 ?_
              refine g_iadd dX6_readValue_81 ?_
              have f10 := bx_37 (o := (crX (crX (P 110 2).toNat 0) 7)) (k := rc3) hB (ck_29_7 (ck_28_0 (bk_110_2 hB)))
              refine g_sI (av := [vR 110, vI (P (crX (crX (P 110 2).toNat 0) 7) rc3), vI (a2 + 1)]) (st := []) (ih Pc7 (P (crX (crX (P 110 2).toNat 0) 7) rc3) (a2 + 1) ⟨by have q0 := bx_37 (o := (crX (crX (P 110 2).toNat 0) 7)) (k := rc3) hB (ck_29_7 (ck_28_0 (bk_110_2 hB))); omega, by have q0 := bx_37 (o := (crX (crX (P 110 2).toNat 0) 7)) (k := rc3) hB (ck_29_7 (ck_28_0 (bk_110_2 hB))); omega⟩ ⟨by omega, by omega⟩ hBc7 (by have q0 := bx_37 (o := (crX (crX (P 110 2).toNat 0) 7)) (k := rc3) hB (ck_29_7 (ck_28_0 (bk_110_2 hB))); omega) (TX.fr (F := ([(45, 3), (45, 4), (46, 3), (46, 4), (46, 5), (46, 6), (46, 7), (46, 8)], [])) v_TX (FrX.c (FrX.c FrX.rf hFc3 rfl) hFc7 rfl) rfl) (by omega) _ (fun rc11 hc11 Pc11 hBc11 hFc11 => ⟨rc11, rfl, ?_⟩)) cf_X6_readValue t_1026 rfl (Nat.le_of_ble_eq_true rfl) (by omega) rfl dX6_readValue_82
              refine g_goto (tgt := 89) dX6_readValue_85 (by decide) ?_
              refine g_istore (l1 := [(5, vI rc11), (4, vR (crX (P 110 2).toNat 0)), (3, vI rc3), (0, vR 110), (1, vI a1), (2, vI a2)]) dX6_readValue_89 (by decide) rfl ?_
              refine g_iload dX6_readValue_91 rfl ?_
              refine g_iconst dX6_readValue_93 ?_
              refine g_icmp_ne (tgt := 99) dX6_readValue_94 (by decide) ⟨by omega, by omega⟩ (by decide) (fun k12 => ?_) (fun k12 => ?_)
              · refine g_iconst dX6_readValue_99 ?_
                refine g_istore (l1 := [(6, vI 0), (5, vI rc11), (4, vR (crX (P 110 2).toNat 0)), (3, vI rc3), (0, vR 110), (1, vI a1), (2, vI a2)]) dX6_readValue_100 (by decide) rfl ?_
                refine g_aload dX6_readValue_102 rfl ?_
                refine x_g29_6 (n := (crX (crX (P 110 2).toNat 0) 6)) (ck_28_0 (bk_110_2 hB)) ffX6_187 dX6_readValue_104 rfl ?_
                refine g_iload_n dX6_readValue_107 rfl ?_
                refine x_l36 (z := (P (crX (crX (P 110 2).toNat 0) 6) rc3)) (ck_29_6 (ck_28_0 (bk_110_2 hB))) dX6_readValue_108 ⟨by omega, by omega⟩ ((FrX.g hFc11 (ck_29_6 (ck_28_0 (bk_110_2 hB))) rfl).trans ((FrX.g hFc7 (ck_29_6 (ck_28_0 (bk_110_2 hB))) rfl).trans ((FrX.g hFc3 (ck_29_6 (ck_28_0 (bk_110_2 hB))) rfl).trans rfl))) ?_
                refine g_iconst dX6_readValue_109 ?_
                have J142_24 : ∀ (x142_6_24 : Int) (h_x142_6_24 : (-2147483648) ≤ x142_6_24 ∧ x142_6_24 ≤ 2147483647) (H142_24 : PH) (hB142_24 : BdX H142_24) (hE142_24 : FrX ([(45, 3), (45, 4), (46, 3), (46, 4), (46, 5), (46, 6), (46, 7), (46, 8)], []) Pc11 H142_24), Go WSX G (4 + 1 * (n + 1)) iX6_readValue 142 [(0, vR 110), (3, vI rc3), (4, vR (crX (P 110 2).toNat 0)), (5, vI rc11), (6, vI x142_6_24)] [] H142_24 Q := by
                  intro x142_6_24 h_x142_6_24 H142_24 hB142_24 hE142_24
                  refine g_iload dX6_readValue_142 rfl ?_
                  refine g_iconst dX6_readValue_144 ?_
                  refine g_icmp_eq (tgt := 157) dX6_readValue_145 (by decide) ⟨by omega, by omega⟩ (by decide) (fun k26 => ?_) (fun k26 => ?_)
                  · refine g_iconst dX6_readValue_157 ?_
                    exact g_retI dX6_readValue_158 rfl (hQ (-1) (by decide) _ hB142_24 (FrX.c (FrX.c (FrX.c (FrX.c FrX.rf hFc3 rfl) hFc7 rfl) hFc11 rfl) hE142_24 rfl) )
                  · refine g_aload_n dX6_readValue_148 rfl ?_
                    refine g_bipush dX6_readValue_149 (by decide) ?_
                    refine g_vI (av := [vI 41]) (o := 110) (st := []) (m_X6_readSign G H142_24 41 (by decide) hB142_24 (TX.fr (F := ([(45, 3), (45, 4), (46, 3), (46, 4), (46, 5), (46, 6), (46, 7), (46, 8)], [])) v_TX (FrX.c (FrX.c (FrX.c (FrX.c FrX.rf hFc3 rfl) hFc7 rfl) hFc11 rfl) hE142_24 rfl) rfl) _ (fun rc27 hc27 Pc27 hBc27 hFc27 => ⟨rc27, rfl, ?_⟩)) cf_X6_readSign t_797 rfl (show kx 110 45 from (⟨by decide, rfl⟩ : kx 110 45)).1 ((show kx 110 45 from (⟨by decide, rfl⟩ : kx 110 45)).sh rfl) rfl rfl (Nat.le_of_ble_eq_true rfl) (by omega) rfl dX6_readValue_151
                    refine g_if_ne (tgt := 159) dX6_readValue_154 (by decide) ⟨by omega, by omega⟩ (fun k28 => ?_) (fun k28 => ?_)
                    · refine g_aload dX6_readValue_159 rfl ?_
                      refine x_g29_5 (n := (crX (crX (P 110 2).toNat 0) 5)) (ck_28_0 (bk_110_2 hB)) ffX6_190 dX6_readValue_161 rfl ?_
                      refine g_iload_n dX6_readValue_164 rfl ?_
                      refine x_l35 (z := (P (crX (crX (P 110 2).toNat 0) 5) rc3)) (ck_29_5 (ck_28_0 (bk_110_2 hB))) dX6_readValue_165 ⟨by omega, by omega⟩ ((FrX.g hFc27 (ck_29_5 (ck_28_0 (bk_110_2 hB))) rfl).trans ((FrX.g hE142_24 (ck_29_5 (ck_28_0 (bk_110_2 hB))) rfl).trans ((FrX.g hFc11 (ck_29_5 (ck_28_0 (bk_110_2 hB))) rfl).trans ((FrX.g hFc7 (ck_29_5 (ck_28_0 (bk_110_2 hB))) rfl).trans ((FrX.g hFc3 (ck_29_5 (ck_28_0 (bk_110_2 hB))) rfl).trans rfl))))) ?_
                      refine g_iload dX6_readValue_166 rfl ?_
                      refine g_aload dX6_readValue_168 rfl ?_
                      refine g_iload_n dX6_readValue_170 rfl ?_
                      refine g_vI (av := [vI rc3]) (o := (crX (P 110 2).toNat 0)) (st := [vI rc11, vI (P (crX (crX (P 110 2).toNat 0) 5) rc3)]) (m_X3_secondSize G Pc27 (crX (P 110 2).toNat 0) rc3 (ck_28_0 (bk_110_2 hB)) ⟨by omega, by omega⟩ hBc27  _ (fun rc29 hc29 => ⟨rc29, rfl, ?_⟩)) cf_X3_secondSize t_836 rfl (show kx (crX (P 110 2).toNat 0) 29 from (ck_28_0 (bk_110_2 hB))).1 ((show kx (crX (P 110 2).toNat 0) 29 from (ck_28_0 (bk_110_2 hB))).sh rfl) rfl rfl (Nat.le_of_ble_eq_true rfl) (by omega) rfl dX6_readValue_171
                      refine g_imul dX6_readValue_174 ?_
                      refine g_norm (fun r30 h_r30 e_r30 => ?_)
                      refine g_iadd dX6_readValue_175 ?_
                      refine g_norm (fun r31 h_r31 e_r31 => ?_)
                      refine g_iload dX6_readValue_176 rfl ?_
                      refine g_iadd dX6_readValue_178 ?_
                      refine g_norm (fun r32 h_r32 e_r32 => ?_)
                      exact g_retI dX6_readValue_179 rfl (hQ r32 ⟨by omega, by omega⟩ _ hBc27 (FrX.c (FrX.c (FrX.c (FrX.c (FrX.c FrX.rf hFc3 rfl) hFc7 rfl) hFc11 rfl) hE142_24 rfl) hFc27 rfl) )
                    · refine g_iconst dX6_readValue_157 ?_
                      exact g_retI dX6_readValue_158 rfl (hQ (-1) (by decide) _ hBc27 (FrX.c (FrX.c (FrX.c (FrX.c (FrX.c FrX.rf hFc3 rfl) hFc7 rfl) hFc11 rfl) hE142_24 rfl) hFc27 rfl) )
                refine g_icmp_ne (tgt := 142) dX6_readValue_110 (by decide) ⟨by have q0 := bx_36 (o := (crX (crX (P 110 2).toNat 0) 6)) (k := rc3) hB (ck_29_6 (ck_28_0 (bk_110_2 hB))); omega, by have q0 := bx_36 (o := (crX (crX (P 110 2).toNat 0) 6)) (k := rc3) hB (ck_29_6 (ck_28_0 (bk_110_2 hB))); omega⟩ (by decide) (fun k33 => ?_) (fun k33 => ?_)
                · refine g_forget (l1 := [(0, vR 110), (3, vI rc3), (4, vR (crX (P 110 2).toNat 0)), (5, vI rc11), (6, vI 0)]) (by intro q hq; simp only [List.mem_cons, List.not_mem_nil, or_false] at hq ⊢; rcases hq with rfl | rfl | rfl | rfl | rfl <;> simp) ?_
                  exact J142_24 0 (by decide) _ hBc11 FrX.rf
                · refine g_aload_n dX6_readValue_113 rfl ?_
                  refine g_bipush dX6_readValue_114 (by decide) ?_
                  refine g_vI (av := [vI 44]) (o := 110) (st := []) (m_X6_readSign G Pc11 44 (by decide) hBc11 (TX.fr (F := ([(45, 3), (45, 4), (46, 3), (46, 4), (46, 5), (46, 6), (46, 7), (46, 8)], [])) v_TX (FrX.c (FrX.c (FrX.c FrX.rf hFc3 rfl) hFc7 rfl) hFc11 rfl) rfl) _ (fun rc34 hc34 Pc34 hBc34 hFc34 => ⟨rc34, rfl, ?_⟩)) cf_X6_readSign t_797 rfl (show kx 110 45 from (⟨by decide, rfl⟩ : kx 110 45)).1 ((show kx 110 45 from (⟨by decide, rfl⟩ : kx 110 45)).sh rfl) rfl rfl (Nat.le_of_ble_eq_true rfl) (by omega) rfl dX6_readValue_116
                  refine g_if_eq (tgt := 139) dX6_readValue_119 (by decide) ⟨by omega, by omega⟩ (fun k35 => ?_) (fun k35 => ?_)
                  · refine g_iconst dX6_readValue_139 ?_
                    refine g_istore (l1 := [(6, vI (-1)), (5, vI rc11), (4, vR (crX (P 110 2).toNat 0)), (3, vI rc3), (0, vR 110), (1, vI a1), (2, vI a2)]) dX6_readValue_140 (by decide) rfl ?_
                    refine g_forget (l1 := [(0, vR 110), (3, vI rc3), (4, vR (crX (P 110 2).toNat 0)), (5, vI rc11), (6, vI (-1))]) (by intro q hq; simp only [List.mem_cons, List.not_mem_nil, or_false] at hq ⊢; rcases hq with rfl | rfl | rfl | rfl | rfl <;> simp) ?_
                    exact J142_24 (-1) (by decide) _ hBc34 (FrX.c FrX.rf hFc34 rfl)
                  · refine g_aload_n dX6_readValue_122 rfl ?_
                    refine g_aload dX6_readValue_123 rfl ?_
                    refine x_g29_8 (n := (crX (crX (P 110 2).toNat 0) 8)) (ck_28_0 (bk_110_2 hB)) ffX6_196 dX6_readValue_125 rfl ?_
                    refine g_iload_n dX6_readValue_128 rfl ?_
                    refine x_l38 (z := (P (crX (crX (P 110 2).toNat 0) 8) rc3)) (ck_29_8 (ck_28_0 (bk_110_2 hB))) dX6_readValue_129 ⟨by omega, by omega⟩ ((FrX.g hFc34 (ck_29_8 (ck_28_0 (bk_110_2 hB))) rfl).trans ((FrX.g hFc11 (ck_29_8 (ck_28_0 (bk_110_2 hB))) rfl).trans ((FrX.g hFc7 (ck_29_8 (ck_28_0 (bk_110_2 hB))) rfl).trans ((FrX.g hFc3 (ck_29_8 (ck_28_0 (bk_110_2 hB))) rfl).trans rfl)))) ?_
                    refine g_iload_n dX6_readValue_130 rfl ?_
                    refine g_iconst dX6_readValue_131 ?_
                    refine g_iadd dX6_readValue_132 ?_
                    have f36 := bx_38 (o := (crX (crX (P 110 2).toNat 0) 8)) (k := rc3) hB (ck_29_8 (ck_28_0 (bk_110_2 hB)))
                    refine g_sI (av := [vR 110, vI (P (crX (crX (P 110 2).toNat 0) 8) rc3), vI (a2 + 1)]) (st := []) (ih Pc34 (P (crX (crX (P 110 2).toNat 0) 8) rc3) (a2 + 1) ⟨by have q0 := bx_38 (o := (crX (crX (P 110 2).toNat 0) 8)) (k := rc3) hB (ck_29_8 (ck_28_0 (bk_110_2 hB))); omega, by have q0 := bx_38 (o := (crX (crX (P 110 2).toNat 0) 8)) (k := rc3) hB (ck_29_8 (ck_28_0 (bk_110_2 hB))); omega⟩ ⟨by omega, by omega⟩ hBc34 (by have q0 := bx_38 (o := (crX (crX (P 110 2).toNat 0) 8)) (k := rc3) hB (ck_29_8 (ck_28_0 (bk_110_2 hB))); omega) (TX.fr (F := ([(45, 3), (45, 4), (46, 3), (46, 4), (46, 5), (46, 6), (46, 7), (46, 8)], [])) v_TX (FrX.c (FrX.c (FrX.c (FrX.c FrX.rf hFc3 rfl) hFc7 rfl) hFc11 rfl) hFc34 rfl) rfl) (by omega) _ (fun rc37 hc37 Pc37 hBc37 hFc37 => ⟨rc37, rfl, ?_⟩)) cf_X6_readValue t_1026 rfl (Nat.le_of_ble_eq_true rfl) (by omega) rfl dX6_readValue_133
                    refine g_goto (tgt := 140) dX6_readValue_136 (by decide) ?_
                    refine g_istore (l1 := [(6, vI rc37), (5, vI rc11), (4, vR (crX (P 110 2).toNat 0)), (3, vI rc3), (0, vR 110), (1, vI a1), (2, vI a2)]) dX6_readValue_140 (by decide) rfl ?_
                    refine g_forget (l1 := [(0, vR 110), (3, vI rc3), (4, vR (crX (P 110 2).toNat 0)), (5, vI rc11), (6, vI rc37)]) (by intro q hq; simp only [List.mem_cons, List.not_mem_nil, or_false] at hq ⊢; rcases hq with rfl | rfl | rfl | rfl | rfl <;> simp) ?_
                    exact J142_24 rc37 ⟨by omega, by omega⟩ _ hBc37 (FrX.c (FrX.c FrX.rf hFc34 rfl) hFc37 rfl)
              · refine g_iconst dX6_readValue_97 ?_
                exact g_retI dX6_readValue_98 rfl (hQ (-1) (by decide) _ hBc11 (FrX.c (FrX.c (FrX.c FrX.rf hFc3 rfl) hFc7 rfl) hFc11 rfl) )
          · refine g_aload dX6_readValue_54 rfl ?_
            refine x_g29_5 (n := (crX (crX (P 110 2).toNat 0) 5)) (ck_28_0 (bk_110_2 hB)) ffX6_190 dX6_readValue_56 rfl ?_
            refine g_iload_n dX6_readValue_59 rfl ?_
            refine x_l35 (z := (P (crX (crX (P 110 2).toNat 0) 5) rc3)) (ck_29_5 (ck_28_0 (bk_110_2 hB))) dX6_readValue_60 ⟨by omega, by omega⟩ ((FrX.g hFc3 (ck_29_5 (ck_28_0 (bk_110_2 hB))) rfl).trans rfl) ?_
            exact g_retI dX6_readValue_61 rfl (hQ (P (crX (crX (P 110 2).toNat 0) 5) rc3) ⟨by have q0 := bx_35 (o := (crX (crX (P 110 2).toNat 0) 5)) (k := rc3) hB (ck_29_5 (ck_28_0 (bk_110_2 hB))); omega, by have q0 := bx_35 (o := (crX (crX (P 110 2).toNat 0) 5)) (k := rc3) hB (ck_29_5 (ck_28_0 (bk_110_2 hB))); omega⟩ _ hBc3 (FrX.c FrX.rf hFc3 rfl) )
        · refine g_iconst dX6_readValue_33 ?_
          exact g_retI dX6_readValue_34 rfl (hQ (-1) (by decide) _ hBc3 (FrX.c FrX.rf hFc3 rfl) )
      · refine g_iconst dX6_readValue_18 ?_
        refine g_goto (tgt := 27) dX6_readValue_19 (by decide) ?_
        refine g_istore_n (l1 := [(3, vI (-1)), (0, vR 110), (1, vI a1), (2, vI a2)]) dX6_readValue_27 (by decide) rfl ?_
        refine g_iload_n dX6_readValue_28 rfl ?_
        refine g_iconst dX6_readValue_29 ?_
        refine g_icmp_ne (tgt := 35) dX6_readValue_30 (by decide) (by decide) (by decide) (fun k38 => by exfalso; omega) (fun k38 => ?_)
        refine g_iconst dX6_readValue_33 ?_
        exact g_retI dX6_readValue_34 rfl (hQ (-1) (by decide) _ hB FrX.rf )
    · refine g_aload_n dX6_readValue_5 rfl ?_
      refine g_iconst dX6_readValue_6 ?_
      refine g_bipush dX6_readValue_7 (by decide) ?_
      refine g_vI (av := [vI 0, vI 19]) (o := 110) (st := []) (m_X6_readNumber G P 0 19 (by decide) (by decide) hB v_TX _ (fun rc39 hc39 Pc39 hBc39 hFc39 => ⟨rc39, rfl, ?_⟩)) cf_X6_readNumber t_816 rfl (show kx 110 45 from (⟨by decide, rfl⟩ : kx 110 45)).1 ((show kx 110 45 from (⟨by decide, rfl⟩ : kx 110 45)).sh rfl) rfl rfl (Nat.le_of_ble_eq_true rfl) (by omega) rfl dX6_readValue_9
      exact g_retI dX6_readValue_12 rfl (hQ rc39 ⟨by omega, by omega⟩ _ hBc39 (FrX.c FrX.rf hFc39 rfl) )
theorem m_X6_readValue (G : GT) (P : PH) (a1 : Int) (a2 : Int) (h_a1 : (-2147483648) ≤ a1 ∧ a1 ≤ 2147483647) (h_a2 : (-2147483648) ≤ a2 ∧ a2 ≤ 2147483647) (hB : BdX P) (p_dp : 0 ≤ a2) (v_TX : TX P) (hm : (6 - a2 : Int).toNat < 7) (Q : Option PV → PH → Prop) (hQ : ∀ (r : Int) (_ : (-2147483648) ≤ r ∧ r ≤ 2147483647) (P1 : PH) (_ : BdX P1) (_ : FrX ([(45, 3), (45, 4), (46, 3), (46, 4), (46, 5), (46, 6), (46, 7), (46, 8)], []) P P1), Q (some (vI r)) P1) : Ct WSX G 11 iX6_readValue [vR 110, vI a1, vI a2] P Q := mr_X6_readValue G 7 P a1 a2 h_a1 h_a2 hB p_dp v_TX hm Q hQ
set_option maxRecDepth 100000 in
set_option maxHeartbeats 4000000 in
theorem m_X6_readRow_B16 (G : GT) (P : PH) (o1 : Nat) (k_o1 : kx o1 28) (hB : BdX P) (Q : Option PV → PH → Prop) (hQ : ∀ (r : Int) (_ : (-2147483648) ≤ r ∧ r ≤ 2147483647) (P1 : PH) (_ : BdX P1) (_ : FrX ([(45, 2), (45, 3), (45, 4), (46, 1), (46, 2), (46, 3), (46, 4), (46, 5), (46, 6), (46, 7), (46, 8)], []) P P1) (_ : TX P1), Q (some (vI r)) P1) : Ct WSX G 12 iX6_readRow [vR 110, vR 1, vR o1] P Q := by
  refine Ct.of (by decide) (l0 := [(0, vR 110), (1, vR 1), (2, vR o1)]) rfl (Nat.le_of_ble_eq_true rfl) ?_
  refine g_aload_n dX6_readRow_0 rfl ?_
  refine g_aload_n dX6_readRow_1 rfl ?_
  refine x_p45_2 (⟨by decide, rfl⟩ : kx 110 45) pfX6_27 dX6_readRow_2 ?_
  have hB1 := bw_110_2 (x := o1) hB k_o1
  refine g_aload_n dX6_readRow_5 rfl ?_
  refine g_aload_n dX6_readRow_6 rfl ?_
  refine g_vV (av := [vR 1]) (o := 110) (st := []) (m_X6_begin_B16 G (up P 110 2 ((o1 : Nat) : Int))  hB1  _ (fun Pc2 hBc2 hFc2 vc2_TX => ⟨rfl, ?_⟩)) cf_X6_begin t_695 rfl (show kx 110 45 from (⟨by decide, rfl⟩ : kx 110 45)).1 ((show kx 110 45 from (⟨by decide, rfl⟩ : kx 110 45)).sh rfl) rfl rfl (Nat.le_of_ble_eq_true rfl) (by decide) rfl dX6_readRow_7
  refine g_aload_n dX6_readRow_10 rfl ?_
  refine x_g45_2 (n := o1) (⟨by decide, rfl⟩ : kx 110 45) ffX6_27 dX6_readRow_11 ((FrX.g hFc2 (⟨by decide, rfl⟩ : kx 110 45) rfl).trans up_same) ?_
  refine x_g28_6 (z := (P o1 6)) k_o1 ffX6_79 dX6_readRow_14 ((FrX.g hFc2 k_o1 rfl).trans ((up_o (kx.ne k_o1 (⟨by decide, rfl⟩ : kx 110 45) rfl)).trans rfl)) ?_
  have f3 := bx_28_6 (o := o1) hB k_o1
  refine g_if_ne (tgt := 29) dX6_readRow_17 (by decide) ⟨by have q0 := bx_28_6 (o := o1) hB k_o1; omega, by have q0 := bx_28_6 (o := o1) hB k_o1; omega⟩ (fun k4 => ?_) (fun k4 => ?_)
  · refine g_iconst dX6_readRow_29 ?_
    refine g_istore_n (l1 := [(3, vI 0), (0, vR 110), (1, vR 1), (2, vR o1)]) dX6_readRow_30 (by decide) rfl ?_
    refine g_iconst dX6_readRow_31 ?_
    refine g_istore (l1 := [(4, vI 0), (3, vI 0), (0, vR 110), (1, vR 1), (2, vR o1)]) dX6_readRow_32 (by decide) rfl ?_
    have L34_4 : ∀ (n34_4 : Nat) (x34_4_4 : Int) (h_x34_4_4 : 0 ≤ x34_4_4 ∧ x34_4_4 ≤ 4) (x34_3_4 : Int) (h_x34_3_4 : (-2147483648) ≤ x34_3_4 ∧ x34_3_4 ≤ 2147483647) (H34_4 : PH) (hB34_4 : BdX H34_4) (hE34_4 : FrX ([(45, 3), (45, 4), (46, 3), (46, 4), (46, 5), (46, 6), (46, 7), (46, 8)], []) Pc2 H34_4) (hm34_4 : ((5 - x34_4_4) : Int).toNat < n34_4), Go WSX G 12 iX6_readRow 34 [(0, vR 110), (3, vI x34_3_4), (4, vI x34_4_4)] [] H34_4 Q := by
      intro n34_4
      induction n34_4 with
      | zero => intro x34_4_4 h_x34_4_4 x34_3_4 h_x34_3_4 H34_4 hB34_4 hE34_4 hm34_4; exact absurd hm34_4 (Nat.not_lt_zero _)
      | succ n34_4 ih34_4 =>
      intro x34_4_4 h_x34_4_4 x34_3_4 h_x34_3_4 H34_4 hB34_4 hE34_4 hm34_4
      refine g_iload dX6_readRow_34 rfl ?_
      refine g_aload_n dX6_readRow_36 rfl ?_
      refine x_g45_2 (n := o1) (⟨by decide, rfl⟩ : kx 110 45) ffX6_27 dX6_readRow_37 ((FrX.g hE34_4 (⟨by decide, rfl⟩ : kx 110 45) rfl).trans ((FrX.g hFc2 (⟨by decide, rfl⟩ : kx 110 45) rfl).trans up_same)) ?_
      refine x_g28_6 (z := (P o1 6)) k_o1 ffX6_79 dX6_readRow_40 ((FrX.g hE34_4 k_o1 rfl).trans ((FrX.g hFc2 k_o1 rfl).trans ((up_o (kx.ne k_o1 (⟨by decide, rfl⟩ : kx 110 45) rfl)).trans rfl))) ?_
      refine g_icmp_ge (tgt := 109) dX6_readRow_43 (by decide) ⟨by omega, by omega⟩ ⟨by have q0 := bx_28_6 (o := o1) hB k_o1; omega, by have q0 := bx_28_6 (o := o1) hB k_o1; omega⟩ (fun k142 => ?_) (fun k142 => ?_)
      · refine g_aload_n dX6_readRow_109 rfl ?_
        refine x_g45_0 (n := 111) (⟨by decide, rfl⟩ : kx 110 45) ffX6_12 dX6_readRow_110 rfl ?_
        refine x_g46_4 (z := (H34_4 111 4)) (⟨by decide, rfl⟩ : kx 111 46) ffX6_40 dX6_readRow_113 rfl ?_
        have f143 := bx_46_4 (o := 111) hB34_4 (⟨by decide, rfl⟩ : kx 111 46)
        refine g_if_eq (tgt := 126) dX6_readRow_116 (by decide) ⟨by have q0 := bx_46_4 (o := 111) hB34_4 (⟨by decide, rfl⟩ : kx 111 46); omega, by have q0 := bx_46_4 (o := 111) hB34_4 (⟨by decide, rfl⟩ : kx 111 46); omega⟩ (fun k144 => ?_) (fun k144 => ?_)
        · refine g_iload_n dX6_readRow_126 rfl ?_
          exact g_retI dX6_readRow_127 rfl (hQ x34_3_4 ⟨by omega, by omega⟩ _ hB34_4 (FrX.c (FrX.c (FrX.s FrX.rf (⟨by decide, rfl⟩ : kx 110 45) rfl) hFc2 rfl) hE34_4 rfl) (TX.fr (F := ([(45, 3), (45, 4), (46, 3), (46, 4), (46, 5), (46, 6), (46, 7), (46, 8)], [])) vc2_TX (FrX.c FrX.rf hE34_4 rfl) rfl))
        · refine g_aload_n dX6_readRow_119 rfl ?_
          refine g_vI (av := []) (o := 110) (st := []) (m_X6_failHere G H34_4  hB34_4  _ (fun rc145 hc145 Pc145 hBc145 hFc145 => ⟨rc145, rfl, ?_⟩)) cf_X6_failHere t_723 rfl (show kx 110 45 from (⟨by decide, rfl⟩ : kx 110 45)).1 ((show kx 110 45 from (⟨by decide, rfl⟩ : kx 110 45)).sh rfl) rfl rfl (Nat.le_of_ble_eq_true rfl) (by decide) rfl dX6_readRow_120
          refine g_pop dX6_readRow_123 rfl ?_
          refine g_iconst dX6_readRow_124 ?_
          exact g_retI dX6_readRow_125 rfl (hQ (-1) (by decide) _ hBc145 (FrX.c (FrX.c (FrX.c (FrX.s FrX.rf (⟨by decide, rfl⟩ : kx 110 45) rfl) hFc2 rfl) hE34_4 rfl) hFc145 rfl) (TX.fr (F := ([(45, 3), (45, 4), (46, 3), (46, 4), (46, 5), (46, 6), (46, 7), (46, 8)], [])) vc2_TX (FrX.c (FrX.c FrX.rf hE34_4 rfl) hFc145 rfl) rfl))
      · refine g_iload dX6_readRow_46 rfl ?_
        have J62_153 : ∀ (H62_153 : PH) (hB62_153 : BdX H62_153) (hE62_153 : FrX ([(45, 3), (45, 4), (46, 3), (46, 4), (46, 5), (46, 6), (46, 7), (46, 8)], []) H34_4 H62_153), Go WSX G 12 iX6_readRow 62 [(0, vR 110), (3, vI x34_3_4), (4, vI x34_4_4)] [] H62_153 Q := by
          intro H62_153 hB62_153 hE62_153
          refine g_aload_n dX6_readRow_62 rfl ?_
          refine g_aload_n dX6_readRow_63 rfl ?_
          refine x_g45_2 (n := o1) (⟨by decide, rfl⟩ : kx 110 45) ffX6_27 dX6_readRow_64 ((FrX.g hE62_153 (⟨by decide, rfl⟩ : kx 110 45) rfl).trans ((FrX.g hE34_4 (⟨by decide, rfl⟩ : kx 110 45) rfl).trans ((FrX.g hFc2 (⟨by decide, rfl⟩ : kx 110 45) rfl).trans up_same))) ?_
          refine x_g28_1 (n := (crX o1 1)) k_o1 ffX6_159 dX6_readRow_67 rfl ?_
          refine g_iload dX6_readRow_70 rfl ?_
          refine x_l39 (z := (P (crX o1 1) x34_4_4)) (ck_28_1 k_o1) dX6_readRow_72 ⟨by omega, by omega⟩ ((FrX.g hE62_153 (ck_28_1 k_o1) rfl).trans ((FrX.g hE34_4 (ck_28_1 k_o1) rfl).trans ((FrX.g hFc2 (ck_28_1 k_o1) rfl).trans ((up_o (kx.ne (ck_28_1 k_o1) (⟨by decide, rfl⟩ : kx 110 45) rfl)).trans rfl)))) ?_
          refine g_iconst dX6_readRow_73 ?_
          have f155 := bx_39 (o := (crX o1 1)) (k := x34_4_4) hB (ck_28_1 k_o1)
          refine g_sI (av := [vR 110, vI (P (crX o1 1) x34_4_4), vI 0]) (st := []) (m_X6_readValue G H62_153 (P (crX o1 1) x34_4_4) 0 ⟨by have q0 := bx_39 (o := (crX o1 1)) (k := x34_4_4) hB (ck_28_1 k_o1); omega, by have q0 := bx_39 (o := (crX o1 1)) (k := x34_4_4) hB (ck_28_1 k_o1); omega⟩ (by decide) hB62_153 (by have q0 := bx_39 (o := (crX o1 1)) (k := x34_4_4) hB (ck_28_1 k_o1); omega) (TX.fr (F := ([(45, 3), (45, 4), (46, 3), (46, 4), (46, 5), (46, 6), (46, 7), (46, 8)], [])) vc2_TX (FrX.c (FrX.c FrX.rf hE34_4 rfl) hE62_153 rfl) rfl) (by omega) _ (fun rc156 hc156 Pc156 hBc156 hFc156 => ⟨rc156, rfl, ?_⟩)) cf_X6_readValue t_1026 rfl (Nat.le_of_ble_eq_true rfl) (by decide) rfl dX6_readRow_74
          refine g_istore (l1 := [(5, vI rc156), (0, vR 110), (3, vI x34_3_4), (4, vI x34_4_4)]) dX6_readRow_77 (by decide) rfl ?_
          refine g_iload dX6_readRow_79 rfl ?_
          refine g_iconst dX6_readRow_81 ?_
          refine g_icmp_ne (tgt := 87) dX6_readRow_82 (by decide) ⟨by omega, by omega⟩ (by decide) (fun k157 => ?_) (fun k157 => ?_)
          · refine g_iload_n dX6_readRow_87 rfl ?_
            refine g_aload_n dX6_readRow_88 rfl ?_
            refine x_g45_2 (n := o1) (⟨by decide, rfl⟩ : kx 110 45) ffX6_27 dX6_readRow_89 ((FrX.g hFc156 (⟨by decide, rfl⟩ : kx 110 45) rfl).trans ((FrX.g hE62_153 (⟨by decide, rfl⟩ : kx 110 45) rfl).trans ((FrX.g hE34_4 (⟨by decide, rfl⟩ : kx 110 45) rfl).trans ((FrX.g hFc2 (⟨by decide, rfl⟩ : kx 110 45) rfl).trans up_same)))) ?_
            refine x_g28_2 (n := (crX o1 2)) k_o1 ffX6_218 dX6_readRow_92 rfl ?_
            refine g_iload dX6_readRow_95 rfl ?_
            refine x_l40 (z := (P (crX o1 2) x34_4_4)) (ck_28_2 k_o1) dX6_readRow_97 ⟨by omega, by omega⟩ ((FrX.g hFc156 (ck_28_2 k_o1) rfl).trans ((FrX.g hE62_153 (ck_28_2 k_o1) rfl).trans ((FrX.g hE34_4 (ck_28_2 k_o1) rfl).trans ((FrX.g hFc2 (ck_28_2 k_o1) rfl).trans ((up_o (kx.ne (ck_28_2 k_o1) (⟨by decide, rfl⟩ : kx 110 45) rfl)).trans rfl))))) ?_
            refine g_imul dX6_readRow_98 ?_
            refine g_norm (fun r158 h_r158 e_r158 => ?_)
            refine g_iload dX6_readRow_99 rfl ?_
            refine g_iadd dX6_readRow_101 ?_
            refine g_norm (fun r159 h_r159 e_r159 => ?_)
            refine g_istore_n (l1 := [(3, vI r159), (5, vI rc156), (0, vR 110), (4, vI x34_4_4)]) dX6_readRow_102 (by decide) rfl ?_
            refine g_iinc (l1 := [(4, vI (x34_4_4 + 1)), (3, vI r159), (5, vI rc156), (0, vR 110)]) dX6_readRow_103 rfl (by decide) rfl ?_
            refine g_goto (tgt := 34) dX6_readRow_106 (by decide) ?_
            refine g_forget (l1 := [(0, vR 110), (3, vI r159), (4, vI (x34_4_4 + 1))]) (by intro q hq; simp only [List.mem_cons, List.not_mem_nil, or_false] at hq ⊢; rcases hq with rfl | rfl | rfl <;> simp) ?_
            exact ih34_4 (x34_4_4 + 1) ⟨by omega, by omega⟩ r159 ⟨by omega, by omega⟩ _ hBc156 (FrX.c (FrX.c (FrX.c FrX.rf hE34_4 rfl) hE62_153 rfl) hFc156 rfl) (by omega)
          · refine g_iconst dX6_readRow_85 ?_
            exact g_retI dX6_readRow_86 rfl (hQ (-1) (by decide) _ hBc156 (FrX.c (FrX.c (FrX.c (FrX.c (FrX.s FrX.rf (⟨by decide, rfl⟩ : kx 110 45) rfl) hFc2 rfl) hE34_4 rfl) hE62_153 rfl) hFc156 rfl) (TX.fr (F := ([(45, 3), (45, 4), (46, 3), (46, 4), (46, 5), (46, 6), (46, 7), (46, 8)], [])) vc2_TX (FrX.c (FrX.c (FrX.c FrX.rf hE34_4 rfl) hE62_153 rfl) hFc156 rfl) rfl))
        refine g_if_le (tgt := 62) dX6_readRow_48 (by decide) ⟨by omega, by omega⟩ (fun k160 => ?_) (fun k160 => ?_)
        · refine g_forget (l1 := [(0, vR 110), (3, vI x34_3_4), (4, vI x34_4_4)]) (by intro q hq; simp only [List.mem_cons, List.not_mem_nil, or_false] at hq ⊢; rcases hq with rfl | rfl | rfl <;> simp) ?_
          exact J62_153 _ hB34_4 FrX.rf
        · refine g_aload_n dX6_readRow_51 rfl ?_
          refine g_bipush dX6_readRow_52 (by decide) ?_
          refine g_vI (av := [vI 44]) (o := 110) (st := []) (m_X6_readSign G H34_4 44 (by decide) hB34_4 (TX.fr (F := ([(45, 3), (45, 4), (46, 3), (46, 4), (46, 5), (46, 6), (46, 7), (46, 8)], [])) vc2_TX (FrX.c FrX.rf hE34_4 rfl) rfl) _ (fun rc161 hc161 Pc161 hBc161 hFc161 => ⟨rc161, rfl, ?_⟩)) cf_X6_readSign t_797 rfl (show kx 110 45 from (⟨by decide, rfl⟩ : kx 110 45)).1 ((show kx 110 45 from (⟨by decide, rfl⟩ : kx 110 45)).sh rfl) rfl rfl (Nat.le_of_ble_eq_true rfl) (by decide) rfl dX6_readRow_54
          refine g_if_ne (tgt := 62) dX6_readRow_57 (by decide) ⟨by omega, by omega⟩ (fun k162 => ?_) (fun k162 => ?_)
          · refine g_forget (l1 := [(0, vR 110), (3, vI x34_3_4), (4, vI x34_4_4)]) (by intro q hq; simp only [List.mem_cons, List.not_mem_nil, or_false] at hq ⊢; rcases hq with rfl | rfl | rfl <;> simp) ?_
            exact J62_153 _ hBc161 (FrX.c FrX.rf hFc161 rfl)
          · refine g_iconst dX6_readRow_60 ?_
            exact g_retI dX6_readRow_61 rfl (hQ (-1) (by decide) _ hBc161 (FrX.c (FrX.c (FrX.c (FrX.s FrX.rf (⟨by decide, rfl⟩ : kx 110 45) rfl) hFc2 rfl) hE34_4 rfl) hFc161 rfl) (TX.fr (F := ([(45, 3), (45, 4), (46, 3), (46, 4), (46, 5), (46, 6), (46, 7), (46, 8)], [])) vc2_TX (FrX.c (FrX.c FrX.rf hE34_4 rfl) hFc161 rfl) rfl))
    refine g_forget (l1 := [(0, vR 110), (3, vI 0), (4, vI 0)]) (by intro q hq; simp only [List.mem_cons, List.not_mem_nil, or_false] at hq ⊢; rcases hq with rfl | rfl | rfl <;> simp) ?_
    exact L34_4 _ 0 (by decide) 0 (by decide) _ hBc2 FrX.rf (Nat.lt_succ_self _)
  · refine g_aload_n dX6_readRow_20 rfl ?_
    refine g_iconst dX6_readRow_21 ?_
    refine g_iconst dX6_readRow_22 ?_
    refine g_vI (av := [vI 1, vI 0]) (o := 110) (st := []) (m_X6_fail G Pc2 1 0 (by decide) (by decide) hBc2  _ (fun rc163 hc163 Pc163 hBc163 hFc163 => ⟨rc163, rfl, ?_⟩)) cf_X6_fail t_727 rfl (show kx 110 45 from (⟨by decide, rfl⟩ : kx 110 45)).1 ((show kx 110 45 from (⟨by decide, rfl⟩ : kx 110 45)).sh rfl) rfl rfl (Nat.le_of_ble_eq_true rfl) (by decide) rfl dX6_readRow_23
    refine g_pop dX6_readRow_26 rfl ?_
    refine g_iconst dX6_readRow_27 ?_
    exact g_retI dX6_readRow_28 rfl (hQ (-1) (by decide) _ hBc163 (FrX.c (FrX.c (FrX.s FrX.rf (⟨by decide, rfl⟩ : kx 110 45) rfl) hFc2 rfl) hFc163 rfl) (TX.fr (F := ([(45, 3), (45, 4)], [])) vc2_TX (FrX.c FrX.rf hFc163 rfl) rfl))
