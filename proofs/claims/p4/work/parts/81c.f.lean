/-! What the class answers: X7_isName. -/
set_option maxRecDepth 100000 in
set_option maxHeartbeats 4000000 in
theorem f_X7_isName (G : GT) (P : PH) (T : TT) (p : Int) (hB : BdX P) (z0 : XS T p P) (Q : Option PV → PH → Prop) (hQ : ∀ (r : Int) (_ : 0 ≤ r ∧ r ≤ 1) (_ : (r = 1 ∧ tK T p = 1 ∧ tO T p = -1) ∨ (r = 0 ∧ (tK T p ≠ 1 ∨ tO T p ≠ -1))), Q (some (vI r)) P) : Ct WSX G 1 iX7_isName [vR 111] P Q := by
  refine Ct.of (by decide) (l0 := [(0, vR 111)]) rfl (Nat.le_of_ble_eq_true rfl) ?_
  have hb := z0.b
  refine g_aload_n dX7_isName_0 rfl ?_
  refine x_g46_4 (z := (P 111 4)) (⟨by decide, rfl⟩ : kx 111 46) ffX7_75 dX7_isName_1 rfl ?_
  refine g_iconst dX7_isName_4 ?_
  have f1 := bx_46_4 (o := 111) hB (⟨by decide, rfl⟩ : kx 111 46)
  refine g_icmp_ne (tgt := 20) dX7_isName_5 (by decide) ⟨by have q0 := bx_46_4 (o := 111) hB (⟨by decide, rfl⟩ : kx 111 46); (first | (clear hb; omega) | omega), by have q0 := bx_46_4 (o := 111) hB (⟨by decide, rfl⟩ : kx 111 46); (first | (clear hb; omega) | omega)⟩ (by decide) (fun k2 => ?_) (fun k2 => ?_)
  · refine g_iconst dX7_isName_20 ?_
    exact g_retZ dX7_isName_21 rfl (by decide) (hQ 0 (by decide) (by (first | (clear hb k2; omega) | (clear hb; omega) | (clear k2; omega) | omega)))
  · refine g_aload_n dX7_isName_8 rfl ?_
    refine x_g46_8 (z := (P 111 8)) (⟨by decide, rfl⟩ : kx 111 46) ffX7_87 dX7_isName_9 rfl ?_
    refine g_iconst dX7_isName_12 ?_
    have f3 := bx_46_8 (o := 111) hB (⟨by decide, rfl⟩ : kx 111 46)
    refine g_icmp_ne (tgt := 20) dX7_isName_13 (by decide) ⟨by have q0 := bx_46_8 (o := 111) hB (⟨by decide, rfl⟩ : kx 111 46); (first | (clear hb k2; omega) | omega), by have q0 := bx_46_8 (o := 111) hB (⟨by decide, rfl⟩ : kx 111 46); (first | (clear hb k2; omega) | omega)⟩ (by decide) (fun k4 => ?_) (fun k4 => ?_)
    · refine g_iconst dX7_isName_20 ?_
      exact g_retZ dX7_isName_21 rfl (by decide) (hQ 0 (by decide) (by (first | (clear hb k2 k4; omega) | (clear hb k2; omega) | (clear hb k4; omega) | (clear k2 k4; omega) | (clear hb; omega) | omega)))
    · refine g_iconst dX7_isName_16 ?_
      refine g_goto (tgt := 21) dX7_isName_17 (by decide) ?_
      exact g_retZ dX7_isName_21 rfl (by decide) (hQ 1 (by decide) (by (first | (clear hb k2 k4; omega) | (clear hb k2; omega) | (clear hb k4; omega) | (clear k2 k4; omega) | (clear hb; omega) | omega)))
/-! What the class answers: X7_isSign. -/
set_option maxRecDepth 100000 in
set_option maxHeartbeats 4000000 in
theorem f_X7_isSign (G : GT) (P : PH) (T : TT) (p : Int) (a1 : Int) (h_a1 : (-2147483648) ≤ a1 ∧ a1 ≤ 2147483647) (hB : BdX P) (z0 : XS T p P) (Q : Option PV → PH → Prop) (hQ : ∀ (r : Int) (_ : 0 ≤ r ∧ r ≤ 1) (_ : (r = 1 ∧ tK T p = 3 ∧ tV T p = a1) ∨ (r = 0 ∧ (tK T p ≠ 3 ∨ tV T p ≠ a1))), Q (some (vI r)) P) : Ct WSX G 1 iX7_isSign [vR 111, vI a1] P Q := by
  refine Ct.of (by decide) (l0 := [(0, vR 111), (1, vI a1)]) rfl (Nat.le_of_ble_eq_true rfl) ?_
  have hb := z0.b
  have ht : tK T p = 3 → P 111 7 = tV T p := fun h => (z0.tok (by (first | (clear hb; omega) | omega))).2
  refine g_aload_n dX7_isSign_0 rfl ?_
  refine x_g46_4 (z := (P 111 4)) (⟨by decide, rfl⟩ : kx 111 46) ffX7_75 dX7_isSign_1 rfl ?_
  refine g_iconst dX7_isSign_4 ?_
  have f1 := bx_46_4 (o := 111) hB (⟨by decide, rfl⟩ : kx 111 46)
  refine g_icmp_ne (tgt := 20) dX7_isSign_5 (by decide) ⟨by have q0 := bx_46_4 (o := 111) hB (⟨by decide, rfl⟩ : kx 111 46); (first | (clear hb ht; omega) | omega), by have q0 := bx_46_4 (o := 111) hB (⟨by decide, rfl⟩ : kx 111 46); (first | (clear hb ht; omega) | omega)⟩ (by decide) (fun k2 => ?_) (fun k2 => ?_)
  · refine g_iconst dX7_isSign_20 ?_
    exact g_retZ dX7_isSign_21 rfl (by decide) (hQ 0 (by decide) (by (first | (clear hb ht k2; omega) | (clear hb ht; omega) | (clear hb k2; omega) | (clear ht k2; omega) | (clear hb; omega) | omega)))
  · refine g_aload_n dX7_isSign_8 rfl ?_
    refine x_g46_7 (z := (P 111 7)) (⟨by decide, rfl⟩ : kx 111 46) ffX7_90 dX7_isSign_9 rfl ?_
    refine g_iload_n dX7_isSign_12 rfl ?_
    have f3 := bx_46_7 (o := 111) hB (⟨by decide, rfl⟩ : kx 111 46)
    refine g_icmp_ne (tgt := 20) dX7_isSign_13 (by decide) ⟨by have q0 := bx_46_7 (o := 111) hB (⟨by decide, rfl⟩ : kx 111 46); (first | (clear hb ht k2; omega) | omega), by have q0 := bx_46_7 (o := 111) hB (⟨by decide, rfl⟩ : kx 111 46); (first | (clear hb ht k2; omega) | omega)⟩ ⟨by (first | (clear hb ht k2; omega) | omega), by (first | (clear hb ht k2; omega) | omega)⟩ (fun k4 => ?_) (fun k4 => ?_)
    · refine g_iconst dX7_isSign_20 ?_
      exact g_retZ dX7_isSign_21 rfl (by decide) (hQ 0 (by decide) (by (first | (clear hb ht k2 k4; omega) | (clear hb ht k2; omega) | (clear hb ht k4; omega) | (clear hb k2 k4; omega) | (clear ht k2 k4; omega) | (clear hb ht; omega) | omega)))
    · refine g_iconst dX7_isSign_16 ?_
      refine g_goto (tgt := 21) dX7_isSign_17 (by decide) ?_
      exact g_retZ dX7_isSign_21 rfl (by decide) (hQ 1 (by decide) (by (first | (clear hb ht k2 k4; omega) | (clear hb ht k2; omega) | (clear hb ht k4; omega) | (clear hb k2 k4; omega) | (clear ht k2 k4; omega) | (clear hb ht; omega) | omega)))
/-! What the class answers: X7_stepNumber. -/
set_option maxRecDepth 100000 in
set_option maxHeartbeats 4000000 in
theorem f_X7_stepNumber (G : GT) (P : PH) (T : TT) (p : Int) (hB : BdX P) (p_st : P 111 3 = tA T p ∧ P 111 5 = tA T p ∧ P 111 7 = 0 ∧ P 111 8 = -1) (p_nn : 0 ≤ p ∧ p ≤ T.2 ∧ tA T p < T.2 ∧ 48 ≤ T.1 (tA T p) ∧ T.1 (tA T p) ≤ 57 ∧ tJn T p = 0) (v_TX : TX P) (z0 : XT T P) (Q : Option PV → PH → Prop) (hQ : ∀ (P1 : PH) (_ : BdX P1) (_ : FrX ([(46, 3), (46, 4), (46, 6), (46, 7)], []) P P1) (_ : XS T p P1), Q none P1) : Ct WSX G 1 iX7_stepNumber [vR 111] P Q := by
  refine Ct.of (by decide) (l0 := [(0, vR 111)]) rfl (Nat.le_of_ble_eq_true rfl) ?_
  have hln := z0.1
  refine g_aload_n dX7_stepNumber_0 rfl ?_
  refine g_iconst dX7_stepNumber_1 ?_
  refine x_p46_4 (⟨by decide, rfl⟩ : kx 111 46) pfX7_75 dX7_stepNumber_2 ?_
  have hB1 := by_46_4 (z := 2) hB (⟨by decide, rfl⟩ : kx 111 46) (by decide)
  refine g_iconst dX7_stepNumber_5 ?_
  refine g_istore_n (l1 := [(1, vI 0), (0, vR 111)]) dX7_stepNumber_6 (by decide) rfl ?_
  have L7_1 : ∀ (n7_1 : Nat) (x7_1_1 : Int) (h_x7_1_1 : 0 ≤ x7_1_1 ∧ x7_1_1 ≤ 4) (H7_1 : PH) (hB7_1 : BdX H7_1) (hE7_1 : FrX ([(46, 3), (46, 7)], []) (up P 111 4 2) H7_1) (i7_0_1 : H7_1 111 3 = tA T p + x7_1_1) (i7_1_1 : rE bN T (tA T p) = rE bN T (tA T p + x7_1_1) ∧ tA T p + x7_1_1 ≤ rE bN T (tA T p)) (i7_2_1 : H7_1 111 7 = e10 (tD T (tA T p)) (x7_1_1).toNat) (hm7_1 : (1601 - H7_1 111 3 : Int).toNat < n7_1), Go WSX G 1 iX7_stepNumber 7 [(0, vR 111), (1, vI x7_1_1)] [] H7_1 Q := by
    intro n7_1
    induction n7_1 with
    | zero => intro x7_1_1 h_x7_1_1 H7_1 hB7_1 hE7_1 i7_0_1 i7_1_1 i7_2_1 hm7_1; exact absurd hm7_1 (Nat.not_lt_zero _)
    | succ n7_1 ih7_1 =>
    intro x7_1_1 h_x7_1_1 H7_1 hB7_1 hE7_1 i7_0_1 i7_1_1 i7_2_1 hm7_1
    have hT : tA T p + x7_1_1 < T.2 → P 2 ((H7_1 111 3)) = T.1 (tA T p + x7_1_1) := fun h => by rw [show ((H7_1 111 3) : Int) = tA T p + x7_1_1 by omega]; exact z0.2 (tA T p + x7_1_1) (by have q := tA_ge T p; omega) h
    have hgn := rE_ge bN T (tA T p)
    refine g_aload_n dX7_stepNumber_7 rfl ?_
    refine x_g46_3 (z := (H7_1 111 3)) (⟨by decide, rfl⟩ : kx 111 46) ffX7_72 dX7_stepNumber_8 rfl ?_
    have f49 := bx_46_3 (o := 111) hB7_1 (⟨by decide, rfl⟩ : kx 111 46)
    refine g_if_lt (tgt := 112) dX7_stepNumber_11 (by decide) ⟨by have q0 := bx_46_3 (o := 111) hB7_1 (⟨by decide, rfl⟩ : kx 111 46); (first | (clear hT; omega) | omega), by have q0 := bx_46_3 (o := 111) hB7_1 (⟨by decide, rfl⟩ : kx 111 46); (first | (clear hT; omega) | omega)⟩ (fun k50 => by exfalso; have q0 := bx_46_3 (o := 111) hB7_1 (⟨by decide, rfl⟩ : kx 111 46); (first | (clear hT; omega) | omega)) (fun k50 => ?_)
    refine g_aload_n dX7_stepNumber_14 rfl ?_
    refine x_g46_3 (z := (H7_1 111 3)) (⟨by decide, rfl⟩ : kx 111 46) ffX7_72 dX7_stepNumber_15 rfl ?_
    refine g_aload_n dX7_stepNumber_18 rfl ?_
    refine x_g46_2 (z := (P 111 2)) (⟨by decide, rfl⟩ : kx 111 46) ffX7_71 dX7_stepNumber_19 ((FrX.g hE7_1 (⟨by decide, rfl⟩ : kx 111 46) rfl).trans ((up_k (by decide)).trans rfl)) ?_
    have f51 := bx_46_2 (o := 111) hB (⟨by decide, rfl⟩ : kx 111 46)
    refine g_icmp_ge (tgt := 112) dX7_stepNumber_22 (by decide) ⟨by have q0 := bx_46_3 (o := 111) hB7_1 (⟨by decide, rfl⟩ : kx 111 46); (first | (clear hT; omega) | omega), by have q0 := bx_46_3 (o := 111) hB7_1 (⟨by decide, rfl⟩ : kx 111 46); (first | (clear hT; omega) | omega)⟩ ⟨by have q0 := bx_46_2 (o := 111) hB (⟨by decide, rfl⟩ : kx 111 46); (first | (clear hT; omega) | omega), by have q0 := bx_46_2 (o := 111) hB (⟨by decide, rfl⟩ : kx 111 46); (first | (clear hT; omega) | omega)⟩ (fun k52 => ?_) (fun k52 => ?_)
    · have hrs := i7_1_1.1.trans (rE_st (f := bN) (T := T) (p := tA T p + x7_1_1) (fun h => by have q := bN_t.mp h.2; (first | (clear hT; omega) | omega)))
      exact g_retV dX7_stepNumber_112 rfl (hQ _ hB7_1 (FrX.c (FrX.s FrX.rf (⟨by decide, rfl⟩ : kx 111 46) rfl) hE7_1 rfl) (by have q3 := (rfl : H7_1 111 3 = (H7_1 111 3)); have q4 := (((FrX.g hE7_1 (⟨by decide, rfl⟩ : kx 111 46) rfl).trans up_same) : H7_1 111 4 = 2); have q5 := (((FrX.g hE7_1 (⟨by decide, rfl⟩ : kx 111 46) rfl).trans ((up_k (by decide)).trans rfl)) : H7_1 111 5 = (P 111 5)); have q6 := (((FrX.g hE7_1 (⟨by decide, rfl⟩ : kx 111 46) rfl).trans ((up_k (by decide)).trans rfl)) : H7_1 111 6 = (P 111 6)); have q7 := (rfl : H7_1 111 7 = (H7_1 111 7)); have q8 := (((FrX.g hE7_1 (⟨by decide, rfl⟩ : kx 111 46) rfl).trans ((up_k (by decide)).trans rfl)) : H7_1 111 8 = (P 111 8)); exact XS.nu ⟨by (first | (clear hT; omega) | omega), by (first | (clear hT; omega) | omega)⟩ (by (first | (clear hT; omega) | omega)) (by (first | (clear hT; omega) | omega)) (by (first | (clear hT; omega) | omega)) (by (first | (clear hT; omega) | omega)) (by (first | (clear hT; omega) | omega)) (by rw [show (rE bN T (tA T p) - tA T p).toNat = (x7_1_1).toNat by (first | (clear hT; omega) | omega)]; (first | (clear hT; omega) | omega)) (by (first | (clear hT; omega) | omega)) (by (first | (clear hT; omega) | omega)) (by (first | (clear hT; omega) | omega))))
    · refine g_aload_n dX7_stepNumber_25 rfl ?_
      refine x_g46_1 (n := 2) (⟨by decide, rfl⟩ : kx 111 46) ffX7_41 dX7_stepNumber_26 (TX.fr (F := ([(46, 3), (46, 4), (46, 7)], [])) v_TX (FrX.c (FrX.s FrX.rf (⟨by decide, rfl⟩ : kx 111 46) rfl) hE7_1 rfl) rfl) ?_
      refine g_aload_n dX7_stepNumber_29 rfl ?_
      refine x_g46_3 (z := (H7_1 111 3)) (⟨by decide, rfl⟩ : kx 111 46) ffX7_72 dX7_stepNumber_30 rfl ?_
      refine x_l2 (z := (P 2 (H7_1 111 3))) (⟨by decide, rfl⟩ : kx 2 2) dX7_stepNumber_33 ⟨by have q0 := bx_46_3 (o := 111) hB7_1 (⟨by decide, rfl⟩ : kx 111 46); (first | (clear hT; omega) | omega), by have q0 := bx_46_3 (o := 111) hB7_1 (⟨by decide, rfl⟩ : kx 111 46); (first | (clear hT; omega) | omega)⟩ ((FrX.g hE7_1 (⟨by decide, rfl⟩ : kx 2 2) rfl).trans ((up_o (kx.ne (⟨by decide, rfl⟩ : kx 2 2) (⟨by decide, rfl⟩ : kx 111 46) rfl)).trans rfl)) ?_
      refine g_bipush dX7_stepNumber_34 (by decide) ?_
      have f53 := bx_2 (o := 2) (k := (H7_1 111 3)) hB (⟨by decide, rfl⟩ : kx 2 2)
      refine g_icmp_lt (tgt := 112) dX7_stepNumber_36 (by decide) ⟨by have q0 := bx_2 (o := 2) (k := (H7_1 111 3)) hB (⟨by decide, rfl⟩ : kx 2 2); (first | (clear hT; omega) | omega), by have q0 := bx_2 (o := 2) (k := (H7_1 111 3)) hB (⟨by decide, rfl⟩ : kx 2 2); (first | (clear hT; omega) | omega)⟩ (by decide) (fun k54 => ?_) (fun k54 => ?_)
      · have hrs := i7_1_1.1.trans (rE_st (f := bN) (T := T) (p := tA T p + x7_1_1) (fun h => by have q := bN_t.mp h.2; (first | (clear hT; omega) | omega)))
        exact g_retV dX7_stepNumber_112 rfl (hQ _ hB7_1 (FrX.c (FrX.s FrX.rf (⟨by decide, rfl⟩ : kx 111 46) rfl) hE7_1 rfl) (by have q3 := (rfl : H7_1 111 3 = (H7_1 111 3)); have q4 := (((FrX.g hE7_1 (⟨by decide, rfl⟩ : kx 111 46) rfl).trans up_same) : H7_1 111 4 = 2); have q5 := (((FrX.g hE7_1 (⟨by decide, rfl⟩ : kx 111 46) rfl).trans ((up_k (by decide)).trans rfl)) : H7_1 111 5 = (P 111 5)); have q6 := (((FrX.g hE7_1 (⟨by decide, rfl⟩ : kx 111 46) rfl).trans ((up_k (by decide)).trans rfl)) : H7_1 111 6 = (P 111 6)); have q7 := (rfl : H7_1 111 7 = (H7_1 111 7)); have q8 := (((FrX.g hE7_1 (⟨by decide, rfl⟩ : kx 111 46) rfl).trans ((up_k (by decide)).trans rfl)) : H7_1 111 8 = (P 111 8)); exact XS.nu ⟨by (first | (clear hT; omega) | omega), by (first | (clear hT; omega) | omega)⟩ (by (first | (clear hT; omega) | omega)) (by (first | (clear hT; omega) | omega)) (by (first | (clear hT; omega) | omega)) (by (first | (clear hT; omega) | omega)) (by (first | (clear hT; omega) | omega)) (by rw [show (rE bN T (tA T p) - tA T p).toNat = (x7_1_1).toNat by (first | (clear hT; omega) | omega)]; (first | (clear hT; omega) | omega)) (by (first | (clear hT; omega) | omega)) (by (first | (clear hT; omega) | omega)) (by (first | (clear hT; omega) | omega))))
      · refine g_aload_n dX7_stepNumber_39 rfl ?_
        refine x_g46_1 (n := 2) (⟨by decide, rfl⟩ : kx 111 46) ffX7_41 dX7_stepNumber_40 (TX.fr (F := ([(46, 3), (46, 4), (46, 7)], [])) v_TX (FrX.c (FrX.s FrX.rf (⟨by decide, rfl⟩ : kx 111 46) rfl) hE7_1 rfl) rfl) ?_
        refine g_aload_n dX7_stepNumber_43 rfl ?_
        refine x_g46_3 (z := (H7_1 111 3)) (⟨by decide, rfl⟩ : kx 111 46) ffX7_72 dX7_stepNumber_44 rfl ?_
        refine x_l2 (z := (P 2 (H7_1 111 3))) (⟨by decide, rfl⟩ : kx 2 2) dX7_stepNumber_47 ⟨by have q0 := bx_46_3 (o := 111) hB7_1 (⟨by decide, rfl⟩ : kx 111 46); (first | (clear hT; omega) | omega), by have q0 := bx_46_3 (o := 111) hB7_1 (⟨by decide, rfl⟩ : kx 111 46); (first | (clear hT; omega) | omega)⟩ ((FrX.g hE7_1 (⟨by decide, rfl⟩ : kx 2 2) rfl).trans ((up_o (kx.ne (⟨by decide, rfl⟩ : kx 2 2) (⟨by decide, rfl⟩ : kx 111 46) rfl)).trans rfl)) ?_
        refine g_bipush dX7_stepNumber_48 (by decide) ?_
        refine g_icmp_gt (tgt := 112) dX7_stepNumber_50 (by decide) ⟨by have q0 := bx_2 (o := 2) (k := (H7_1 111 3)) hB (⟨by decide, rfl⟩ : kx 2 2); (first | (clear hT; omega) | omega), by have q0 := bx_2 (o := 2) (k := (H7_1 111 3)) hB (⟨by decide, rfl⟩ : kx 2 2); (first | (clear hT; omega) | omega)⟩ (by decide) (fun k55 => ?_) (fun k55 => ?_)
        · have hrs := i7_1_1.1.trans (rE_st (f := bN) (T := T) (p := tA T p + x7_1_1) (fun h => by have q := bN_t.mp h.2; (first | (clear hT; omega) | omega)))
          exact g_retV dX7_stepNumber_112 rfl (hQ _ hB7_1 (FrX.c (FrX.s FrX.rf (⟨by decide, rfl⟩ : kx 111 46) rfl) hE7_1 rfl) (by have q3 := (rfl : H7_1 111 3 = (H7_1 111 3)); have q4 := (((FrX.g hE7_1 (⟨by decide, rfl⟩ : kx 111 46) rfl).trans up_same) : H7_1 111 4 = 2); have q5 := (((FrX.g hE7_1 (⟨by decide, rfl⟩ : kx 111 46) rfl).trans ((up_k (by decide)).trans rfl)) : H7_1 111 5 = (P 111 5)); have q6 := (((FrX.g hE7_1 (⟨by decide, rfl⟩ : kx 111 46) rfl).trans ((up_k (by decide)).trans rfl)) : H7_1 111 6 = (P 111 6)); have q7 := (rfl : H7_1 111 7 = (H7_1 111 7)); have q8 := (((FrX.g hE7_1 (⟨by decide, rfl⟩ : kx 111 46) rfl).trans ((up_k (by decide)).trans rfl)) : H7_1 111 8 = (P 111 8)); exact XS.nu ⟨by (first | (clear hT; omega) | omega), by (first | (clear hT; omega) | omega)⟩ (by (first | (clear hT; omega) | omega)) (by (first | (clear hT; omega) | omega)) (by (first | (clear hT; omega) | omega)) (by (first | (clear hT; omega) | omega)) (by (first | (clear hT; omega) | omega)) (by rw [show (rE bN T (tA T p) - tA T p).toNat = (x7_1_1).toNat by (first | (clear hT; omega) | omega)]; (first | (clear hT; omega) | omega)) (by (first | (clear hT; omega) | omega)) (by (first | (clear hT; omega) | omega)) (by (first | (clear hT; omega) | omega))))
        · have hgo := rE_go (f := bN) (T := T) (p := tA T p + x7_1_1) (by (first | (clear hT; omega) | omega)) (bN_t.mpr (by (first | (clear hT; omega) | omega)))
          have hge := rE_ge bN T (tA T p + x7_1_1 + 1)
          refine g_iload_n dX7_stepNumber_53 rfl ?_
          refine g_iconst dX7_stepNumber_54 ?_
          refine g_icmp_ne (tgt := 72) dX7_stepNumber_55 (by decide) ⟨by (first | (clear hT; omega) | omega), by (first | (clear hT; omega) | omega)⟩ (by decide) (fun k56 => ?_) (fun k56 => ?_)
          · have k56n : x7_1_1 ≤ 3 := by (first | (clear hT; omega) | omega)
            clear k56
            have hvb := e10_b (T := T) (a := tA T p) (x7_1_1).toNat (by (first | (clear hT; omega) | omega)) (fun i hi => run_d (T := T) (a := tA T p) (b := tA T p + x7_1_1) (by (first | (clear hT; omega) | omega)) (by (first | (clear hT; omega) | omega)) i (by (first | (clear hT; omega) | omega)))
            refine g_aload_n dX7_stepNumber_72 rfl ?_
            refine g_aload_n dX7_stepNumber_73 rfl ?_
            refine x_g46_7 (z := (H7_1 111 7)) (⟨by decide, rfl⟩ : kx 111 46) ffX7_90 dX7_stepNumber_74 rfl ?_
            refine g_bipush dX7_stepNumber_77 (by decide) ?_
            refine g_imul dX7_stepNumber_79 ?_
            refine g_aload_n dX7_stepNumber_80 rfl ?_
            refine x_g46_1 (n := 2) (⟨by decide, rfl⟩ : kx 111 46) ffX7_41 dX7_stepNumber_81 (TX.fr (F := ([(46, 3), (46, 4), (46, 7)], [])) v_TX (FrX.c (FrX.s FrX.rf (⟨by decide, rfl⟩ : kx 111 46) rfl) hE7_1 rfl) rfl) ?_
            refine g_aload_n dX7_stepNumber_84 rfl ?_
            refine x_g46_3 (z := (H7_1 111 3)) (⟨by decide, rfl⟩ : kx 111 46) ffX7_72 dX7_stepNumber_85 rfl ?_
            refine x_l2 (z := (P 2 (H7_1 111 3))) (⟨by decide, rfl⟩ : kx 2 2) dX7_stepNumber_88 ⟨by have q0 := bx_46_3 (o := 111) hB7_1 (⟨by decide, rfl⟩ : kx 111 46); (first | (clear hT; omega) | omega), by have q0 := bx_46_3 (o := 111) hB7_1 (⟨by decide, rfl⟩ : kx 111 46); (first | (clear hT; omega) | omega)⟩ ((FrX.g hE7_1 (⟨by decide, rfl⟩ : kx 2 2) rfl).trans ((up_o (kx.ne (⟨by decide, rfl⟩ : kx 2 2) (⟨by decide, rfl⟩ : kx 111 46) rfl)).trans rfl)) ?_
            refine g_iadd dX7_stepNumber_89 ?_
            refine g_bipush dX7_stepNumber_90 (by decide) ?_
            refine g_isub dX7_stepNumber_92 ?_
            have hv9 : ((((H7_1 111 7) * 10) + (P 2 (H7_1 111 3))) - 48) = e10 (tD T (tA T p)) (x7_1_1 + 1).toNat := by
              rw [show (x7_1_1 + 1).toNat = (x7_1_1).toNat + 1 by (first | (clear hT; omega) | omega)]
              show _ = e10 (tD T (tA T p)) (x7_1_1).toNat * 10 + (T.1 (tA T p + ((x7_1_1).toNat : Int)) - 48)
              rw [show tA T p + ((x7_1_1).toNat : Int) = tA T p + x7_1_1 by (first | (clear hT; omega) | omega)]
              (first | (clear hT; omega) | omega)
            refine x_p46_7 (⟨by decide, rfl⟩ : kx 111 46) pfX7_90 dX7_stepNumber_93 ?_
            have hB57 := by_46_7 (z := ((((H7_1 111 7) * 10) + (P 2 (H7_1 111 3))) - 48)) hB7_1 (⟨by decide, rfl⟩ : kx 111 46) ⟨by have q0 := bx_46_7 (o := 111) hB7_1 (⟨by decide, rfl⟩ : kx 111 46); have q1 := bx_2 (o := 2) (k := (H7_1 111 3)) hB (⟨by decide, rfl⟩ : kx 2 2); (first | (clear hT; omega) | omega), by have q0 := bx_46_7 (o := 111) hB7_1 (⟨by decide, rfl⟩ : kx 111 46); have q1 := bx_2 (o := 2) (k := (H7_1 111 3)) hB (⟨by decide, rfl⟩ : kx 2 2); (first | (clear hT; omega) | omega)⟩
            refine g_iinc (l1 := [(1, vI (x7_1_1 + 1)), (0, vR 111)]) dX7_stepNumber_96 rfl (by decide) rfl ?_
            refine g_aload_n dX7_stepNumber_99 rfl ?_
            refine g_dup dX7_stepNumber_100 rfl ?_
            refine x_g46_3 (z := (H7_1 111 3)) (⟨by decide, rfl⟩ : kx 111 46) ffX7_72 dX7_stepNumber_101 ((up_k (by decide)).trans rfl) ?_
            refine g_iconst dX7_stepNumber_104 ?_
            refine g_iadd dX7_stepNumber_105 ?_
            refine x_p46_3 (⟨by decide, rfl⟩ : kx 111 46) pfX7_72 dX7_stepNumber_106 ?_
            have hB58 := by_46_3 (z := ((H7_1 111 3) + 1)) hB57 (⟨by decide, rfl⟩ : kx 111 46) ⟨by have q0 := bx_46_3 (o := 111) hB7_1 (⟨by decide, rfl⟩ : kx 111 46); (first | (clear hT; omega) | omega), by have q0 := bx_46_3 (o := 111) hB7_1 (⟨by decide, rfl⟩ : kx 111 46); (first | (clear hT; omega) | omega)⟩
            refine g_goto (tgt := 7) dX7_stepNumber_109 (by decide) ?_
            refine g_forget (l1 := [(0, vR 111), (1, vI (x7_1_1 + 1))]) (by intro q hq; simp only [List.mem_cons, List.not_mem_nil, or_false] at hq ⊢; rcases hq with rfl | rfl <;> simp) ?_
            exact ih7_1 (x7_1_1 + 1) ⟨by (first | (clear hT; omega) | omega), by (first | (clear hT; omega) | omega)⟩ _ hB58 (FrX.s (FrX.s (FrX.c FrX.rf hE7_1 rfl) (⟨by decide, rfl⟩ : kx 111 46) rfl) (⟨by decide, rfl⟩ : kx 111 46) rfl) (by have q0 := (up_same : (up (up H7_1 111 7 ((((H7_1 111 7) * 10) + (P 2 (H7_1 111 3))) - 48)) 111 3 ((H7_1 111 3) + 1)) 111 3 = ((H7_1 111 3) + 1)); have q1 := bx_46_3 (o := 111) hB7_1 (⟨by decide, rfl⟩ : kx 111 46); (first | (clear hT; omega) | omega)) (by first | (rw [Int.add_zero]; exact ⟨rfl, rE_ge _ _ _⟩) | (rw [show ∀ z : Int, tA T p + (z + 1) = tA T p + z + 1 from fun z => by (first | (clear hT; omega) | omega)]; (first | (clear hT; omega) | omega))) (by first | (have q7 := (((up_k (by decide)).trans up_same) : (up (up H7_1 111 7 ((((H7_1 111 7) * 10) + (P 2 (H7_1 111 3))) - 48)) 111 3 ((H7_1 111 3) + 1)) 111 7 = ((((H7_1 111 7) * 10) + (P 2 (H7_1 111 3))) - 48)); (first | (clear hT; omega) | omega)) | exact (((up_k (by decide)).trans up_same)).trans (p_st.2.2.1.trans rfl)) (by have q0 := (up_same : (up (up H7_1 111 7 ((((H7_1 111 7) * 10) + (P 2 (H7_1 111 3))) - 48)) 111 3 ((H7_1 111 3) + 1)) 111 3 = ((H7_1 111 3) + 1)); have q1 := bx_46_3 (o := 111) hB7_1 (⟨by decide, rfl⟩ : kx 111 46); (first | (clear hT; omega) | omega))
          · refine g_aload_n dX7_stepNumber_58 rfl ?_
            refine g_iconst dX7_stepNumber_59 ?_
            refine x_p46_4 (⟨by decide, rfl⟩ : kx 111 46) pfX7_75 dX7_stepNumber_60 ?_
            have hB59 := by_46_4 (z := 4) hB7_1 (⟨by decide, rfl⟩ : kx 111 46) (by decide)
            refine g_aload_n dX7_stepNumber_63 rfl ?_
            refine g_aload_n dX7_stepNumber_64 rfl ?_
            refine x_g46_3 (z := (H7_1 111 3)) (⟨by decide, rfl⟩ : kx 111 46) ffX7_72 dX7_stepNumber_65 ((up_k (by decide)).trans rfl) ?_
            refine x_p46_6 (⟨by decide, rfl⟩ : kx 111 46) pfX7_84 dX7_stepNumber_68 ?_
            have hB60 := by_46_6 (z := (H7_1 111 3)) hB59 (⟨by decide, rfl⟩ : kx 111 46) ⟨by have q0 := bx_46_3 (o := 111) hB7_1 (⟨by decide, rfl⟩ : kx 111 46); (first | (clear hT; omega) | omega), by have q0 := bx_46_3 (o := 111) hB7_1 (⟨by decide, rfl⟩ : kx 111 46); (first | (clear hT; omega) | omega)⟩
            exact g_retV dX7_stepNumber_71 rfl (hQ _ hB60 (FrX.s (FrX.s (FrX.c (FrX.s FrX.rf (⟨by decide, rfl⟩ : kx 111 46) rfl) hE7_1 rfl) (⟨by decide, rfl⟩ : kx 111 46) rfl) (⟨by decide, rfl⟩ : kx 111 46) rfl) (by have q3 := (((up_k (by decide)).trans ((up_k (by decide)).trans rfl)) : (up (up H7_1 111 4 4) 111 6 (H7_1 111 3)) 111 3 = (H7_1 111 3)); have q4 := (((up_k (by decide)).trans up_same) : (up (up H7_1 111 4 4) 111 6 (H7_1 111 3)) 111 4 = 4); have q5 := (((up_k (by decide)).trans ((up_k (by decide)).trans ((FrX.g hE7_1 (⟨by decide, rfl⟩ : kx 111 46) rfl).trans ((up_k (by decide)).trans rfl)))) : (up (up H7_1 111 4 4) 111 6 (H7_1 111 3)) 111 5 = (P 111 5)); have q6 := (up_same : (up (up H7_1 111 4 4) 111 6 (H7_1 111 3)) 111 6 = (H7_1 111 3)); have q7 := (((up_k (by decide)).trans ((up_k (by decide)).trans rfl)) : (up (up H7_1 111 4 4) 111 6 (H7_1 111 3)) 111 7 = (H7_1 111 7)); have q8 := (((up_k (by decide)).trans ((up_k (by decide)).trans ((FrX.g hE7_1 (⟨by decide, rfl⟩ : kx 111 46) rfl).trans ((up_k (by decide)).trans rfl)))) : (up (up H7_1 111 4 4) 111 6 (H7_1 111 3)) 111 8 = (P 111 8)); exact XS.nub ⟨by (first | (clear hT; omega) | omega), by (first | (clear hT; omega) | omega)⟩ (by (first | (clear hT; omega) | omega)) (by (first | (clear hT; omega) | omega)) (by (first | (clear hT; omega) | omega)) (by (first | (clear hT; omega) | omega)) (by (first | (clear hT; omega) | omega)) (by (first | (clear hT; omega) | omega)) (by (first | (clear hT; omega) | omega)) (by (first | (clear hT; omega) | omega))))
  refine g_forget (l1 := [(0, vR 111), (1, vI 0)]) (by intro q hq; simp only [List.mem_cons, List.not_mem_nil, or_false] at hq ⊢; rcases hq with rfl | rfl <;> simp) ?_
  exact L7_1 _ 0 (by decide) _ hB1 FrX.rf (by have q0 := (((up_k (by decide)).trans rfl) : (up P 111 4 2) 111 3 = (P 111 3)); have q1 := bx_46_3 (o := 111) hB (⟨by decide, rfl⟩ : kx 111 46); omega) (by first | (rw [Int.add_zero]; exact ⟨rfl, rE_ge _ _ _⟩) | (rw [show ∀ z : Int, tA T p + (z + 1) = tA T p + z + 1 from fun z => by omega]; omega)) (by first | (have q7 := (((up_k (by decide)).trans rfl) : (up P 111 4 2) 111 7 = (P 111 7)); omega) | exact (((up_k (by decide)).trans rfl)).trans (p_st.2.2.1.trans rfl)) (Nat.lt_succ_self _)
/-! What the class answers: X7_stepWord. -/
set_option maxRecDepth 100000 in
set_option maxHeartbeats 4000000 in
theorem f_X7_stepWord (G : GT) (P : PH) (T : TT) (p : Int) (hB : BdX P) (p_st : P 111 3 = tA T p ∧ P 111 5 = tA T p ∧ P 111 7 = 0 ∧ P 111 8 = -1) (p_nn : 0 ≤ p ∧ p ≤ T.2 ∧ tA T p < T.2 ∧ 97 ≤ T.1 (tA T p) ∧ T.1 (tA T p) ≤ 122 ∧ tJn T p = 0) (v_TX : TX P) (v_OWN : OWN P) (z0 : XT T P) (Q : Option PV → PH → Prop) (hQ : ∀ (P1 : PH) (_ : BdX P1) (_ : FrX ([(46, 3), (46, 4), (46, 6), (46, 7), (46, 8)], []) P P1) (_ : XS T p P1), Q none P1) : Ct WSX G 1 iX7_stepWord [vR 111] P Q := by
  refine Ct.of (by decide) (l0 := [(0, vR 111)]) rfl (Nat.le_of_ble_eq_true rfl) ?_
  have hln := z0.1
  refine g_aload_n dX7_stepWord_0 rfl ?_
  refine g_iconst dX7_stepWord_1 ?_
  refine x_p46_4 (⟨by decide, rfl⟩ : kx 111 46) pfX7_75 dX7_stepWord_2 ?_
  have hB1 := by_46_4 (z := 1) hB (⟨by decide, rfl⟩ : kx 111 46) (by decide)
  refine g_iconst dX7_stepWord_5 ?_
  refine g_istore_n (l1 := [(1, vI 0), (0, vR 111)]) dX7_stepWord_6 (by decide) rfl ?_
  have L7_1 : ∀ (n7_1 : Nat) (x7_1_1 : Int) (h_x7_1_1 : 0 ≤ x7_1_1 ∧ x7_1_1 ≤ 6) (H7_1 : PH) (hB7_1 : BdX H7_1) (hE7_1 : FrX ([(46, 3), (46, 7)], []) (up P 111 4 1) H7_1) (i7_0_1 : H7_1 111 3 = tA T p + x7_1_1) (i7_1_1 : rE bL T (tA T p) = rE bL T (tA T p + x7_1_1) ∧ tA T p + x7_1_1 ≤ rE bL T (tA T p)) (i7_2_1 : H7_1 111 7 = e27 (tL T (tA T p)) (x7_1_1).toNat) (hm7_1 : (1601 - H7_1 111 3 : Int).toNat < n7_1), Go WSX G 1 iX7_stepWord 7 [(0, vR 111), (1, vI x7_1_1)] [] H7_1 Q := by
    intro n7_1
    induction n7_1 with
    | zero => intro x7_1_1 h_x7_1_1 H7_1 hB7_1 hE7_1 i7_0_1 i7_1_1 i7_2_1 hm7_1; exact absurd hm7_1 (Nat.not_lt_zero _)
    | succ n7_1 ih7_1 =>
    intro x7_1_1 h_x7_1_1 H7_1 hB7_1 hE7_1 i7_0_1 i7_1_1 i7_2_1 hm7_1
    have hT : tA T p + x7_1_1 < T.2 → P 2 ((H7_1 111 3)) = T.1 (tA T p + x7_1_1) := fun h => by rw [show ((H7_1 111 3) : Int) = tA T p + x7_1_1 by omega]; exact z0.2 (tA T p + x7_1_1) (by have q := tA_ge T p; omega) h
    have hgn := rE_ge bL T (tA T p)
    refine g_aload_n dX7_stepWord_7 rfl ?_
    refine x_g46_3 (z := (H7_1 111 3)) (⟨by decide, rfl⟩ : kx 111 46) ffX7_72 dX7_stepWord_8 rfl ?_
    have f3885 := bx_46_3 (o := 111) hB7_1 (⟨by decide, rfl⟩ : kx 111 46)
    have J115_4392 : ∀ (i115_0_4392 : rE bL T (tA T p) = tA T p + x7_1_1), Go WSX G 1 iX7_stepWord 115 [(0, vR 111), (1, vI x7_1_1)] [] H7_1 Q := by
      intro i115_0_4392
      obtain ⟨n1, hn1⟩ : ∃ z : Int, z = x7_1_1 := ⟨_, rfl⟩
      have hrl : ∀ i : Nat, i < (n1).toNat → 1 ≤ tL T (tA T p) i ∧ tL T (tA T p) i ≤ 26 := fun i hi => run_l (T := T) (a := tA T p) (b := tA T p + x7_1_1) (by (first | (clear hT; omega) | omega)) (by (first | (clear hT; omega) | omega)) (by (first | (clear hT; omega) | omega)) i (by (first | (clear hT; omega) | omega))
      have hp0 := pad_0 (g := tL T (tA T p)) (L := (n1).toNat)
      refine g_iload_n dX7_stepWord_115 rfl ?_
      refine g_istore_n (l1 := [(2, vI x7_1_1), (0, vR 111), (1, vI x7_1_1)]) dX7_stepWord_116 (by decide) rfl ?_
      have L117_4393 : ∀ (n117_4393 : Nat) (x117_2_4393 : Int) (h_x117_2_4393 : 0 ≤ x117_2_4393 ∧ x117_2_4393 ≤ 6) (H117_4393 : PH) (hB117_4393 : BdX H117_4393) (hE117_4393 : FrX ([(46, 7)], []) H7_1 H117_4393) (i117_0_4393 : n1 ≤ x117_2_4393) (i117_1_4393 : H117_4393 111 7 = e27 (tPad (tL T (tA T p)) (n1).toNat) (x117_2_4393).toNat) (hm117_4393 : ((7 - x117_2_4393) : Int).toNat < n117_4393), Go WSX G 1 iX7_stepWord 117 [(0, vR 111), (2, vI x117_2_4393)] [] H117_4393 Q := by
        intro n117_4393
        induction n117_4393 with
        | zero => intro x117_2_4393 h_x117_2_4393 H117_4393 hB117_4393 hE117_4393 i117_0_4393 i117_1_4393 hm117_4393; exact absurd hm117_4393 (Nat.not_lt_zero _)
        | succ n117_4393 ih117_4393 =>
        intro x117_2_4393 h_x117_2_4393 H117_4393 hB117_4393 hE117_4393 i117_0_4393 i117_1_4393 hm117_4393
        refine g_iload_n dX7_stepWord_117 rfl ?_
        refine g_bipush dX7_stepWord_118 (by decide) ?_
        refine g_icmp_ge (tgt := 140) dX7_stepWord_120 (by decide) ⟨by (first | (clear hT; omega) | omega), by (first | (clear hT; omega) | omega)⟩ (by decide) (fun k4791 => ?_) (fun k4791 => ?_)
        · have hi6 : H117_4393 111 7 = e27 (tPad (tL T (tA T p)) (n1).toNat) 6 := by
            have q := i117_1_4393
            rw [show (x117_2_4393).toNat = 6 by (first | (clear hT; omega) | omega)] at q
            exact q
          refine g_iconst dX7_stepWord_140 ?_
          refine g_istore_n (l1 := [(2, vI 0), (0, vR 111)]) dX7_stepWord_141 (by decide) rfl ?_
          have L142_4791 : ∀ (n142_4791 : Nat) (x142_2_4791 : Int) (h_x142_2_4791 : 0 ≤ x142_2_4791 ∧ x142_2_4791 ≤ 11) (H142_4791 : PH) (hB142_4791 : BdX H142_4791) (hE142_4791 : FrX ([(46, 8)], []) H117_4393 H142_4791) (i142_0_4791 : H142_4791 111 8 = oWF (H142_4791 111 7) (x142_2_4791).toNat) (hm142_4791 : ((12 - x142_2_4791) : Int).toNat < n142_4791), Go WSX G 1 iX7_stepWord 142 [(0, vR 111), (2, vI x142_2_4791)] [] H142_4791 Q := by
            intro n142_4791
            induction n142_4791 with
            | zero => intro x142_2_4791 h_x142_2_4791 H142_4791 hB142_4791 hE142_4791 i142_0_4791 hm142_4791; exact absurd hm142_4791 (Nat.not_lt_zero _)
            | succ n142_4791 ih142_4791 =>
            intro x142_2_4791 h_x142_2_4791 H142_4791 hB142_4791 hE142_4791 i142_0_4791 hm142_4791
            refine g_iload_n dX7_stepWord_142 rfl ?_
            refine g_aload_n dX7_stepWord_143 rfl ?_
            refine x_g46_0 (n := 112) (⟨by decide, rfl⟩ : kx 111 46) ffX7_37 dX7_stepWord_144 rfl ?_
            refine x_n47 (⟨by decide, rfl⟩ : kx 112 47) dX7_stepWord_147 ?_
            refine g_icmp_ge (tgt := 175) dX7_stepWord_148 (by decide) ⟨by (first | (clear hT; omega) | omega), by (first | (clear hT; omega) | omega)⟩ (by decide) (fun k4881 => ?_) (fun k4881 => ?_)
            · exact g_retV dX7_stepWord_175 rfl (hQ _ hB142_4791 (FrX.c (FrX.c (FrX.c (FrX.s FrX.rf (⟨by decide, rfl⟩ : kx 111 46) rfl) hE7_1 rfl) hE117_4393 rfl) hE142_4791 rfl) (by have q3 := (((FrX.g hE142_4791 (⟨by decide, rfl⟩ : kx 111 46) rfl).trans ((FrX.g hE117_4393 (⟨by decide, rfl⟩ : kx 111 46) rfl).trans rfl)) : H142_4791 111 3 = (H7_1 111 3)); have q4 := (((FrX.g hE142_4791 (⟨by decide, rfl⟩ : kx 111 46) rfl).trans ((FrX.g hE117_4393 (⟨by decide, rfl⟩ : kx 111 46) rfl).trans ((FrX.g hE7_1 (⟨by decide, rfl⟩ : kx 111 46) rfl).trans up_same))) : H142_4791 111 4 = 1); have q5 := (((FrX.g hE142_4791 (⟨by decide, rfl⟩ : kx 111 46) rfl).trans ((FrX.g hE117_4393 (⟨by decide, rfl⟩ : kx 111 46) rfl).trans ((FrX.g hE7_1 (⟨by decide, rfl⟩ : kx 111 46) rfl).trans ((up_k (by decide)).trans rfl)))) : H142_4791 111 5 = (P 111 5)); have q6 := (((FrX.g hE142_4791 (⟨by decide, rfl⟩ : kx 111 46) rfl).trans ((FrX.g hE117_4393 (⟨by decide, rfl⟩ : kx 111 46) rfl).trans ((FrX.g hE7_1 (⟨by decide, rfl⟩ : kx 111 46) rfl).trans ((up_k (by decide)).trans rfl)))) : H142_4791 111 6 = (P 111 6)); have q7 := (((FrX.g hE142_4791 (⟨by decide, rfl⟩ : kx 111 46) rfl).trans rfl) : H142_4791 111 7 = (H117_4393 111 7)); have q8 := (rfl : H142_4791 111 8 = (H142_4791 111 8)); exact XS.wo ⟨by (first | (clear hT; omega) | omega), by (first | (clear hT; omega) | omega)⟩ (by (first | (clear hT; omega) | omega)) (by (first | (clear hT; omega) | omega)) (by rw [show (11 : Nat) = (x142_2_4791).toNat by (first | (clear hT; omega) | omega)]; exact i142_0_4791) (by (first | (clear hT; omega) | omega)) (by (first | (clear hT; omega) | omega)) (by rw [show (rE bL T (tA T p) - tA T p).toNat = (n1).toNat by (first | (clear hT; omega) | omega)]; (first | (clear hT; omega) | omega)) (by (first | (clear hT; omega) | omega)) (by (first | (clear hT; omega) | omega)) (by (first | (clear hT; omega) | omega))))
            · have hq112 : H142_4791 112 x142_2_4791 = P 112 x142_2_4791 := ((FrX.g hE142_4791 (⟨by decide, rfl⟩ : kx 112 47) rfl).trans ((FrX.g hE117_4393 (⟨by decide, rfl⟩ : kx 112 47) rfl).trans ((FrX.g hE7_1 (⟨by decide, rfl⟩ : kx 112 47) rfl).trans ((up_o (kx.ne (⟨by decide, rfl⟩ : kx 112 47) (⟨by decide, rfl⟩ : kx 111 46) rfl)).trans rfl))))
              have hq142 : H142_4791 111 8 = oWF ((H117_4393 111 7)) (x142_2_4791).toNat := by
                have q := i142_0_4791
                rw [show H142_4791 111 7 = (H117_4393 111 7) from ((FrX.g hE142_4791 (⟨by decide, rfl⟩ : kx 111 46) rfl).trans rfl)] at q
                exact q
              have hw9 := oWF_s (v := (H117_4393 111 7)) (n := (x142_2_4791).toNat) (((OWN.fr (F := ([(46, 3), (46, 4), (46, 7), (46, 8)], [])) v_OWN (FrX.c (FrX.c (FrX.c (FrX.s FrX.rf (⟨by decide, rfl⟩ : kx 111 46) rfl) hE7_1 rfl) hE117_4393 rfl) hE142_4791 rfl) rfl)) (x142_2_4791).toNat (by (first | (clear hT; omega) | omega)))
              rw [show (((x142_2_4791).toNat : Nat) : Int) = x142_2_4791 by (first | (clear hT hw9; omega) | (clear hT; omega) | (clear hw9; omega) | omega)] at hw9
              refine g_aload_n dX7_stepWord_151 rfl ?_
              refine x_g46_0 (n := 112) (⟨by decide, rfl⟩ : kx 111 46) ffX7_37 dX7_stepWord_152 rfl ?_
              refine g_iload_n dX7_stepWord_155 rfl ?_
              refine x_l47 (z := (P 112 x142_2_4791)) (⟨by decide, rfl⟩ : kx 112 47) dX7_stepWord_156 ⟨by (first | (clear hT hw9; omega) | omega), by (first | (clear hT hw9; omega) | omega)⟩ ((FrX.g hE142_4791 (⟨by decide, rfl⟩ : kx 112 47) rfl).trans ((FrX.g hE117_4393 (⟨by decide, rfl⟩ : kx 112 47) rfl).trans ((FrX.g hE7_1 (⟨by decide, rfl⟩ : kx 112 47) rfl).trans ((up_o (kx.ne (⟨by decide, rfl⟩ : kx 112 47) (⟨by decide, rfl⟩ : kx 111 46) rfl)).trans rfl)))) ?_
              refine g_aload_n dX7_stepWord_157 rfl ?_
              refine x_g46_7 (z := (H117_4393 111 7)) (⟨by decide, rfl⟩ : kx 111 46) ffX7_90 dX7_stepWord_158 ((FrX.g hE142_4791 (⟨by decide, rfl⟩ : kx 111 46) rfl).trans rfl) ?_
              have f4882 := bx_47 (o := 112) (k := x142_2_4791) hB (⟨by decide, rfl⟩ : kx 112 47)
              have f4883 := bx_46_7 (o := 111) hB117_4393 (⟨by decide, rfl⟩ : kx 111 46)
              have J169_4885 : ∀ (H169_4885 : PH) (hB169_4885 : BdX H169_4885) (hE169_4885 : FrX ([(46, 8)], []) H142_4791 H169_4885) (i169_0_4885 : H169_4885 111 8 = oWF (H169_4885 111 7) (x142_2_4791 + 1).toNat), Go WSX G 1 iX7_stepWord 169 [(0, vR 111), (2, vI x142_2_4791)] [] H169_4885 Q := by
                intro H169_4885 hB169_4885 hE169_4885 i169_0_4885
                have hnx142 := i169_0_4885
                refine g_iinc (l1 := [(2, vI (x142_2_4791 + 1)), (0, vR 111)]) dX7_stepWord_169 rfl (by decide) rfl ?_
                refine g_goto (tgt := 142) dX7_stepWord_172 (by decide) ?_
                refine g_forget (l1 := [(0, vR 111), (2, vI (x142_2_4791 + 1))]) (by intro q hq; simp only [List.mem_cons, List.not_mem_nil, or_false] at hq ⊢; rcases hq with rfl | rfl <;> simp) ?_
                exact ih142_4791 (x142_2_4791 + 1) ⟨by (first | (clear hT hw9; omega) | omega), by (first | (clear hT hw9; omega) | omega)⟩ _ hB169_4885 (FrX.c (FrX.c FrX.rf hE142_4791 rfl) hE169_4885 rfl) (by first | exact hnx142 | (have q7 := (((FrX.g hE169_4885 (⟨by decide, rfl⟩ : kx 111 46) rfl).trans ((FrX.g hE142_4791 (⟨by decide, rfl⟩ : kx 111 46) rfl).trans rfl)) : H169_4885 111 7 = (H117_4393 111 7)); have q8 := (rfl : H169_4885 111 8 = (H169_4885 111 8)); rw [q7]; (first | (clear hT hw9; omega) | (clear hT; omega) | (clear hw9; omega) | omega)) | exact (rfl).trans (by first | (first | (clear hT hw9; omega) | (clear hT; omega) | (clear hw9; omega) | omega) | exact (p_st.2.2.2).trans rfl)) (by (first | (clear hT hw9; omega) | (clear hT; omega) | (clear hw9; omega) | omega))
              refine g_icmp_ne (tgt := 169) dX7_stepWord_161 (by decide) ⟨by have q0 := bx_47 (o := 112) (k := x142_2_4791) hB (⟨by decide, rfl⟩ : kx 112 47); (first | (clear hT hw9; omega) | omega), by have q0 := bx_47 (o := 112) (k := x142_2_4791) hB (⟨by decide, rfl⟩ : kx 112 47); (first | (clear hT hw9; omega) | omega)⟩ ⟨by have q0 := bx_46_7 (o := 111) hB117_4393 (⟨by decide, rfl⟩ : kx 111 46); (first | (clear hT hw9; omega) | omega), by have q0 := bx_46_7 (o := 111) hB117_4393 (⟨by decide, rfl⟩ : kx 111 46); (first | (clear hT hw9; omega) | omega)⟩ (fun k4887 => ?_) (fun k4887 => ?_)
              · first | (revert r_hw9; intro r_hw9) | have r_hw9 := (hw9.resolve_right (by (clear hT hw9 k4887; omega))) | have r_hw9 := (hw9.resolve_left (by (clear hT hw9 k4887; omega))) | skip
                refine g_forget (l1 := [(0, vR 111), (2, vI x142_2_4791)]) (by intro q hq; simp only [List.mem_cons, List.not_mem_nil, or_false] at hq ⊢; rcases hq with rfl | rfl <;> simp) ?_
                exact J169_4885 _ hB142_4791 FrX.rf (by rw [show H142_4791 111 7 = (H117_4393 111 7) from ((FrX.g hE142_4791 (⟨by decide, rfl⟩ : kx 111 46) rfl).trans rfl), show (x142_2_4791 + 1).toNat = (x142_2_4791).toNat + 1 by (first | (clear hT hw9 k4887; omega) | (clear hT hw9; omega) | (clear hT k4887; omega) | (clear hw9 k4887; omega) | (clear hT; omega) | omega)]; have q8 := (rfl : H142_4791 111 8 = (H142_4791 111 8)); (first | (clear hT hw9 k4887; omega) | (clear hT hw9; omega) | (clear hT k4887; omega) | (clear hw9 k4887; omega) | (clear hT; omega) | omega))
              · first | (revert r_hw9; intro r_hw9) | have r_hw9 := (hw9.resolve_right (by (clear hT hw9 k4887; omega))) | have r_hw9 := (hw9.resolve_left (by (clear hT hw9 k4887; omega))) | skip
                refine g_aload_n dX7_stepWord_164 rfl ?_
                refine g_iload_n dX7_stepWord_165 rfl ?_
                refine x_p46_8 (⟨by decide, rfl⟩ : kx 111 46) pfX7_87 dX7_stepWord_166 ?_
                have hB4888 := by_46_8 (z := x142_2_4791) hB142_4791 (⟨by decide, rfl⟩ : kx 111 46) ⟨by (first | (clear hT hw9 k4887; omega) | omega), by (first | (clear hT hw9 k4887; omega) | omega)⟩
                refine g_forget (l1 := [(0, vR 111), (2, vI x142_2_4791)]) (by intro q hq; simp only [List.mem_cons, List.not_mem_nil, or_false] at hq ⊢; rcases hq with rfl | rfl <;> simp) ?_
                exact J169_4885 _ hB4888 (FrX.s FrX.rf (⟨by decide, rfl⟩ : kx 111 46) rfl) (by rw [show (up H142_4791 111 8 x142_2_4791) 111 7 = (H117_4393 111 7) from ((up_k (by decide)).trans ((FrX.g hE142_4791 (⟨by decide, rfl⟩ : kx 111 46) rfl).trans rfl)), show (x142_2_4791 + 1).toNat = (x142_2_4791).toNat + 1 by (first | (clear hT hw9 k4887; omega) | (clear hT hw9; omega) | (clear hT k4887; omega) | (clear hw9 k4887; omega) | (clear hT; omega) | omega)]; have q8 := (up_same : (up H142_4791 111 8 x142_2_4791) 111 8 = x142_2_4791); (first | (clear hT hw9 k4887; omega) | (clear hT hw9; omega) | (clear hT k4887; omega) | (clear hw9 k4887; omega) | (clear hT; omega) | omega))
          refine g_forget (l1 := [(0, vR 111), (2, vI 0)]) (by intro q hq; simp only [List.mem_cons, List.not_mem_nil, or_false] at hq ⊢; rcases hq with rfl | rfl <;> simp) ?_
          exact L142_4791 _ 0 (by decide) _ hB117_4393 FrX.rf (by first | exact hnx142 | (have q7 := (rfl : H117_4393 111 7 = (H117_4393 111 7)); have q8 := (((FrX.g hE117_4393 (⟨by decide, rfl⟩ : kx 111 46) rfl).trans ((FrX.g hE7_1 (⟨by decide, rfl⟩ : kx 111 46) rfl).trans ((up_k (by decide)).trans rfl))) : H117_4393 111 8 = (P 111 8)); rw [q7]; (first | (clear hT; omega) | omega)) | exact (((FrX.g hE117_4393 (⟨by decide, rfl⟩ : kx 111 46) rfl).trans ((FrX.g hE7_1 (⟨by decide, rfl⟩ : kx 111 46) rfl).trans ((up_k (by decide)).trans rfl)))).trans (by first | (first | (clear hT; omega) | omega) | exact (p_st.2.2.2).trans rfl)) (Nat.lt_succ_self _)
        · have hpb := pad_lt (g := tL T (tA T p)) (L := (n1).toNat) (k := (x117_2_4393).toNat) (by (first | (clear hT; omega) | omega)) hrl
          have hp1 := pad_one (g := tL T (tA T p)) (L := (n1).toNat) (k := (x117_2_4393).toNat) (by (first | (clear hT; omega) | omega))
          have hnx9 : (H117_4393 111 7) * 27 = e27 (tPad (tL T (tA T p)) (n1).toNat) (x117_2_4393 + 1).toNat := by rw [show (x117_2_4393 + 1).toNat = (x117_2_4393).toNat + 1 by (first | (clear hT; omega) | omega), hp1, ← i117_1_4393]
          refine g_aload_n dX7_stepWord_123 rfl ?_
          refine g_dup dX7_stepWord_124 rfl ?_
          refine x_g46_7 (z := (H117_4393 111 7)) (⟨by decide, rfl⟩ : kx 111 46) ffX7_90 dX7_stepWord_125 rfl ?_
          refine g_bipush dX7_stepWord_128 (by decide) ?_
          refine g_imul dX7_stepWord_130 ?_
          refine x_p46_7 (⟨by decide, rfl⟩ : kx 111 46) pfX7_90 dX7_stepWord_131 ?_
          have hB4889 := by_46_7 (z := ((H117_4393 111 7) * 27)) hB117_4393 (⟨by decide, rfl⟩ : kx 111 46) ⟨by have q0 := bx_46_7 (o := 111) hB117_4393 (⟨by decide, rfl⟩ : kx 111 46); (first | (clear hT; omega) | omega), by have q0 := bx_46_7 (o := 111) hB117_4393 (⟨by decide, rfl⟩ : kx 111 46); (first | (clear hT; omega) | omega)⟩
          refine g_iinc (l1 := [(2, vI (x117_2_4393 + 1)), (0, vR 111)]) dX7_stepWord_134 rfl (by decide) rfl ?_
          refine g_goto (tgt := 117) dX7_stepWord_137 (by decide) ?_
          refine g_forget (l1 := [(0, vR 111), (2, vI (x117_2_4393 + 1))]) (by intro q hq; simp only [List.mem_cons, List.not_mem_nil, or_false] at hq ⊢; rcases hq with rfl | rfl <;> simp) ?_
          exact ih117_4393 (x117_2_4393 + 1) ⟨by (first | (clear hT; omega) | omega), by (first | (clear hT; omega) | omega)⟩ _ hB4889 (FrX.s (FrX.c FrX.rf hE117_4393 rfl) (⟨by decide, rfl⟩ : kx 111 46) rfl) (by (first | (clear hT; omega) | omega)) (by first | exact (up_same).trans hnx9 | exact (up_same).trans (i7_2_1.trans (by rw [← hn1]; exact hp0.symm))) (by (first | (clear hT; omega) | omega))
      refine g_forget (l1 := [(0, vR 111), (2, vI x7_1_1)]) (by intro q hq; simp only [List.mem_cons, List.not_mem_nil, or_false] at hq ⊢; rcases hq with rfl | rfl <;> simp) ?_
      exact L117_4393 _ x7_1_1 ⟨by (first | (clear hT; omega) | omega), by (first | (clear hT; omega) | omega)⟩ _ hB7_1 FrX.rf (by (first | (clear hT; omega) | omega)) (by first | exact (rfl).trans hnx9 | exact (rfl).trans (i7_2_1.trans (by rw [← hn1]; exact hp0.symm))) (Nat.lt_succ_self _)
    refine g_if_lt (tgt := 115) dX7_stepWord_11 (by decide) ⟨by have q0 := bx_46_3 (o := 111) hB7_1 (⟨by decide, rfl⟩ : kx 111 46); (first | (clear hT; omega) | omega), by have q0 := bx_46_3 (o := 111) hB7_1 (⟨by decide, rfl⟩ : kx 111 46); (first | (clear hT; omega) | omega)⟩ (fun k4890 => by exfalso; have q0 := bx_46_3 (o := 111) hB7_1 (⟨by decide, rfl⟩ : kx 111 46); (first | (clear hT; omega) | omega)) (fun k4890 => ?_)
    refine g_aload_n dX7_stepWord_14 rfl ?_
    refine x_g46_3 (z := (H7_1 111 3)) (⟨by decide, rfl⟩ : kx 111 46) ffX7_72 dX7_stepWord_15 rfl ?_
    refine g_aload_n dX7_stepWord_18 rfl ?_
    refine x_g46_2 (z := (P 111 2)) (⟨by decide, rfl⟩ : kx 111 46) ffX7_71 dX7_stepWord_19 ((FrX.g hE7_1 (⟨by decide, rfl⟩ : kx 111 46) rfl).trans ((up_k (by decide)).trans rfl)) ?_
    have f4891 := bx_46_2 (o := 111) hB (⟨by decide, rfl⟩ : kx 111 46)
    refine g_icmp_ge (tgt := 115) dX7_stepWord_22 (by decide) ⟨by have q0 := bx_46_3 (o := 111) hB7_1 (⟨by decide, rfl⟩ : kx 111 46); (first | (clear hT; omega) | omega), by have q0 := bx_46_3 (o := 111) hB7_1 (⟨by decide, rfl⟩ : kx 111 46); (first | (clear hT; omega) | omega)⟩ ⟨by have q0 := bx_46_2 (o := 111) hB (⟨by decide, rfl⟩ : kx 111 46); (first | (clear hT; omega) | omega), by have q0 := bx_46_2 (o := 111) hB (⟨by decide, rfl⟩ : kx 111 46); (first | (clear hT; omega) | omega)⟩ (fun k4892 => ?_) (fun k4892 => ?_)
    · refine g_forget (l1 := [(0, vR 111), (1, vI x7_1_1)]) (by intro q hq; simp only [List.mem_cons, List.not_mem_nil, or_false] at hq ⊢; rcases hq with rfl | rfl <;> simp) ?_
      exact J115_4392 (i7_1_1.1.trans (rE_st (f := bL) (T := T) (p := tA T p + x7_1_1) (fun h => by have q := bL_t.mp h.2; (first | (clear hT; omega) | omega))))
    · refine g_aload_n dX7_stepWord_25 rfl ?_
      refine x_g46_1 (n := 2) (⟨by decide, rfl⟩ : kx 111 46) ffX7_41 dX7_stepWord_26 (TX.fr (F := ([(46, 3), (46, 4), (46, 7)], [])) v_TX (FrX.c (FrX.s FrX.rf (⟨by decide, rfl⟩ : kx 111 46) rfl) hE7_1 rfl) rfl) ?_
      refine g_aload_n dX7_stepWord_29 rfl ?_
      refine x_g46_3 (z := (H7_1 111 3)) (⟨by decide, rfl⟩ : kx 111 46) ffX7_72 dX7_stepWord_30 rfl ?_
      refine x_l2 (z := (P 2 (H7_1 111 3))) (⟨by decide, rfl⟩ : kx 2 2) dX7_stepWord_33 ⟨by have q0 := bx_46_3 (o := 111) hB7_1 (⟨by decide, rfl⟩ : kx 111 46); (first | (clear hT; omega) | omega), by have q0 := bx_46_3 (o := 111) hB7_1 (⟨by decide, rfl⟩ : kx 111 46); (first | (clear hT; omega) | omega)⟩ ((FrX.g hE7_1 (⟨by decide, rfl⟩ : kx 2 2) rfl).trans ((up_o (kx.ne (⟨by decide, rfl⟩ : kx 2 2) (⟨by decide, rfl⟩ : kx 111 46) rfl)).trans rfl)) ?_
      refine g_bipush dX7_stepWord_34 (by decide) ?_
      have f4893 := bx_2 (o := 2) (k := (H7_1 111 3)) hB (⟨by decide, rfl⟩ : kx 2 2)
      refine g_icmp_lt (tgt := 115) dX7_stepWord_36 (by decide) ⟨by have q0 := bx_2 (o := 2) (k := (H7_1 111 3)) hB (⟨by decide, rfl⟩ : kx 2 2); (first | (clear hT; omega) | omega), by have q0 := bx_2 (o := 2) (k := (H7_1 111 3)) hB (⟨by decide, rfl⟩ : kx 2 2); (first | (clear hT; omega) | omega)⟩ (by decide) (fun k4894 => ?_) (fun k4894 => ?_)
      · refine g_forget (l1 := [(0, vR 111), (1, vI x7_1_1)]) (by intro q hq; simp only [List.mem_cons, List.not_mem_nil, or_false] at hq ⊢; rcases hq with rfl | rfl <;> simp) ?_
        exact J115_4392 (i7_1_1.1.trans (rE_st (f := bL) (T := T) (p := tA T p + x7_1_1) (fun h => by have q := bL_t.mp h.2; (first | (clear hT; omega) | omega))))
      · refine g_aload_n dX7_stepWord_39 rfl ?_
        refine x_g46_1 (n := 2) (⟨by decide, rfl⟩ : kx 111 46) ffX7_41 dX7_stepWord_40 (TX.fr (F := ([(46, 3), (46, 4), (46, 7)], [])) v_TX (FrX.c (FrX.s FrX.rf (⟨by decide, rfl⟩ : kx 111 46) rfl) hE7_1 rfl) rfl) ?_
        refine g_aload_n dX7_stepWord_43 rfl ?_
        refine x_g46_3 (z := (H7_1 111 3)) (⟨by decide, rfl⟩ : kx 111 46) ffX7_72 dX7_stepWord_44 rfl ?_
        refine x_l2 (z := (P 2 (H7_1 111 3))) (⟨by decide, rfl⟩ : kx 2 2) dX7_stepWord_47 ⟨by have q0 := bx_46_3 (o := 111) hB7_1 (⟨by decide, rfl⟩ : kx 111 46); (first | (clear hT; omega) | omega), by have q0 := bx_46_3 (o := 111) hB7_1 (⟨by decide, rfl⟩ : kx 111 46); (first | (clear hT; omega) | omega)⟩ ((FrX.g hE7_1 (⟨by decide, rfl⟩ : kx 2 2) rfl).trans ((up_o (kx.ne (⟨by decide, rfl⟩ : kx 2 2) (⟨by decide, rfl⟩ : kx 111 46) rfl)).trans rfl)) ?_
        refine g_bipush dX7_stepWord_48 (by decide) ?_
        refine g_icmp_gt (tgt := 115) dX7_stepWord_50 (by decide) ⟨by have q0 := bx_2 (o := 2) (k := (H7_1 111 3)) hB (⟨by decide, rfl⟩ : kx 2 2); (first | (clear hT; omega) | omega), by have q0 := bx_2 (o := 2) (k := (H7_1 111 3)) hB (⟨by decide, rfl⟩ : kx 2 2); (first | (clear hT; omega) | omega)⟩ (by decide) (fun k4895 => ?_) (fun k4895 => ?_)
        · refine g_forget (l1 := [(0, vR 111), (1, vI x7_1_1)]) (by intro q hq; simp only [List.mem_cons, List.not_mem_nil, or_false] at hq ⊢; rcases hq with rfl | rfl <;> simp) ?_
          exact J115_4392 (i7_1_1.1.trans (rE_st (f := bL) (T := T) (p := tA T p + x7_1_1) (fun h => by have q := bL_t.mp h.2; (first | (clear hT; omega) | omega))))
        · have hgo := rE_go (f := bL) (T := T) (p := tA T p + x7_1_1) (by (first | (clear hT; omega) | omega)) (bL_t.mpr (by (first | (clear hT; omega) | omega)))
          have hge := rE_ge bL T (tA T p + x7_1_1 + 1)
          refine g_iload_n dX7_stepWord_53 rfl ?_
          refine g_bipush dX7_stepWord_54 (by decide) ?_
          refine g_icmp_ne (tgt := 73) dX7_stepWord_56 (by decide) ⟨by (first | (clear hT; omega) | omega), by (first | (clear hT; omega) | omega)⟩ (by decide) (fun k4896 => ?_) (fun k4896 => ?_)
          · have k4896n : x7_1_1 ≤ 5 := by (first | (clear hT; omega) | omega)
            clear k4896
            have hrl : ∀ i : Nat, i < (x7_1_1).toNat → 1 ≤ tL T (tA T p) i ∧ tL T (tA T p) i ≤ 26 := fun i hi => run_l (T := T) (a := tA T p) (b := tA T p + x7_1_1) (by (first | (clear hT; omega) | omega)) (by (first | (clear hT; omega) | omega)) (by (first | (clear hT; omega) | omega)) i (by (first | (clear hT; omega) | omega))
            have hvb := e27_lt (T := T) (a := tA T p) (n := (x7_1_1).toNat) (by (first | (clear hT; omega) | omega)) hrl
            refine g_aload_n dX7_stepWord_73 rfl ?_
            refine g_aload_n dX7_stepWord_74 rfl ?_
            refine x_g46_7 (z := (H7_1 111 7)) (⟨by decide, rfl⟩ : kx 111 46) ffX7_90 dX7_stepWord_75 rfl ?_
            refine g_bipush dX7_stepWord_78 (by decide) ?_
            refine g_imul dX7_stepWord_80 ?_
            refine g_aload_n dX7_stepWord_81 rfl ?_
            refine x_g46_1 (n := 2) (⟨by decide, rfl⟩ : kx 111 46) ffX7_41 dX7_stepWord_82 (TX.fr (F := ([(46, 3), (46, 4), (46, 7)], [])) v_TX (FrX.c (FrX.s FrX.rf (⟨by decide, rfl⟩ : kx 111 46) rfl) hE7_1 rfl) rfl) ?_
            refine g_aload_n dX7_stepWord_85 rfl ?_
            refine x_g46_3 (z := (H7_1 111 3)) (⟨by decide, rfl⟩ : kx 111 46) ffX7_72 dX7_stepWord_86 rfl ?_
            refine x_l2 (z := (P 2 (H7_1 111 3))) (⟨by decide, rfl⟩ : kx 2 2) dX7_stepWord_89 ⟨by have q0 := bx_46_3 (o := 111) hB7_1 (⟨by decide, rfl⟩ : kx 111 46); (first | (clear hT; omega) | omega), by have q0 := bx_46_3 (o := 111) hB7_1 (⟨by decide, rfl⟩ : kx 111 46); (first | (clear hT; omega) | omega)⟩ ((FrX.g hE7_1 (⟨by decide, rfl⟩ : kx 2 2) rfl).trans ((up_o (kx.ne (⟨by decide, rfl⟩ : kx 2 2) (⟨by decide, rfl⟩ : kx 111 46) rfl)).trans rfl)) ?_
            refine g_iadd dX7_stepWord_90 ?_
            refine g_bipush dX7_stepWord_91 (by decide) ?_
            refine g_isub dX7_stepWord_93 ?_
            refine g_iconst dX7_stepWord_94 ?_
            refine g_iadd dX7_stepWord_95 ?_
            have hv9 : (((((H7_1 111 7) * 27) + (P 2 (H7_1 111 3))) - 97) + 1) = e27 (tL T (tA T p)) (x7_1_1 + 1).toNat := by
              rw [show (x7_1_1 + 1).toNat = (x7_1_1).toNat + 1 by (first | (clear hT; omega) | omega)]
              exact e27_one (by (first | (clear hT; omega) | omega)) (by rw [show tA T p + ((x7_1_1).toNat : Int) = tA T p + x7_1_1 by (first | (clear hT; omega) | omega)]; (first | (clear hT; omega) | omega))
            refine x_p46_7 (⟨by decide, rfl⟩ : kx 111 46) pfX7_90 dX7_stepWord_96 ?_
            have hB4897 := by_46_7 (z := (((((H7_1 111 7) * 27) + (P 2 (H7_1 111 3))) - 97) + 1)) hB7_1 (⟨by decide, rfl⟩ : kx 111 46) ⟨by have q0 := bx_46_7 (o := 111) hB7_1 (⟨by decide, rfl⟩ : kx 111 46); have q1 := bx_2 (o := 2) (k := (H7_1 111 3)) hB (⟨by decide, rfl⟩ : kx 2 2); (first | (clear hT; omega) | omega), by have q0 := bx_46_7 (o := 111) hB7_1 (⟨by decide, rfl⟩ : kx 111 46); have q1 := bx_2 (o := 2) (k := (H7_1 111 3)) hB (⟨by decide, rfl⟩ : kx 2 2); (first | (clear hT; omega) | omega)⟩
            refine g_iinc (l1 := [(1, vI (x7_1_1 + 1)), (0, vR 111)]) dX7_stepWord_99 rfl (by decide) rfl ?_
            refine g_aload_n dX7_stepWord_102 rfl ?_
            refine g_dup dX7_stepWord_103 rfl ?_
            refine x_g46_3 (z := (H7_1 111 3)) (⟨by decide, rfl⟩ : kx 111 46) ffX7_72 dX7_stepWord_104 ((up_k (by decide)).trans rfl) ?_
            refine g_iconst dX7_stepWord_107 ?_
            refine g_iadd dX7_stepWord_108 ?_
            refine x_p46_3 (⟨by decide, rfl⟩ : kx 111 46) pfX7_72 dX7_stepWord_109 ?_
            have hB4898 := by_46_3 (z := ((H7_1 111 3) + 1)) hB4897 (⟨by decide, rfl⟩ : kx 111 46) ⟨by have q0 := bx_46_3 (o := 111) hB7_1 (⟨by decide, rfl⟩ : kx 111 46); (first | (clear hT; omega) | omega), by have q0 := bx_46_3 (o := 111) hB7_1 (⟨by decide, rfl⟩ : kx 111 46); (first | (clear hT; omega) | omega)⟩
            refine g_goto (tgt := 7) dX7_stepWord_112 (by decide) ?_
            refine g_forget (l1 := [(0, vR 111), (1, vI (x7_1_1 + 1))]) (by intro q hq; simp only [List.mem_cons, List.not_mem_nil, or_false] at hq ⊢; rcases hq with rfl | rfl <;> simp) ?_
            exact ih7_1 (x7_1_1 + 1) ⟨by (first | (clear hT; omega) | omega), by (first | (clear hT; omega) | omega)⟩ _ hB4898 (FrX.s (FrX.s (FrX.c FrX.rf hE7_1 rfl) (⟨by decide, rfl⟩ : kx 111 46) rfl) (⟨by decide, rfl⟩ : kx 111 46) rfl) (by have q0 := (up_same : (up (up H7_1 111 7 (((((H7_1 111 7) * 27) + (P 2 (H7_1 111 3))) - 97) + 1)) 111 3 ((H7_1 111 3) + 1)) 111 3 = ((H7_1 111 3) + 1)); have q1 := bx_46_3 (o := 111) hB7_1 (⟨by decide, rfl⟩ : kx 111 46); (first | (clear hT; omega) | omega)) (by first | (rw [Int.add_zero]; exact ⟨rfl, rE_ge _ _ _⟩) | (rw [show ∀ z : Int, tA T p + (z + 1) = tA T p + z + 1 from fun z => by (first | (clear hT; omega) | omega)]; (first | (clear hT; omega) | omega))) (by first | (have q7 := (((up_k (by decide)).trans up_same) : (up (up H7_1 111 7 (((((H7_1 111 7) * 27) + (P 2 (H7_1 111 3))) - 97) + 1)) 111 3 ((H7_1 111 3) + 1)) 111 7 = (((((H7_1 111 7) * 27) + (P 2 (H7_1 111 3))) - 97) + 1)); (first | (clear hT; omega) | omega)) | exact (((up_k (by decide)).trans up_same)).trans (p_st.2.2.1.trans rfl)) (by have q0 := (up_same : (up (up H7_1 111 7 (((((H7_1 111 7) * 27) + (P 2 (H7_1 111 3))) - 97) + 1)) 111 3 ((H7_1 111 3) + 1)) 111 3 = ((H7_1 111 3) + 1)); have q1 := bx_46_3 (o := 111) hB7_1 (⟨by decide, rfl⟩ : kx 111 46); (first | (clear hT; omega) | omega))
          · refine g_aload_n dX7_stepWord_59 rfl ?_
            refine g_iconst dX7_stepWord_60 ?_
            refine x_p46_4 (⟨by decide, rfl⟩ : kx 111 46) pfX7_75 dX7_stepWord_61 ?_
            have hB4899 := by_46_4 (z := 4) hB7_1 (⟨by decide, rfl⟩ : kx 111 46) (by decide)
            refine g_aload_n dX7_stepWord_64 rfl ?_
            refine g_aload_n dX7_stepWord_65 rfl ?_
            refine x_g46_3 (z := (H7_1 111 3)) (⟨by decide, rfl⟩ : kx 111 46) ffX7_72 dX7_stepWord_66 ((up_k (by decide)).trans rfl) ?_
            refine x_p46_6 (⟨by decide, rfl⟩ : kx 111 46) pfX7_84 dX7_stepWord_69 ?_
            have hB4900 := by_46_6 (z := (H7_1 111 3)) hB4899 (⟨by decide, rfl⟩ : kx 111 46) ⟨by have q0 := bx_46_3 (o := 111) hB7_1 (⟨by decide, rfl⟩ : kx 111 46); (first | (clear hT; omega) | omega), by have q0 := bx_46_3 (o := 111) hB7_1 (⟨by decide, rfl⟩ : kx 111 46); (first | (clear hT; omega) | omega)⟩
            exact g_retV dX7_stepWord_72 rfl (hQ _ hB4900 (FrX.s (FrX.s (FrX.c (FrX.s FrX.rf (⟨by decide, rfl⟩ : kx 111 46) rfl) hE7_1 rfl) (⟨by decide, rfl⟩ : kx 111 46) rfl) (⟨by decide, rfl⟩ : kx 111 46) rfl) (by have q3 := (((up_k (by decide)).trans ((up_k (by decide)).trans rfl)) : (up (up H7_1 111 4 4) 111 6 (H7_1 111 3)) 111 3 = (H7_1 111 3)); have q4 := (((up_k (by decide)).trans up_same) : (up (up H7_1 111 4 4) 111 6 (H7_1 111 3)) 111 4 = 4); have q5 := (((up_k (by decide)).trans ((up_k (by decide)).trans ((FrX.g hE7_1 (⟨by decide, rfl⟩ : kx 111 46) rfl).trans ((up_k (by decide)).trans rfl)))) : (up (up H7_1 111 4 4) 111 6 (H7_1 111 3)) 111 5 = (P 111 5)); have q6 := (up_same : (up (up H7_1 111 4 4) 111 6 (H7_1 111 3)) 111 6 = (H7_1 111 3)); have q7 := (((up_k (by decide)).trans ((up_k (by decide)).trans rfl)) : (up (up H7_1 111 4 4) 111 6 (H7_1 111 3)) 111 7 = (H7_1 111 7)); have q8 := (((up_k (by decide)).trans ((up_k (by decide)).trans ((FrX.g hE7_1 (⟨by decide, rfl⟩ : kx 111 46) rfl).trans ((up_k (by decide)).trans rfl)))) : (up (up H7_1 111 4 4) 111 6 (H7_1 111 3)) 111 8 = (P 111 8)); exact XS.wob ⟨by (first | (clear hT; omega) | omega), by (first | (clear hT; omega) | omega)⟩ (by (first | (clear hT; omega) | omega)) (by (first | (clear hT; omega) | omega)) (by (first | (clear hT; omega) | omega)) (by (first | (clear hT; omega) | omega)) (by (first | (clear hT; omega) | omega)) (by (first | (clear hT; omega) | omega)) (by (first | (clear hT; omega) | omega)) (by (first | (clear hT; omega) | omega))))
  refine g_forget (l1 := [(0, vR 111), (1, vI 0)]) (by intro q hq; simp only [List.mem_cons, List.not_mem_nil, or_false] at hq ⊢; rcases hq with rfl | rfl <;> simp) ?_
  exact L7_1 _ 0 (by decide) _ hB1 FrX.rf (by have q0 := (((up_k (by decide)).trans rfl) : (up P 111 4 1) 111 3 = (P 111 3)); have q1 := bx_46_3 (o := 111) hB (⟨by decide, rfl⟩ : kx 111 46); omega) (by first | (rw [Int.add_zero]; exact ⟨rfl, rE_ge _ _ _⟩) | (rw [show ∀ z : Int, tA T p + (z + 1) = tA T p + z + 1 from fun z => by omega]; omega)) (by first | (have q7 := (((up_k (by decide)).trans rfl) : (up P 111 4 1) 111 7 = (P 111 7)); omega) | exact (((up_k (by decide)).trans rfl)).trans (p_st.2.2.1.trans rfl)) (Nat.lt_succ_self _)
