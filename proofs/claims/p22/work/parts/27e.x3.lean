section
/-! Contracts of the class: x3. -/
set_option maxRecDepth 100000 in
set_option maxHeartbeats 4000000 in
theorem m_X10_allColumns (G : GT) (P : PH) (hB : BdX P) (Q : Option PV → PH → Prop) (hQ : ∀ (r : Int) (_ : (-2147483648) ≤ r ∧ r ≤ 2147483647), Q (some (vI r)) P) : Ct WSX G 1 iX10_allColumns [vR 125] P Q := by
  refine Ct.of (by decide) (l0 := [(0, vR 125)]) rfl (Nat.le_of_ble_eq_true rfl) ?_
  refine g_iconst dX10_allColumns_0 ?_
  refine g_aload_n dX10_allColumns_1 rfl ?_
  refine x_g51_13 (n := (P 125 13).toNat) (⟨by decide, rfl⟩ : kx 125 51) ffX10_29 dX10_allColumns_2 (br_125_13 hB) ?_
  refine x_g28_6 (z := (P (P 125 13).toNat 6)) (bk_125_13 hB) ffX10_44 dX10_allColumns_5 rfl ?_
  refine g_ishl dX10_allColumns_8 ?_
  refine g_nm (fun b1 e_b1 => ?_)
  have h_b1 : 1 ≤ (ishl 1 (P (P 125 13).toNat 6)) ∧ (ishl 1 (P (P 125 13).toNat 6)) ≤ 16 := (ishl1 4 (by decide) (y := (P (P 125 13).toNat 6)) ⟨by have q0 := bx_28_6 (o := (P 125 13).toNat) hB (bk_125_13 hB); omega, by have q0 := bx_28_6 (o := (P 125 13).toNat) hB (bk_125_13 hB); omega⟩).2
  rw [← e_b1] at h_b1
  refine g_iconst dX10_allColumns_9 ?_
  refine g_isub dX10_allColumns_10 ?_
  exact g_retI dX10_allColumns_11 rfl (hQ (b1 - 1) ⟨by omega, by omega⟩ )
set_option maxRecDepth 100000 in
set_option maxHeartbeats 4000000 in
theorem m_X10_nodesIn (G : GT) (P : PH) (a1 : Int) (h_a1 : (-9223372036854775808) ≤ a1 ∧ a1 ≤ 9223372036854775807) (hB : BdX P) (Q : Option PV → PH → Prop) (hQ : ∀ (r : Int) (_ : (-2147483648) ≤ r ∧ r ≤ 2147483647), Q (some (vI r)) P) : Ct WSX G 1 iX10_nodesIn [vL a1] P Q := by
  refine Ct.of (by decide) (l0 := [(0, vL a1)]) rfl (Nat.le_of_ble_eq_true rfl) ?_
  refine g_lload_n dX10_nodesIn_0 rfl ?_
  refine g_ldc2 (z := 1048575) dX10_nodesIn_1 t_1137 (by decide) ?_
  refine g_land dX10_nodesIn_4 ?_
  refine g_nm (fun b1 e_b1 => ?_)
  have h_b1 := lland_r (x := a1) (y := 1048575) ⟨by omega, by omega⟩
  rw [← e_b1] at h_b1
  refine g_l2i dX10_nodesIn_5 ?_
  exact g_retI dX10_nodesIn_6 rfl (hQ b1 ⟨by omega, by omega⟩ )
set_option maxRecDepth 100000 in
set_option maxHeartbeats 4000000 in
theorem m_X10_testsIn (G : GT) (P : PH) (a1 : Int) (h_a1 : (-9223372036854775808) ≤ a1 ∧ a1 ≤ 9223372036854775807) (hB : BdX P) (Q : Option PV → PH → Prop) (hQ : ∀ (r : Int) (_ : (-2147483648) ≤ r ∧ r ≤ 2147483647), Q (some (vI r)) P) : Ct WSX G 1 iX10_testsIn [vL a1] P Q := by
  refine Ct.of (by decide) (l0 := [(0, vL a1)]) rfl (Nat.le_of_ble_eq_true rfl) ?_
  refine g_lload_n dX10_testsIn_0 rfl ?_
  refine g_bipush dX10_testsIn_1 (by decide) ?_
  refine g_lushr dX10_testsIn_3 ?_
  refine g_nm (fun b1 e_b1 => ?_)
  have h_b1 := llushr_ir a1 20
  rw [← e_b1] at h_b1
  refine g_ldc2 (z := 131071) dX10_testsIn_4 t_1141 (by decide) ?_
  refine g_land dX10_testsIn_7 ?_
  refine g_nm (fun b2 e_b2 => ?_)
  have h_b2 := lland_r (x := b1) (y := 131071) ⟨by omega, by omega⟩
  rw [← e_b2] at h_b2
  refine g_l2i dX10_testsIn_8 ?_
  exact g_retI dX10_testsIn_9 rfl (hQ b2 ⟨by omega, by omega⟩ )
set_option maxRecDepth 100000 in
set_option maxHeartbeats 4000000 in
theorem m_X10_longestIn (G : GT) (P : PH) (a1 : Int) (h_a1 : (-9223372036854775808) ≤ a1 ∧ a1 ≤ 9223372036854775807) (hB : BdX P) (Q : Option PV → PH → Prop) (hQ : ∀ (r : Int) (_ : (-2147483648) ≤ r ∧ r ≤ 2147483647), Q (some (vI r)) P) : Ct WSX G 1 iX10_longestIn [vL a1] P Q := by
  refine Ct.of (by decide) (l0 := [(0, vL a1)]) rfl (Nat.le_of_ble_eq_true rfl) ?_
  refine g_lload_n dX10_longestIn_0 rfl ?_
  refine g_bipush dX10_longestIn_1 (by decide) ?_
  refine g_lushr dX10_longestIn_3 ?_
  refine g_nm (fun b1 e_b1 => ?_)
  have h_b1 := llushr_ir a1 37
  rw [← e_b1] at h_b1
  refine g_ldc2 (z := 7) dX10_longestIn_4 t_1145 (by decide) ?_
  refine g_land dX10_longestIn_7 ?_
  refine g_nm (fun b2 e_b2 => ?_)
  have h_b2 := lland_r (x := b1) (y := 7) ⟨by omega, by omega⟩
  rw [← e_b2] at h_b2
  refine g_l2i dX10_longestIn_8 ?_
  exact g_retI dX10_longestIn_9 rfl (hQ b2 ⟨by omega, by omega⟩ )
set_option maxRecDepth 100000 in
set_option maxHeartbeats 4000000 in
theorem m_X10_setTable (G : GT) (P : PH) (o1 : Nat) (k_o1 : kx o1 28) (hB : BdX P) (Q : Option PV → PH → Prop) (hQ : ∀ (P1 : PH) (_ : BdX P1) (_ : FrX ([(5, 2), (11, 3), (51, 13)], [6, 7, 12, 13]) P P1), Q none P1) : Ct WSX G 3 iX10_setTable [vR 125, vR o1] P Q := by
  refine Ct.of (by decide) (l0 := [(0, vR 125), (1, vR o1)]) rfl (Nat.le_of_ble_eq_true rfl) ?_
  refine g_aload_n dX10_setTable_0 rfl ?_
  refine g_aload_n dX10_setTable_1 rfl ?_
  refine x_p51_13 (⟨by decide, rfl⟩ : kx 125 51) pfX10_29 dX10_setTable_2 ?_
  have hB1 := bw_125_13 (x := o1) hB k_o1
  refine g_iconst dX10_setTable_5 ?_
  refine g_istore_n (l1 := [(2, vI 0), (0, vR 125), (1, vR o1)]) dX10_setTable_6 (by decide) rfl ?_
  have L7_1 : ∀ (n7_1 : Nat) (x7_2_1 : Int) (h_x7_2_1 : 0 ≤ x7_2_1 ∧ x7_2_1 ≤ 4) (H7_1 : PH) (hB7_1 : BdX H7_1) (hE7_1 : FrX ([(5, 2), (11, 3)], [6, 7, 12, 13]) (up P 125 13 ((o1 : Nat) : Int)) H7_1) (hm7_1 : ((5 - x7_2_1) : Int).toNat < n7_1), Go WSX G 3 iX10_setTable 7 [(0, vR 125), (2, vI x7_2_1)] [] H7_1 Q := by
    intro n7_1
    induction n7_1 with
    | zero => intro x7_2_1 h_x7_2_1 H7_1 hB7_1 hE7_1 hm7_1; exact absurd hm7_1 (Nat.not_lt_zero _)
    | succ n7_1 ih7_1 =>
    intro x7_2_1 h_x7_2_1 H7_1 hB7_1 hE7_1 hm7_1
    refine g_iload_n dX10_setTable_7 rfl ?_
    refine g_aload_n dX10_setTable_8 rfl ?_
    refine x_g51_13 (n := o1) (⟨by decide, rfl⟩ : kx 125 51) ffX10_29 dX10_setTable_9 ((FrX.g hE7_1 (⟨by decide, rfl⟩ : kx 125 51) rfl).trans up_same) ?_
    refine x_g28_6 (z := (P o1 6)) k_o1 ffX10_44 dX10_setTable_12 ((FrX.g hE7_1 k_o1 rfl).trans ((up_o (kx.ne k_o1 (⟨by decide, rfl⟩ : kx 125 51) rfl)).trans rfl)) ?_
    have f710 := bx_28_6 (o := o1) hB k_o1
    refine g_icmp_ge (tgt := 78) dX10_setTable_15 (by decide) ⟨by omega, by omega⟩ ⟨by have q0 := bx_28_6 (o := o1) hB k_o1; omega, by have q0 := bx_28_6 (o := o1) hB k_o1; omega⟩ (fun k711 => ?_) (fun k711 => ?_)
    · exact g_retV dX10_setTable_78 rfl (hQ _ hB7_1 (FrX.c (FrX.s FrX.rf (⟨by decide, rfl⟩ : kx 125 51) rfl) hE7_1 rfl) )
    · refine g_iload_n dX10_setTable_18 rfl ?_
      refine g_iconst dX10_setTable_19 ?_
      refine g_icmp_ge (tgt := 78) dX10_setTable_20 (by decide) ⟨by omega, by omega⟩ (by decide) (fun k712 => by exfalso; omega) (fun k712 => ?_)
      refine g_aload_n dX10_setTable_23 rfl ?_
      refine x_g51_0 (n := 126) (⟨by decide, rfl⟩ : kx 125 51) ffX10_11 dX10_setTable_24 rfl ?_
      refine g_iload_n dX10_setTable_27 rfl ?_
      refine x_l52 (n := (crX 126 x7_2_1.toNat)) (⟨by decide, rfl⟩ : kx 126 52) dX10_setTable_28 ⟨by omega, by omega⟩ rfl ?_
      have kk713 := (ce_52 (j := x7_2_1.toNat) (⟨by decide, rfl⟩ : kx 126 52) (by omega))
      refine g_vV (av := []) (o := (crX 126 x7_2_1.toNat)) (st := []) (m_X2_begin_G2 G H7_1 (crX 126 x7_2_1.toNat) kk713 hB7_1  _ (fun Pc714 hBc714 hFc714 => ⟨rfl, ?_⟩)) cf_X2_begin t_869 rfl (show kx (crX 126 x7_2_1.toNat) 11 from kk713).1 ((show kx (crX 126 x7_2_1.toNat) 11 from kk713).sh rfl) rfl rfl (Nat.le_of_ble_eq_true rfl) (by decide) rfl dX10_setTable_29
      refine g_iconst dX10_setTable_32 ?_
      refine g_istore_n (l1 := [(3, vI 0), (0, vR 125), (2, vI x7_2_1)]) dX10_setTable_33 (by decide) rfl ?_
      have L34_714 : ∀ (n34_714 : Nat) (x34_3_714 : Int) (h_x34_3_714 : 0 ≤ x34_3_714 ∧ x34_3_714 ≤ 2048) (H34_714 : PH) (hB34_714 : BdX H34_714) (hE34_714 : FrX ([(11, 3)], [6, 7, 12, 13]) Pc714 H34_714) (hm34_714 : ((2049 - x34_3_714) : Int).toNat < n34_714), Go WSX G 3 iX10_setTable 34 [(0, vR 125), (2, vI x7_2_1), (3, vI x34_3_714)] [] H34_714 Q := by
        intro n34_714
        induction n34_714 with
        | zero => intro x34_3_714 h_x34_3_714 H34_714 hB34_714 hE34_714 hm34_714; exact absurd hm34_714 (Nat.not_lt_zero _)
        | succ n34_714 ih34_714 =>
        intro x34_3_714 h_x34_3_714 H34_714 hB34_714 hE34_714 hm34_714
        refine g_iload_n dX10_setTable_34 rfl ?_
        refine g_aload_n dX10_setTable_35 rfl ?_
        refine x_g51_13 (n := o1) (⟨by decide, rfl⟩ : kx 125 51) ffX10_29 dX10_setTable_36 ((FrX.g hE34_714 (⟨by decide, rfl⟩ : kx 125 51) rfl).trans ((FrX.g hFc714 (⟨by decide, rfl⟩ : kx 125 51) rfl).trans ((FrX.g hE7_1 (⟨by decide, rfl⟩ : kx 125 51) rfl).trans up_same))) ?_
        refine x_g28_2 (n := (crX o1 2)) k_o1 ffX10_53 dX10_setTable_39 rfl ?_
        refine g_iload_n dX10_setTable_42 rfl ?_
        refine x_l40 (z := (P (crX o1 2) x7_2_1)) (ck_28_2 k_o1) dX10_setTable_43 ⟨by omega, by omega⟩ ((FrX.g hE34_714 (ck_28_2 k_o1) rfl).trans ((FrX.g hFc714 (ck_28_2 k_o1) rfl).trans ((FrX.g hE7_1 (ck_28_2 k_o1) rfl).trans ((up_o (kx.ne (ck_28_2 k_o1) (⟨by decide, rfl⟩ : kx 125 51) rfl)).trans rfl)))) ?_
        have f806 := bx_40 (o := (crX o1 2)) (k := x7_2_1) hB (ck_28_2 k_o1)
        refine g_icmp_ge (tgt := 72) dX10_setTable_44 (by decide) ⟨by omega, by omega⟩ ⟨by have q0 := bx_40 (o := (crX o1 2)) (k := x7_2_1) hB (ck_28_2 k_o1); omega, by have q0 := bx_40 (o := (crX o1 2)) (k := x7_2_1) hB (ck_28_2 k_o1); omega⟩ (fun k807 => ?_) (fun k807 => ?_)
        · refine g_iinc (l1 := [(2, vI (x7_2_1 + 1)), (0, vR 125), (3, vI x34_3_714)]) dX10_setTable_72 rfl (by decide) rfl ?_
          refine g_goto (tgt := 7) dX10_setTable_75 (by decide) ?_
          refine g_forget (l1 := [(0, vR 125), (2, vI (x7_2_1 + 1))]) (by intro q hq; simp only [List.mem_cons, List.not_mem_nil, or_false] at hq ⊢; rcases hq with rfl | rfl <;> simp) ?_
          exact ih7_1 (x7_2_1 + 1) ⟨by omega, by omega⟩ _ hB34_714 (FrX.c (FrX.c (FrX.c FrX.rf hE7_1 rfl) hFc714 rfl) hE34_714 rfl) (by omega)
        · refine g_aload_n dX10_setTable_47 rfl ?_
          refine x_g51_0 (n := 126) (⟨by decide, rfl⟩ : kx 125 51) ffX10_11 dX10_setTable_48 rfl ?_
          refine g_iload_n dX10_setTable_51 rfl ?_
          refine x_l52 (n := (crX 126 x7_2_1.toNat)) (⟨by decide, rfl⟩ : kx 126 52) dX10_setTable_52 ⟨by omega, by omega⟩ rfl ?_
          have kk808 := (ce_52 (j := x7_2_1.toNat) (⟨by decide, rfl⟩ : kx 126 52) (by omega))
          refine g_aload_n dX10_setTable_53 rfl ?_
          refine x_g51_13 (n := o1) (⟨by decide, rfl⟩ : kx 125 51) ffX10_29 dX10_setTable_54 ((FrX.g hE34_714 (⟨by decide, rfl⟩ : kx 125 51) rfl).trans ((FrX.g hFc714 (⟨by decide, rfl⟩ : kx 125 51) rfl).trans ((FrX.g hE7_1 (⟨by decide, rfl⟩ : kx 125 51) rfl).trans up_same))) ?_
          refine g_iload_n dX10_setTable_57 rfl ?_
          refine g_iload_n dX10_setTable_58 rfl ?_
          refine g_vI (av := [vI x7_2_1, vI x34_3_714]) (o := o1) (st := [vR (crX 126 x7_2_1.toNat)]) (m_X9_armsFitting G H34_714 o1 x7_2_1 x34_3_714 k_o1 ⟨by omega, by omega⟩ ⟨by omega, by omega⟩ hB34_714  _ (fun rc809 hc809 => ⟨rc809, rfl, ?_⟩)) cf_X9_armsFitting t_877 rfl (show kx o1 28 from k_o1).1 ((show kx o1 28 from k_o1).sh rfl) rfl rfl (Nat.le_of_ble_eq_true rfl) (by decide) rfl dX10_setTable_59
          refine g_iconst dX10_setTable_62 ?_
          refine g_vV (av := [vI rc809, vI 1]) (o := (crX 126 x7_2_1.toNat)) (st := []) (m_X2_add_G2 G H34_714 (crX 126 x7_2_1.toNat) rc809 1 kk808 ⟨by omega, by omega⟩ (by decide) hB34_714  _ (fun Pc810 hBc810 hFc810 => ⟨rfl, ?_⟩)) cf_X2_add t_881 rfl (show kx (crX 126 x7_2_1.toNat) 11 from kk808).1 ((show kx (crX 126 x7_2_1.toNat) 11 from kk808).sh rfl) rfl rfl (Nat.le_of_ble_eq_true rfl) (by decide) rfl dX10_setTable_63
          refine g_iinc (l1 := [(3, vI (x34_3_714 + 1)), (0, vR 125), (2, vI x7_2_1)]) dX10_setTable_66 rfl (by decide) rfl ?_
          refine g_goto (tgt := 34) dX10_setTable_69 (by decide) ?_
          refine g_forget (l1 := [(0, vR 125), (2, vI x7_2_1), (3, vI (x34_3_714 + 1))]) (by intro q hq; simp only [List.mem_cons, List.not_mem_nil, or_false] at hq ⊢; rcases hq with rfl | rfl | rfl <;> simp) ?_
          exact ih34_714 (x34_3_714 + 1) ⟨by omega, by omega⟩ _ hBc810 (FrX.c (FrX.c FrX.rf hE34_714 rfl) hFc810 rfl) (by omega)
      refine g_forget (l1 := [(0, vR 125), (2, vI x7_2_1), (3, vI 0)]) (by intro q hq; simp only [List.mem_cons, List.not_mem_nil, or_false] at hq ⊢; rcases hq with rfl | rfl | rfl <;> simp) ?_
      exact L34_714 _ 0 (by decide) _ hBc714 FrX.rf (Nat.lt_succ_self _)
  refine g_forget (l1 := [(0, vR 125), (2, vI 0)]) (by intro q hq; simp only [List.mem_cons, List.not_mem_nil, or_false] at hq ⊢; rcases hq with rfl | rfl <;> simp) ?_
  exact L7_1 _ 0 (by decide) _ hB1 FrX.rf (Nat.lt_succ_self _)
set_option maxRecDepth 100000 in
set_option maxHeartbeats 4000000 in
theorem m_X10_notFullInRow (G : GT) (P : PH) (a1 : Int) (a2 : Int) (h_a1 : (-2147483648) ≤ a1 ∧ a1 ≤ 2147483647) (h_a2 : 0 ≤ a2 ∧ a2 ≤ 3) (hB : BdX P) (Q : Option PV → PH → Prop) (hQ : ∀ (r : Int) (_ : (-2147483648) ≤ r ∧ r ≤ 2147483647), Q (some (vI r)) P) : Ct WSX G 2 iX10_notFullInRow [vR 125, vI a1, vI a2] P Q := by
  refine Ct.of (by decide) (l0 := [(0, vR 125), (1, vI a1), (2, vI a2)]) rfl (Nat.le_of_ble_eq_true rfl) ?_
  refine g_iconst dX10_notFullInRow_0 ?_
  refine g_istore_n (l1 := [(3, vI 0), (0, vR 125), (1, vI a1), (2, vI a2)]) dX10_notFullInRow_1 (by decide) rfl ?_
  refine g_iconst dX10_notFullInRow_2 ?_
  refine g_istore (l1 := [(4, vI 0), (3, vI 0), (0, vR 125), (1, vI a1), (2, vI a2)]) dX10_notFullInRow_3 (by decide) rfl ?_
  have L5_0 : ∀ (n5_0 : Nat) (x5_4_0 : Int) (h_x5_4_0 : 0 ≤ x5_4_0 ∧ x5_4_0 ≤ 12) (x5_3_0 : Int) (h_x5_3_0 : 0 ≤ x5_3_0 ∧ x5_3_0 ≤ 12) (i5_0_0 : x5_3_0 ≤ x5_4_0) (hm5_0 : ((13 - x5_4_0) : Int).toNat < n5_0), Go WSX G 2 iX10_notFullInRow 5 [(0, vR 125), (1, vI a1), (2, vI a2), (3, vI x5_3_0), (4, vI x5_4_0)] [] P Q := by
    intro n5_0
    induction n5_0 with
    | zero => intro x5_4_0 h_x5_4_0 x5_3_0 h_x5_3_0 i5_0_0 hm5_0; exact absurd hm5_0 (Nat.not_lt_zero _)
    | succ n5_0 ih5_0 =>
    intro x5_4_0 h_x5_4_0 x5_3_0 h_x5_3_0 i5_0_0 hm5_0
    refine g_iload dX10_notFullInRow_5 rfl ?_
    refine g_aload_n dX10_notFullInRow_7 rfl ?_
    refine x_g51_14 (n := (P 125 14).toNat) (⟨by decide, rfl⟩ : kx 125 51) ffX10_33 dX10_notFullInRow_8 (br_125_14 hB) ?_
    refine x_g14_1 (z := (P (P 125 14).toNat 1)) (bk_125_14 hB) ffX10_92 dX10_notFullInRow_11 rfl ?_
    have f74 := bx_14_1 (o := (P 125 14).toNat) hB (bk_125_14 hB)
    refine g_icmp_ge (tgt := 66) dX10_notFullInRow_14 (by decide) ⟨by omega, by omega⟩ ⟨by have q0 := bx_14_1 (o := (P 125 14).toNat) hB (bk_125_14 hB); omega, by have q0 := bx_14_1 (o := (P 125 14).toNat) hB (bk_125_14 hB); omega⟩ (fun k75 => ?_) (fun k75 => ?_)
    · refine g_iload_n dX10_notFullInRow_66 rfl ?_
      exact g_retI dX10_notFullInRow_67 rfl (hQ x5_3_0 ⟨by omega, by omega⟩ )
    · refine g_aload_n dX10_notFullInRow_17 rfl ?_
      refine x_g51_14 (n := (P 125 14).toNat) (⟨by decide, rfl⟩ : kx 125 51) ffX10_33 dX10_notFullInRow_18 (br_125_14 hB) ?_
      refine x_g14_0 (n := (crX (P 125 14).toNat 0)) (bk_125_14 hB) ffX10_95 dX10_notFullInRow_21 rfl ?_
      refine g_iload dX10_notFullInRow_24 rfl ?_
      refine x_l15 (z := (P (crX (P 125 14).toNat 0) x5_4_0)) (ck_14_0 (bk_125_14 hB)) dX10_notFullInRow_26 ⟨by omega, by omega⟩ rfl ?_
      refine g_istore (l1 := [(5, vI (P (crX (P 125 14).toNat 0) x5_4_0)), (0, vR 125), (1, vI a1), (2, vI a2), (3, vI x5_3_0), (4, vI x5_4_0)]) dX10_notFullInRow_27 (by decide) rfl ?_
      refine g_iload_n dX10_notFullInRow_29 rfl ?_
      refine g_iload dX10_notFullInRow_30 rfl ?_
      have f76 := bx_15 (o := (crX (P 125 14).toNat 0)) (k := x5_4_0) hB (ck_14_0 (bk_125_14 hB))
      refine g_nI (av := [vI a1, vI (P (crX (P 125 14).toNat 0) x5_4_0)]) (st := []) (m_X11_isIn G P a1 (P (crX (P 125 14).toNat 0) x5_4_0) ⟨by omega, by omega⟩ ⟨by have q0 := bx_15 (o := (crX (P 125 14).toNat 0)) (k := x5_4_0) hB (ck_14_0 (bk_125_14 hB)); omega, by have q0 := bx_15 (o := (crX (P 125 14).toNat 0)) (k := x5_4_0) hB (ck_14_0 (bk_125_14 hB)); omega⟩ hB  _ (fun rc77 hc77 => ⟨rc77, rfl, ?_⟩)) cf_X11_isIn (fun U h => h.2.2) rfl (Nat.le_of_ble_eq_true rfl) (by decide) rfl dX10_notFullInRow_32
      refine g_if_eq (tgt := 60) dX10_notFullInRow_35 (by decide) ⟨by omega, by omega⟩ (fun k78 => ?_) (fun k78 => ?_)
      · refine g_iinc (l1 := [(4, vI (x5_4_0 + 1)), (5, vI (P (crX (P 125 14).toNat 0) x5_4_0)), (0, vR 125), (1, vI a1), (2, vI a2), (3, vI x5_3_0)]) dX10_notFullInRow_60 rfl (by decide) rfl ?_
        refine g_goto (tgt := 5) dX10_notFullInRow_63 (by decide) ?_
        refine g_forget (l1 := [(0, vR 125), (1, vI a1), (2, vI a2), (3, vI x5_3_0), (4, vI (x5_4_0 + 1))]) (by intro q hq; simp only [List.mem_cons, List.not_mem_nil, or_false] at hq ⊢; rcases hq with rfl | rfl | rfl | rfl | rfl <;> simp) ?_
        exact ih5_0 (x5_4_0 + 1) ⟨by omega, by omega⟩ x5_3_0 ⟨by omega, by omega⟩ (by omega) (by omega)
      · refine g_aload_n dX10_notFullInRow_38 rfl ?_
        refine x_g51_13 (n := (P 125 13).toNat) (⟨by decide, rfl⟩ : kx 125 51) ffX10_29 dX10_notFullInRow_39 (br_125_13 hB) ?_
        refine x_g28_3 (n := (crX (P 125 13).toNat 3)) (bk_125_13 hB) ffX10_74 dX10_notFullInRow_42 rfl ?_
        refine g_iload_n dX10_notFullInRow_45 rfl ?_
        refine x_l41 (z := (P (crX (P 125 13).toNat 3) a2)) (ck_28_3 (bk_125_13 hB)) dX10_notFullInRow_46 ⟨by omega, by omega⟩ rfl ?_
        refine g_iload dX10_notFullInRow_47 rfl ?_
        have f79 := bx_41 (o := (crX (P 125 13).toNat 3)) (k := a2) hB (ck_28_3 (bk_125_13 hB))
        refine g_nI (av := [vI (P (crX (P 125 13).toNat 3) a2), vI (P (crX (P 125 14).toNat 0) x5_4_0)]) (st := []) (m_X11_isIn G P (P (crX (P 125 13).toNat 3) a2) (P (crX (P 125 14).toNat 0) x5_4_0) ⟨by have q0 := bx_41 (o := (crX (P 125 13).toNat 3)) (k := a2) hB (ck_28_3 (bk_125_13 hB)); omega, by have q0 := bx_41 (o := (crX (P 125 13).toNat 3)) (k := a2) hB (ck_28_3 (bk_125_13 hB)); omega⟩ ⟨by have q0 := bx_15 (o := (crX (P 125 14).toNat 0)) (k := x5_4_0) hB (ck_14_0 (bk_125_14 hB)); omega, by have q0 := bx_15 (o := (crX (P 125 14).toNat 0)) (k := x5_4_0) hB (ck_14_0 (bk_125_14 hB)); omega⟩ hB  _ (fun rc80 hc80 => ⟨rc80, rfl, ?_⟩)) cf_X11_isIn (fun U h => h.2.2) rfl (Nat.le_of_ble_eq_true rfl) (by decide) rfl dX10_notFullInRow_49
        refine g_if_eq (tgt := 57) dX10_notFullInRow_52 (by decide) ⟨by omega, by omega⟩ (fun k81 => ?_) (fun k81 => ?_)
        · refine g_iinc (l1 := [(3, vI (x5_3_0 + 1)), (5, vI (P (crX (P 125 14).toNat 0) x5_4_0)), (0, vR 125), (1, vI a1), (2, vI a2), (4, vI x5_4_0)]) dX10_notFullInRow_57 rfl (by decide) rfl ?_
          refine g_iinc (l1 := [(4, vI (x5_4_0 + 1)), (3, vI (x5_3_0 + 1)), (5, vI (P (crX (P 125 14).toNat 0) x5_4_0)), (0, vR 125), (1, vI a1), (2, vI a2)]) dX10_notFullInRow_60 rfl (by decide) rfl ?_
          refine g_goto (tgt := 5) dX10_notFullInRow_63 (by decide) ?_
          refine g_forget (l1 := [(0, vR 125), (1, vI a1), (2, vI a2), (3, vI (x5_3_0 + 1)), (4, vI (x5_4_0 + 1))]) (by intro q hq; simp only [List.mem_cons, List.not_mem_nil, or_false] at hq ⊢; rcases hq with rfl | rfl | rfl | rfl | rfl <;> simp) ?_
          exact ih5_0 (x5_4_0 + 1) ⟨by omega, by omega⟩ (x5_3_0 + 1) ⟨by omega, by omega⟩ (by omega) (by omega)
        · refine g_iload_n dX10_notFullInRow_55 rfl ?_
          exact g_retI dX10_notFullInRow_56 rfl (hQ x5_3_0 ⟨by omega, by omega⟩ )
  refine g_forget (l1 := [(0, vR 125), (1, vI a1), (2, vI a2), (3, vI 0), (4, vI 0)]) (by intro q hq; simp only [List.mem_cons, List.not_mem_nil, or_false] at hq ⊢; rcases hq with rfl | rfl | rfl | rfl | rfl <;> simp) ?_
  exact L5_0 _ 0 (by decide) 0 (by decide) (by omega) (Nat.lt_succ_self _)
set_option maxRecDepth 100000 in
set_option maxHeartbeats 4000000 in
theorem m_X10_countBranches (G : GT) (P : PH) (a1 : Int) (a2 : Int) (h_a1 : (-2147483648) ≤ a1 ∧ a1 ≤ 2147483647) (h_a2 : 0 ≤ a2 ∧ a2 ≤ 3) (hB : BdX P) (Q : Option PV → PH → Prop) (hQ : ∀ (r : Int) (_ : (-2147483648) ≤ r ∧ r ≤ 2147483647) (P1 : PH) (_ : BdX P1) (_ : FrX ([(5, 2)], [6]) P P1), Q (some (vI r)) P1) : Ct WSX G 2 iX10_countBranches [vR 125, vI a1, vI a2] P Q := by
  refine Ct.of (by decide) (l0 := [(0, vR 125), (1, vI a1), (2, vI a2)]) rfl (Nat.le_of_ble_eq_true rfl) ?_
  refine g_iconst dX10_countBranches_0 ?_
  refine g_istore_n (l1 := [(3, vI 0), (0, vR 125), (1, vI a1), (2, vI a2)]) dX10_countBranches_1 (by decide) rfl ?_
  refine g_aload_n dX10_countBranches_2 rfl ?_
  refine x_g51_2 (n := 5) (⟨by decide, rfl⟩ : kx 125 51) ffX10_37 dX10_countBranches_3 rfl ?_
  refine g_vV (av := []) (o := 5) (st := []) (m_X4_renew G P  hB  _ (fun Pc1 hBc1 hFc1 => ⟨rfl, ?_⟩)) cf_X4_renew t_1106 rfl (show kx 5 5 from (⟨by decide, rfl⟩ : kx 5 5)).1 ((show kx 5 5 from (⟨by decide, rfl⟩ : kx 5 5)).sh rfl) rfl rfl (Nat.le_of_ble_eq_true rfl) (by decide) rfl dX10_countBranches_6
  refine g_iconst dX10_countBranches_9 ?_
  refine g_istore (l1 := [(4, vI 0), (3, vI 0), (0, vR 125), (1, vI a1), (2, vI a2)]) dX10_countBranches_10 (by decide) rfl ?_
  have L12_1 : ∀ (n12_1 : Nat) (x12_4_1 : Int) (h_x12_4_1 : 0 ≤ x12_4_1 ∧ x12_4_1 ≤ 2048) (x12_3_1 : Int) (h_x12_3_1 : 0 ≤ x12_3_1 ∧ x12_3_1 ≤ 2048) (H12_1 : PH) (hB12_1 : BdX H12_1) (hE12_1 : FrX ([], [6]) Pc1 H12_1) (i12_0_1 : x12_3_1 ≤ x12_4_1) (hm12_1 : ((2049 - x12_4_1) : Int).toNat < n12_1), Go WSX G 2 iX10_countBranches 12 [(0, vR 125), (1, vI a1), (2, vI a2), (3, vI x12_3_1), (4, vI x12_4_1)] [] H12_1 Q := by
    intro n12_1
    induction n12_1 with
    | zero => intro x12_4_1 h_x12_4_1 x12_3_1 h_x12_3_1 H12_1 hB12_1 hE12_1 i12_0_1 hm12_1; exact absurd hm12_1 (Nat.not_lt_zero _)
    | succ n12_1 ih12_1 =>
    intro x12_4_1 h_x12_4_1 x12_3_1 h_x12_3_1 H12_1 hB12_1 hE12_1 i12_0_1 hm12_1
    refine g_iload dX10_countBranches_12 rfl ?_
    refine g_aload_n dX10_countBranches_14 rfl ?_
    refine x_g51_0 (n := 126) (⟨by decide, rfl⟩ : kx 125 51) ffX10_11 dX10_countBranches_15 rfl ?_
    refine g_iload_n dX10_countBranches_18 rfl ?_
    refine x_l52 (n := (crX 126 a2.toNat)) (⟨by decide, rfl⟩ : kx 126 52) dX10_countBranches_19 ⟨by omega, by omega⟩ rfl ?_
    have kk115 := (ce_52 (j := a2.toNat) (⟨by decide, rfl⟩ : kx 126 52) (by omega))
    refine x_g11_3 (z := (P (crX 126 a2.toNat) 3)) kk115 ffX10_103 dX10_countBranches_20 ((FrX.g hE12_1 kk115 rfl).trans ((FrX.g hFc1 kk115 rfl).trans rfl)) ?_
    have f116 := bx_11_3 (o := (crX 126 a2.toNat)) hB kk115
    refine g_icmp_ge (tgt := 59) dX10_countBranches_23 (by decide) ⟨by omega, by omega⟩ ⟨by have q0 := bx_11_3 (o := (crX 126 a2.toNat)) hB kk115; omega, by have q0 := bx_11_3 (o := (crX 126 a2.toNat)) hB kk115; omega⟩ (fun k117 => ?_) (fun k117 => ?_)
    · refine g_iload_n dX10_countBranches_59 rfl ?_
      exact g_retI dX10_countBranches_60 rfl (hQ x12_3_1 ⟨by omega, by omega⟩ _ hB12_1 (FrX.c (FrX.c FrX.rf hFc1 rfl) hE12_1 rfl) )
    · refine g_aload_n dX10_countBranches_26 rfl ?_
      refine x_g51_2 (n := 5) (⟨by decide, rfl⟩ : kx 125 51) ffX10_37 dX10_countBranches_27 rfl ?_
      refine g_aload_n dX10_countBranches_30 rfl ?_
      refine x_g51_0 (n := 126) (⟨by decide, rfl⟩ : kx 125 51) ffX10_11 dX10_countBranches_31 rfl ?_
      refine g_iload_n dX10_countBranches_34 rfl ?_
      refine x_l52 (n := (crX 126 a2.toNat)) (⟨by decide, rfl⟩ : kx 126 52) dX10_countBranches_35 ⟨by omega, by omega⟩ rfl ?_
      have kk118 := (ce_52 (j := a2.toNat) (⟨by decide, rfl⟩ : kx 126 52) (by omega))
      refine x_g11_0 (n := (crX (crX 126 a2.toNat) 0)) kk118 ffX10_104 dX10_countBranches_36 rfl ?_
      refine g_iload dX10_countBranches_39 rfl ?_
      refine x_l12 (z := (P (crX (crX 126 a2.toNat) 0) x12_4_1)) (ck_11_0 kk118) dX10_countBranches_41 ⟨by omega, by omega⟩ ((FrX.g hE12_1 (ck_11_0 kk118) rfl).trans ((FrX.g hFc1 (ck_11_0 kk118) rfl).trans rfl)) ?_
      refine g_iload_n dX10_countBranches_42 rfl ?_
      refine g_iand dX10_countBranches_43 ?_
      refine g_nm (fun b119 e_b119 => ?_)
      have h_b119 := iand_ir (P (crX (crX 126 a2.toNat) 0) x12_4_1) a1
      rw [← e_b119] at h_b119
      refine g_vI (av := [vI b119]) (o := 5) (st := []) (m_X4_isNew G H12_1 b119 ⟨by omega, by omega⟩ hB12_1  _ (fun rc120 hc120 Pc120 hBc120 hFc120 gc120_n => ⟨rc120, rfl, ?_⟩)) cf_X4_isNew t_1107 rfl (show kx 5 5 from (⟨by decide, rfl⟩ : kx 5 5)).1 ((show kx 5 5 from (⟨by decide, rfl⟩ : kx 5 5)).sh rfl) rfl rfl (Nat.le_of_ble_eq_true rfl) (by decide) rfl dX10_countBranches_44
      refine g_if_eq (tgt := 53) dX10_countBranches_47 (by decide) ⟨by omega, by omega⟩ (fun k121 => ?_) (fun k121 => ?_)
      · refine g_iinc (l1 := [(4, vI (x12_4_1 + 1)), (0, vR 125), (1, vI a1), (2, vI a2), (3, vI x12_3_1)]) dX10_countBranches_53 rfl (by decide) rfl ?_
        refine g_goto (tgt := 12) dX10_countBranches_56 (by decide) ?_
        refine g_forget (l1 := [(0, vR 125), (1, vI a1), (2, vI a2), (3, vI x12_3_1), (4, vI (x12_4_1 + 1))]) (by intro q hq; simp only [List.mem_cons, List.not_mem_nil, or_false] at hq ⊢; rcases hq with rfl | rfl | rfl | rfl | rfl <;> simp) ?_
        exact ih12_1 (x12_4_1 + 1) ⟨by omega, by omega⟩ x12_3_1 ⟨by omega, by omega⟩ _ hBc120 (FrX.c (FrX.c FrX.rf hE12_1 rfl) hFc120 rfl) (by omega) (by omega)
      · refine g_iinc (l1 := [(3, vI (x12_3_1 + 1)), (0, vR 125), (1, vI a1), (2, vI a2), (4, vI x12_4_1)]) dX10_countBranches_50 rfl (by decide) rfl ?_
        refine g_iinc (l1 := [(4, vI (x12_4_1 + 1)), (3, vI (x12_3_1 + 1)), (0, vR 125), (1, vI a1), (2, vI a2)]) dX10_countBranches_53 rfl (by decide) rfl ?_
        refine g_goto (tgt := 12) dX10_countBranches_56 (by decide) ?_
        refine g_forget (l1 := [(0, vR 125), (1, vI a1), (2, vI a2), (3, vI (x12_3_1 + 1)), (4, vI (x12_4_1 + 1))]) (by intro q hq; simp only [List.mem_cons, List.not_mem_nil, or_false] at hq ⊢; rcases hq with rfl | rfl | rfl | rfl | rfl <;> simp) ?_
        exact ih12_1 (x12_4_1 + 1) ⟨by omega, by omega⟩ (x12_3_1 + 1) ⟨by omega, by omega⟩ _ hBc120 (FrX.c (FrX.c FrX.rf hE12_1 rfl) hFc120 rfl) (by omega) (by omega)
  refine g_forget (l1 := [(0, vR 125), (1, vI a1), (2, vI a2), (3, vI 0), (4, vI 0)]) (by intro q hq; simp only [List.mem_cons, List.not_mem_nil, or_false] at hq ⊢; rcases hq with rfl | rfl | rfl | rfl | rfl <;> simp) ?_
  exact L12_1 _ 0 (by decide) 0 (by decide) _ hBc1 FrX.rf (by omega) (Nat.lt_succ_self _)
set_option maxRecDepth 100000 in
set_option maxHeartbeats 4000000 in
theorem m_X10_mostArms (G : GT) (P : PH) (a1 : Int) (a2 : Int) (h_a1 : (-2147483648) ≤ a1 ∧ a1 ≤ 2147483647) (h_a2 : 0 ≤ a2 ∧ a2 ≤ 3) (hB : BdX P) (Q : Option PV → PH → Prop) (hQ : ∀ (r : Int) (_ : (-2147483648) ≤ r ∧ r ≤ 2147483647), Q (some (vI r)) P) : Ct WSX G 2 iX10_mostArms [vR 125, vI a1, vI a2] P Q := by
  refine Ct.of (by decide) (l0 := [(0, vR 125), (1, vI a1), (2, vI a2)]) rfl (Nat.le_of_ble_eq_true rfl) ?_
  refine g_iconst dX10_mostArms_0 ?_
  refine g_istore_n (l1 := [(3, vI 0), (0, vR 125), (1, vI a1), (2, vI a2)]) dX10_mostArms_1 (by decide) rfl ?_
  refine g_iconst dX10_mostArms_2 ?_
  refine g_istore (l1 := [(4, vI 0), (3, vI 0), (0, vR 125), (1, vI a1), (2, vI a2)]) dX10_mostArms_3 (by decide) rfl ?_
  have L5_0 : ∀ (n5_0 : Nat) (x5_4_0 : Int) (h_x5_4_0 : 0 ≤ x5_4_0 ∧ x5_4_0 ≤ 2048) (x5_3_0 : Int) (h_x5_3_0 : 0 ≤ x5_3_0 ∧ x5_3_0 ≤ 2147483647) (hm5_0 : ((2049 - x5_4_0) : Int).toNat < n5_0), Go WSX G 2 iX10_mostArms 5 [(0, vR 125), (1, vI a1), (2, vI a2), (3, vI x5_3_0), (4, vI x5_4_0)] [] P Q := by
    intro n5_0
    induction n5_0 with
    | zero => intro x5_4_0 h_x5_4_0 x5_3_0 h_x5_3_0 hm5_0; exact absurd hm5_0 (Nat.not_lt_zero _)
    | succ n5_0 ih5_0 =>
    intro x5_4_0 h_x5_4_0 x5_3_0 h_x5_3_0 hm5_0
    refine g_iload dX10_mostArms_5 rfl ?_
    refine g_aload_n dX10_mostArms_7 rfl ?_
    refine x_g51_0 (n := 126) (⟨by decide, rfl⟩ : kx 125 51) ffX10_11 dX10_mostArms_8 rfl ?_
    refine g_iload_n dX10_mostArms_11 rfl ?_
    refine x_l52 (n := (crX 126 a2.toNat)) (⟨by decide, rfl⟩ : kx 126 52) dX10_mostArms_12 ⟨by omega, by omega⟩ rfl ?_
    have kk114 := (ce_52 (j := a2.toNat) (⟨by decide, rfl⟩ : kx 126 52) (by omega))
    refine x_g11_3 (z := (P (crX 126 a2.toNat) 3)) kk114 ffX10_103 dX10_mostArms_13 rfl ?_
    have f115 := bx_11_3 (o := (crX 126 a2.toNat)) hB kk114
    refine g_icmp_ge (tgt := 47) dX10_mostArms_16 (by decide) ⟨by omega, by omega⟩ ⟨by have q0 := bx_11_3 (o := (crX 126 a2.toNat)) hB kk114; omega, by have q0 := bx_11_3 (o := (crX 126 a2.toNat)) hB kk114; omega⟩ (fun k116 => ?_) (fun k116 => ?_)
    · refine g_iload_n dX10_mostArms_47 rfl ?_
      exact g_retI dX10_mostArms_48 rfl (hQ x5_3_0 ⟨by omega, by omega⟩ )
    · refine g_iload_n dX10_mostArms_19 rfl ?_
      refine g_aload_n dX10_mostArms_20 rfl ?_
      refine x_g51_0 (n := 126) (⟨by decide, rfl⟩ : kx 125 51) ffX10_11 dX10_mostArms_21 rfl ?_
      refine g_iload_n dX10_mostArms_24 rfl ?_
      refine x_l52 (n := (crX 126 a2.toNat)) (⟨by decide, rfl⟩ : kx 126 52) dX10_mostArms_25 ⟨by omega, by omega⟩ rfl ?_
      have kk117 := (ce_52 (j := a2.toNat) (⟨by decide, rfl⟩ : kx 126 52) (by omega))
      refine x_g11_0 (n := (crX (crX 126 a2.toNat) 0)) kk117 ffX10_104 dX10_mostArms_26 rfl ?_
      refine g_iload dX10_mostArms_29 rfl ?_
      refine x_l12 (z := (P (crX (crX 126 a2.toNat) 0) x5_4_0)) (ck_11_0 kk117) dX10_mostArms_31 ⟨by omega, by omega⟩ rfl ?_
      refine g_iload_n dX10_mostArms_32 rfl ?_
      refine g_iand dX10_mostArms_33 ?_
      refine g_nm (fun b118 e_b118 => ?_)
      have h_b118 := iand_ir (P (crX (crX 126 a2.toNat) 0) x5_4_0) a1
      rw [← e_b118] at h_b118
      refine g_sI (av := [vI b118]) (st := [vI x5_3_0]) (m_J6_bitCount_0f7a4 G P b118 ⟨by omega, by omega⟩ hB  _ (fun rc119 hc119 => ⟨rc119, rfl, ?_⟩)) cf_J6_bitCount_0f7a4 t_1112 rfl (Nat.le_of_ble_eq_true rfl) (by decide) rfl dX10_mostArms_34
      refine g_sI (av := [vI x5_3_0, vI rc119]) (st := []) (m_J9_max_7cf53 G P x5_3_0 rc119 ⟨by omega, by omega⟩ ⟨by omega, by omega⟩ hB  _ (fun rc120 hc120 gc120_m => ⟨rc120, rfl, ?_⟩)) cf_J9_max_7cf53 t_1118 rfl (Nat.le_of_ble_eq_true rfl) (by decide) rfl dX10_mostArms_37
      refine g_istore_n (l1 := [(3, vI rc120), (0, vR 125), (1, vI a1), (2, vI a2), (4, vI x5_4_0)]) dX10_mostArms_40 (by decide) rfl ?_
      refine g_iinc (l1 := [(4, vI (x5_4_0 + 1)), (3, vI rc120), (0, vR 125), (1, vI a1), (2, vI a2)]) dX10_mostArms_41 rfl (by decide) rfl ?_
      refine g_goto (tgt := 5) dX10_mostArms_44 (by decide) ?_
      refine g_forget (l1 := [(0, vR 125), (1, vI a1), (2, vI a2), (3, vI rc120), (4, vI (x5_4_0 + 1))]) (by intro q hq; simp only [List.mem_cons, List.not_mem_nil, or_false] at hq ⊢; rcases hq with rfl | rfl | rfl | rfl | rfl <;> simp) ?_
      exact ih5_0 (x5_4_0 + 1) ⟨by omega, by omega⟩ rc120 ⟨by omega, by omega⟩ (by omega)
  refine g_forget (l1 := [(0, vR 125), (1, vI a1), (2, vI a2), (3, vI 0), (4, vI 0)]) (by intro q hq; simp only [List.mem_cons, List.not_mem_nil, or_false] at hq ⊢; rcases hq with rfl | rfl | rfl | rfl | rfl <;> simp) ?_
  exact L5_0 _ 0 (by decide) 0 (by decide) (Nat.lt_succ_self _)
set_option maxRecDepth 100000 in
set_option maxHeartbeats 4000000 in
theorem m_X10_costOf (G : GT) (P : PH) (a1 : Int) (a2 : Int) (h_a1 : (-2147483648) ≤ a1 ∧ a1 ≤ 2147483647) (h_a2 : 0 ≤ a2 ∧ a2 ≤ 3) (hB : BdX P) (Q : Option PV → PH → Prop) (hQ : ∀ (r : Int) (_ : (-2147483648) ≤ r ∧ r ≤ 2147483647) (P1 : PH) (_ : BdX P1) (_ : FrX ([(5, 2)], [6]) P P1), Q (some (vI r)) P1) : Ct WSX G 3 iX10_costOf [vR 125, vI a1, vI a2] P Q := by
  refine Ct.of (by decide) (l0 := [(0, vR 125), (1, vI a1), (2, vI a2)]) rfl (Nat.le_of_ble_eq_true rfl) ?_
  refine g_aload_n dX10_costOf_0 rfl ?_
  refine x_g51_12 (z := (P 125 12)) (⟨by decide, rfl⟩ : kx 125 51) ffX10_80 dX10_costOf_1 rfl ?_
  by_cases k1 : (P 125 12) = 1
  · refine g_tswI (tgt := 32) 0 dX10_costOf_4 ⟨by have q0 := bx_51_12 (o := 125) hB (⟨by decide, rfl⟩ : kx 125 51); omega, by have q0 := bx_51_12 (o := 125) hB (⟨by decide, rfl⟩ : kx 125 51); omega⟩ (by omega) (by omega) rfl (by decide) ?_
    refine g_aload_n dX10_costOf_32 rfl ?_
    refine g_iload_n dX10_costOf_33 rfl ?_
    refine g_iload_n dX10_costOf_34 rfl ?_
    refine g_vI (av := [vI a1, vI a2]) (o := 125) (st := []) (m_X10_notFullInRow G P a1 a2 ⟨by omega, by omega⟩ ⟨by omega, by omega⟩ hB  _ (fun rc2 hc2 => ⟨rc2, rfl, ?_⟩)) cf_X10_notFullInRow t_1098 rfl (show kx 125 51 from (⟨by decide, rfl⟩ : kx 125 51)).1 ((show kx 125 51 from (⟨by decide, rfl⟩ : kx 125 51)).sh rfl) rfl rfl (Nat.le_of_ble_eq_true rfl) (by decide) rfl dX10_costOf_35
    refine g_ineg dX10_costOf_38 ?_
    refine g_norm (fun r3 h_r3 e_r3 => ?_)
    exact g_retI dX10_costOf_39 rfl (hQ r3 ⟨by omega, by omega⟩ _ hB FrX.rf )
  by_cases k4 : (P 125 12) = 2
  · refine g_tswI (tgt := 40) 1 dX10_costOf_4 ⟨by have q0 := bx_51_12 (o := 125) hB (⟨by decide, rfl⟩ : kx 125 51); omega, by have q0 := bx_51_12 (o := 125) hB (⟨by decide, rfl⟩ : kx 125 51); omega⟩ (by omega) (by omega) rfl (by decide) ?_
    refine g_aload_n dX10_costOf_40 rfl ?_
    refine g_iload_n dX10_costOf_41 rfl ?_
    refine g_iload_n dX10_costOf_42 rfl ?_
    refine g_vI (av := [vI a1, vI a2]) (o := 125) (st := []) (m_X10_countBranches G P a1 a2 ⟨by omega, by omega⟩ ⟨by omega, by omega⟩ hB  _ (fun rc5 hc5 Pc5 hBc5 hFc5 => ⟨rc5, rfl, ?_⟩)) cf_X10_countBranches t_1102 rfl (show kx 125 51 from (⟨by decide, rfl⟩ : kx 125 51)).1 ((show kx 125 51 from (⟨by decide, rfl⟩ : kx 125 51)).sh rfl) rfl rfl (Nat.le_of_ble_eq_true rfl) (by decide) rfl dX10_costOf_43
    exact g_retI dX10_costOf_46 rfl (hQ rc5 ⟨by omega, by omega⟩ _ hBc5 (FrX.c FrX.rf hFc5 rfl) )
  by_cases k6 : (P 125 12) = 3
  · refine g_tswI (tgt := 47) 2 dX10_costOf_4 ⟨by have q0 := bx_51_12 (o := 125) hB (⟨by decide, rfl⟩ : kx 125 51); omega, by have q0 := bx_51_12 (o := 125) hB (⟨by decide, rfl⟩ : kx 125 51); omega⟩ (by omega) (by omega) rfl (by decide) ?_
    refine g_aload_n dX10_costOf_47 rfl ?_
    refine g_iload_n dX10_costOf_48 rfl ?_
    refine g_iload_n dX10_costOf_49 rfl ?_
    refine g_vI (av := [vI a1, vI a2]) (o := 125) (st := []) (m_X10_mostArms G P a1 a2 ⟨by omega, by omega⟩ ⟨by omega, by omega⟩ hB  _ (fun rc7 hc7 => ⟨rc7, rfl, ?_⟩)) cf_X10_mostArms t_1108 rfl (show kx 125 51 from (⟨by decide, rfl⟩ : kx 125 51)).1 ((show kx 125 51 from (⟨by decide, rfl⟩ : kx 125 51)).sh rfl) rfl rfl (Nat.le_of_ble_eq_true rfl) (by decide) rfl dX10_costOf_50
    exact g_retI dX10_costOf_53 rfl (hQ rc7 ⟨by omega, by omega⟩ _ hB FrX.rf )
  refine g_tswO (tgt := 54) dX10_costOf_4 ⟨by have q0 := bx_51_12 (o := 125) hB (⟨by decide, rfl⟩ : kx 125 51); omega, by have q0 := bx_51_12 (o := 125) hB (⟨by decide, rfl⟩ : kx 125 51); omega⟩ (by omega) (by decide) ?_
  refine g_iconst dX10_costOf_54 ?_
  exact g_retI dX10_costOf_55 rfl (hQ 0 (by decide) _ hB FrX.rf )
set_option maxRecDepth 100000 in
set_option maxHeartbeats 4000000 in
theorem m_X10_columnAsked (G : GT) (P : PH) (a1 : Int) (a2 : Int) (h_a1 : (-2147483648) ≤ a1 ∧ a1 ≤ 2147483647) (h_a2 : (-2147483648) ≤ a2 ∧ a2 ≤ 2147483647) (hB : BdX P) (Q : Option PV → PH → Prop) (hQ : ∀ (r : Int) (_ : (-1) ≤ r ∧ r ≤ 3) (P1 : PH) (_ : BdX P1) (_ : FrX ([(5, 2)], [6]) P P1), Q (some (vI r)) P1) : Ct WSX G 4 iX10_columnAsked [vR 125, vI a1, vI a2] P Q := by
  refine Ct.of (by decide) (l0 := [(0, vR 125), (1, vI a1), (2, vI a2)]) rfl (Nat.le_of_ble_eq_true rfl) ?_
  refine g_aload_n dX10_columnAsked_0 rfl ?_
  refine x_g51_14 (n := (P 125 14).toNat) (⟨by decide, rfl⟩ : kx 125 51) ffX10_33 dX10_columnAsked_1 (br_125_14 hB) ?_
  refine g_iload_n dX10_columnAsked_4 rfl ?_
  refine g_vI (av := [vI a1]) (o := (P 125 14).toNat) (st := []) (m_X5_firstOf G P (P 125 14).toNat a1 (bk_125_14 hB) ⟨by omega, by omega⟩ hB  _ (fun rc1 hc1 => ⟨rc1, rfl, ?_⟩)) cf_X5_firstOf t_1089 rfl (show kx (P 125 14).toNat 14 from (bk_125_14 hB)).1 ((show kx (P 125 14).toNat 14 from (bk_125_14 hB)).sh rfl) rfl rfl (Nat.le_of_ble_eq_true rfl) (by decide) rfl dX10_columnAsked_5
  refine g_istore_n (l1 := [(3, vI rc1), (0, vR 125), (1, vI a1), (2, vI a2)]) dX10_columnAsked_8 (by decide) rfl ?_
  refine g_iconst dX10_columnAsked_9 ?_
  refine g_istore (l1 := [(4, vI (-1)), (3, vI rc1), (0, vR 125), (1, vI a1), (2, vI a2)]) dX10_columnAsked_10 (by decide) rfl ?_
  refine g_iconst dX10_columnAsked_12 ?_
  refine g_istore (l1 := [(5, vI 0), (4, vI (-1)), (3, vI rc1), (0, vR 125), (1, vI a1), (2, vI a2)]) dX10_columnAsked_13 (by decide) rfl ?_
  refine g_iconst dX10_columnAsked_15 ?_
  refine g_istore (l1 := [(6, vI 0), (5, vI 0), (4, vI (-1)), (3, vI rc1), (0, vR 125), (1, vI a1), (2, vI a2)]) dX10_columnAsked_16 (by decide) rfl ?_
  have L18_1 : ∀ (n18_1 : Nat) (x18_6_1 : Int) (h_x18_6_1 : 0 ≤ x18_6_1 ∧ x18_6_1 ≤ 4) (x18_5_1 : Int) (h_x18_5_1 : (-2147483648) ≤ x18_5_1 ∧ x18_5_1 ≤ 2147483647) (x18_4_1 : Int) (h_x18_4_1 : (-1) ≤ x18_4_1 ∧ x18_4_1 ≤ 3) (H18_1 : PH) (hB18_1 : BdX H18_1) (hE18_1 : FrX ([(5, 2)], [6]) P H18_1) (hm18_1 : ((5 - x18_6_1) : Int).toNat < n18_1), Go WSX G 4 iX10_columnAsked 18 [(0, vR 125), (1, vI a1), (2, vI a2), (3, vI rc1), (4, vI x18_4_1), (5, vI x18_5_1), (6, vI x18_6_1)] [] H18_1 Q := by
    intro n18_1
    induction n18_1 with
    | zero => intro x18_6_1 h_x18_6_1 x18_5_1 h_x18_5_1 x18_4_1 h_x18_4_1 H18_1 hB18_1 hE18_1 hm18_1; exact absurd hm18_1 (Nat.not_lt_zero _)
    | succ n18_1 ih18_1 =>
    intro x18_6_1 h_x18_6_1 x18_5_1 h_x18_5_1 x18_4_1 h_x18_4_1 H18_1 hB18_1 hE18_1 hm18_1
    refine g_iload_n dX10_columnAsked_18 rfl ?_
    refine g_iconst dX10_columnAsked_19 ?_
    refine g_icmp_eq (tgt := 97) dX10_columnAsked_20 (by decide) ⟨by omega, by omega⟩ (by decide) (fun k79 => ?_) (fun k79 => ?_)
    · refine g_iload dX10_columnAsked_97 rfl ?_
      exact g_retI dX10_columnAsked_99 rfl (hQ x18_4_1 ⟨by omega, by omega⟩ _ hB18_1 (FrX.c FrX.rf hE18_1 rfl) )
    · refine g_iload dX10_columnAsked_23 rfl ?_
      refine g_aload_n dX10_columnAsked_25 rfl ?_
      refine x_g51_13 (n := (P 125 13).toNat) (⟨by decide, rfl⟩ : kx 125 51) ffX10_29 dX10_columnAsked_26 ((FrX.g hE18_1 (⟨by decide, rfl⟩ : kx 125 51) rfl).trans (br_125_13 hB)) ?_
      refine x_g28_6 (z := (P (P 125 13).toNat 6)) (bk_125_13 hB) ffX10_44 dX10_columnAsked_29 ((FrX.g hE18_1 (bk_125_13 hB) rfl).trans rfl) ?_
      have f80 := bx_28_6 (o := (P 125 13).toNat) hB (bk_125_13 hB)
      refine g_icmp_ge (tgt := 97) dX10_columnAsked_32 (by decide) ⟨by omega, by omega⟩ ⟨by have q0 := bx_28_6 (o := (P 125 13).toNat) hB (bk_125_13 hB); omega, by have q0 := bx_28_6 (o := (P 125 13).toNat) hB (bk_125_13 hB); omega⟩ (fun k81 => ?_) (fun k81 => ?_)
      · refine g_iload dX10_columnAsked_97 rfl ?_
        exact g_retI dX10_columnAsked_99 rfl (hQ x18_4_1 ⟨by omega, by omega⟩ _ hB18_1 (FrX.c FrX.rf hE18_1 rfl) )
      · refine g_iload_n dX10_columnAsked_35 rfl ?_
        refine g_iload dX10_columnAsked_36 rfl ?_
        refine g_nI (av := [vI a2, vI x18_6_1]) (st := []) (m_X11_isIn G H18_1 a2 x18_6_1 ⟨by omega, by omega⟩ ⟨by omega, by omega⟩ hB18_1  _ (fun rc82 hc82 => ⟨rc82, rfl, ?_⟩)) cf_X11_isIn (fun U h => h.2.2) rfl (Nat.le_of_ble_eq_true rfl) (by decide) rfl dX10_columnAsked_38
        refine g_if_eq (tgt := 91) dX10_columnAsked_41 (by decide) ⟨by omega, by omega⟩ (fun k83 => ?_) (fun k83 => ?_)
        · refine g_iinc (l1 := [(6, vI (x18_6_1 + 1)), (0, vR 125), (1, vI a1), (2, vI a2), (3, vI rc1), (4, vI x18_4_1), (5, vI x18_5_1)]) dX10_columnAsked_91 rfl (by decide) rfl ?_
          refine g_goto (tgt := 18) dX10_columnAsked_94 (by decide) ?_
          refine g_forget (l1 := [(0, vR 125), (1, vI a1), (2, vI a2), (3, vI rc1), (4, vI x18_4_1), (5, vI x18_5_1), (6, vI (x18_6_1 + 1))]) (by intro q hq; simp only [List.mem_cons, List.not_mem_nil, or_false] at hq ⊢; rcases hq with rfl | rfl | rfl | rfl | rfl | rfl | rfl <;> simp) ?_
          exact ih18_1 (x18_6_1 + 1) ⟨by omega, by omega⟩ x18_5_1 ⟨by omega, by omega⟩ x18_4_1 ⟨by omega, by omega⟩ _ hB18_1 (FrX.c FrX.rf hE18_1 rfl) (by omega)
        · refine g_aload_n dX10_columnAsked_44 rfl ?_
          refine x_g51_13 (n := (P 125 13).toNat) (⟨by decide, rfl⟩ : kx 125 51) ffX10_29 dX10_columnAsked_45 ((FrX.g hE18_1 (⟨by decide, rfl⟩ : kx 125 51) rfl).trans (br_125_13 hB)) ?_
          refine x_g28_3 (n := (crX (P 125 13).toNat 3)) (bk_125_13 hB) ffX10_74 dX10_columnAsked_48 rfl ?_
          refine g_iload dX10_columnAsked_51 rfl ?_
          refine x_l41 (z := (P (crX (P 125 13).toNat 3) x18_6_1)) (ck_28_3 (bk_125_13 hB)) dX10_columnAsked_53 ⟨by omega, by omega⟩ ((FrX.g hE18_1 (ck_28_3 (bk_125_13 hB)) rfl).trans rfl) ?_
          refine g_iload_n dX10_columnAsked_54 rfl ?_
          have f84 := bx_41 (o := (crX (P 125 13).toNat 3)) (k := x18_6_1) hB (ck_28_3 (bk_125_13 hB))
          refine g_nI (av := [vI (P (crX (P 125 13).toNat 3) x18_6_1), vI rc1]) (st := []) (m_X11_isIn G H18_1 (P (crX (P 125 13).toNat 3) x18_6_1) rc1 ⟨by have q0 := bx_41 (o := (crX (P 125 13).toNat 3)) (k := x18_6_1) hB (ck_28_3 (bk_125_13 hB)); omega, by have q0 := bx_41 (o := (crX (P 125 13).toNat 3)) (k := x18_6_1) hB (ck_28_3 (bk_125_13 hB)); omega⟩ ⟨by omega, by omega⟩ hB18_1  _ (fun rc85 hc85 => ⟨rc85, rfl, ?_⟩)) cf_X11_isIn (fun U h => h.2.2) rfl (Nat.le_of_ble_eq_true rfl) (by decide) rfl dX10_columnAsked_55
          refine g_if_ne (tgt := 91) dX10_columnAsked_58 (by decide) ⟨by omega, by omega⟩ (fun k86 => ?_) (fun k86 => ?_)
          · refine g_iinc (l1 := [(6, vI (x18_6_1 + 1)), (0, vR 125), (1, vI a1), (2, vI a2), (3, vI rc1), (4, vI x18_4_1), (5, vI x18_5_1)]) dX10_columnAsked_91 rfl (by decide) rfl ?_
            refine g_goto (tgt := 18) dX10_columnAsked_94 (by decide) ?_
            refine g_forget (l1 := [(0, vR 125), (1, vI a1), (2, vI a2), (3, vI rc1), (4, vI x18_4_1), (5, vI x18_5_1), (6, vI (x18_6_1 + 1))]) (by intro q hq; simp only [List.mem_cons, List.not_mem_nil, or_false] at hq ⊢; rcases hq with rfl | rfl | rfl | rfl | rfl | rfl | rfl <;> simp) ?_
            exact ih18_1 (x18_6_1 + 1) ⟨by omega, by omega⟩ x18_5_1 ⟨by omega, by omega⟩ x18_4_1 ⟨by omega, by omega⟩ _ hB18_1 (FrX.c FrX.rf hE18_1 rfl) (by omega)
          · refine g_aload_n dX10_columnAsked_61 rfl ?_
            refine g_iload_n dX10_columnAsked_62 rfl ?_
            refine g_iload dX10_columnAsked_63 rfl ?_
            refine g_vI (av := [vI a1, vI x18_6_1]) (o := 125) (st := []) (m_X10_costOf G H18_1 a1 x18_6_1 ⟨by omega, by omega⟩ ⟨by omega, by omega⟩ hB18_1  _ (fun rc87 hc87 Pc87 hBc87 hFc87 => ⟨rc87, rfl, ?_⟩)) cf_X10_costOf t_1094 rfl (show kx 125 51 from (⟨by decide, rfl⟩ : kx 125 51)).1 ((show kx 125 51 from (⟨by decide, rfl⟩ : kx 125 51)).sh rfl) rfl rfl (Nat.le_of_ble_eq_true rfl) (by decide) rfl dX10_columnAsked_65
            refine g_istore (l1 := [(7, vI rc87), (0, vR 125), (1, vI a1), (2, vI a2), (3, vI rc1), (4, vI x18_4_1), (5, vI x18_5_1), (6, vI x18_6_1)]) dX10_columnAsked_68 (by decide) rfl ?_
            refine g_iload dX10_columnAsked_70 rfl ?_
            refine g_iconst dX10_columnAsked_72 ?_
            refine g_icmp_eq (tgt := 83) dX10_columnAsked_73 (by decide) ⟨by omega, by omega⟩ (by decide) (fun k88 => ?_) (fun k88 => ?_)
            · refine g_iload dX10_columnAsked_83 rfl ?_
              refine g_istore (l1 := [(4, vI x18_6_1), (7, vI rc87), (0, vR 125), (1, vI a1), (2, vI a2), (3, vI rc1), (5, vI x18_5_1), (6, vI x18_6_1)]) dX10_columnAsked_85 (by decide) rfl ?_
              refine g_iload dX10_columnAsked_87 rfl ?_
              refine g_istore (l1 := [(5, vI rc87), (4, vI x18_6_1), (7, vI rc87), (0, vR 125), (1, vI a1), (2, vI a2), (3, vI rc1), (6, vI x18_6_1)]) dX10_columnAsked_89 (by decide) rfl ?_
              refine g_iinc (l1 := [(6, vI (x18_6_1 + 1)), (5, vI rc87), (4, vI x18_6_1), (7, vI rc87), (0, vR 125), (1, vI a1), (2, vI a2), (3, vI rc1)]) dX10_columnAsked_91 rfl (by decide) rfl ?_
              refine g_goto (tgt := 18) dX10_columnAsked_94 (by decide) ?_
              refine g_forget (l1 := [(0, vR 125), (1, vI a1), (2, vI a2), (3, vI rc1), (4, vI x18_6_1), (5, vI rc87), (6, vI (x18_6_1 + 1))]) (by intro q hq; simp only [List.mem_cons, List.not_mem_nil, or_false] at hq ⊢; rcases hq with rfl | rfl | rfl | rfl | rfl | rfl | rfl <;> simp) ?_
              exact ih18_1 (x18_6_1 + 1) ⟨by omega, by omega⟩ rc87 ⟨by omega, by omega⟩ x18_6_1 ⟨by omega, by omega⟩ _ hBc87 (FrX.c (FrX.c FrX.rf hE18_1 rfl) hFc87 rfl) (by omega)
            · refine g_iload dX10_columnAsked_76 rfl ?_
              refine g_iload dX10_columnAsked_78 rfl ?_
              refine g_icmp_ge (tgt := 91) dX10_columnAsked_80 (by decide) ⟨by omega, by omega⟩ ⟨by omega, by omega⟩ (fun k89 => ?_) (fun k89 => ?_)
              · refine g_iinc (l1 := [(6, vI (x18_6_1 + 1)), (7, vI rc87), (0, vR 125), (1, vI a1), (2, vI a2), (3, vI rc1), (4, vI x18_4_1), (5, vI x18_5_1)]) dX10_columnAsked_91 rfl (by decide) rfl ?_
                refine g_goto (tgt := 18) dX10_columnAsked_94 (by decide) ?_
                refine g_forget (l1 := [(0, vR 125), (1, vI a1), (2, vI a2), (3, vI rc1), (4, vI x18_4_1), (5, vI x18_5_1), (6, vI (x18_6_1 + 1))]) (by intro q hq; simp only [List.mem_cons, List.not_mem_nil, or_false] at hq ⊢; rcases hq with rfl | rfl | rfl | rfl | rfl | rfl | rfl <;> simp) ?_
                exact ih18_1 (x18_6_1 + 1) ⟨by omega, by omega⟩ x18_5_1 ⟨by omega, by omega⟩ x18_4_1 ⟨by omega, by omega⟩ _ hBc87 (FrX.c (FrX.c FrX.rf hE18_1 rfl) hFc87 rfl) (by omega)
              · refine g_iload dX10_columnAsked_83 rfl ?_
                refine g_istore (l1 := [(4, vI x18_6_1), (7, vI rc87), (0, vR 125), (1, vI a1), (2, vI a2), (3, vI rc1), (5, vI x18_5_1), (6, vI x18_6_1)]) dX10_columnAsked_85 (by decide) rfl ?_
                refine g_iload dX10_columnAsked_87 rfl ?_
                refine g_istore (l1 := [(5, vI rc87), (4, vI x18_6_1), (7, vI rc87), (0, vR 125), (1, vI a1), (2, vI a2), (3, vI rc1), (6, vI x18_6_1)]) dX10_columnAsked_89 (by decide) rfl ?_
                refine g_iinc (l1 := [(6, vI (x18_6_1 + 1)), (5, vI rc87), (4, vI x18_6_1), (7, vI rc87), (0, vR 125), (1, vI a1), (2, vI a2), (3, vI rc1)]) dX10_columnAsked_91 rfl (by decide) rfl ?_
                refine g_goto (tgt := 18) dX10_columnAsked_94 (by decide) ?_
                refine g_forget (l1 := [(0, vR 125), (1, vI a1), (2, vI a2), (3, vI rc1), (4, vI x18_6_1), (5, vI rc87), (6, vI (x18_6_1 + 1))]) (by intro q hq; simp only [List.mem_cons, List.not_mem_nil, or_false] at hq ⊢; rcases hq with rfl | rfl | rfl | rfl | rfl | rfl | rfl <;> simp) ?_
                exact ih18_1 (x18_6_1 + 1) ⟨by omega, by omega⟩ rc87 ⟨by omega, by omega⟩ x18_6_1 ⟨by omega, by omega⟩ _ hBc87 (FrX.c (FrX.c FrX.rf hE18_1 rfl) hFc87 rfl) (by omega)
  refine g_forget (l1 := [(0, vR 125), (1, vI a1), (2, vI a2), (3, vI rc1), (4, vI (-1)), (5, vI 0), (6, vI 0)]) (by intro q hq; simp only [List.mem_cons, List.not_mem_nil, or_false] at hq ⊢; rcases hq with rfl | rfl | rfl | rfl | rfl | rfl | rfl <;> simp) ?_
  exact L18_1 _ 0 (by decide) 0 (by decide) (-1) (by decide) _ hB FrX.rf (Nat.lt_succ_self _)
set_option maxRecDepth 100000 in
set_option maxHeartbeats 4000000 in
theorem m_X10_split (G : GT) (P : PH) (a1 : Int) (a2 : Int) (a3 : Int) (h_a1 : (-2147483648) ≤ a1 ∧ a1 ≤ 2147483647) (h_a2 : (-2147483648) ≤ a2 ∧ a2 ≤ 2147483647) (h_a3 : 0 ≤ a3 ∧ a3 ≤ 3) (hB : BdX P) (Q : Option PV → PH → Prop) (hQ : ∀ (r : Nat) (_ : kx r 11) (P1 : PH) (_ : BdX P1) (_ : FrX ([(5, 2), (11, 3)], [6, 7, 12, 13]) P P1), Q (some (vR r)) P1) : Ct WSX G 4 iX10_split [vR 125, vI a1, vI a2, vI a3] P Q := by
  refine Ct.of (by decide) (l0 := [(0, vR 125), (1, vI a1), (2, vI a2), (3, vI a3)]) rfl (Nat.le_of_ble_eq_true rfl) ?_
  refine g_iload_n dX10_split_0 rfl ?_
  refine g_sI (av := [vI a2]) (st := []) (m_J6_bitCount_0f7a4 G P a2 ⟨by omega, by omega⟩ hB  _ (fun rc1 hc1 => ⟨rc1, rfl, ?_⟩)) cf_J6_bitCount_0f7a4 t_1112 rfl (Nat.le_of_ble_eq_true rfl) (by decide) rfl dX10_split_1
  refine g_iconst dX10_split_4 ?_
  refine g_isub dX10_split_5 ?_
  refine g_norm (fun r2 h_r2 e_r2 => ?_)
  refine g_istore (l1 := [(4, vI r2), (0, vR 125), (1, vI a1), (2, vI a2), (3, vI a3)]) dX10_split_6 (by decide) rfl ?_
  refine g_aload_n dX10_split_8 rfl ?_
  refine x_g51_1 (n := 127) (⟨by decide, rfl⟩ : kx 125 51) ffX10_17 dX10_split_9 rfl ?_
  refine g_iconst dX10_split_12 ?_
  refine g_iload dX10_split_13 rfl ?_
  refine g_iconst dX10_split_15 ?_
  refine g_sI (av := [vI r2, vI 3]) (st := [vI 0, vR 127]) (m_J9_min_7cf53 G P r2 3 ⟨by omega, by omega⟩ (by decide) hB  _ (fun rc3 hc3 gc3_m => ⟨rc3, rfl, ?_⟩)) cf_J9_min_7cf53 t_1128 rfl (Nat.le_of_ble_eq_true rfl) (by decide) rfl dX10_split_16
  refine g_sI (av := [vI 0, vI rc3]) (st := [vR 127]) (m_J9_max_7cf53 G P 0 rc3 (by decide) ⟨by omega, by omega⟩ hB  _ (fun rc4 hc4 gc4_m => ⟨rc4, rfl, ?_⟩)) cf_J9_max_7cf53 t_1118 rfl (Nat.le_of_ble_eq_true rfl) (by decide) rfl dX10_split_19
  refine x_l53 (n := (crX 127 rc4.toNat)) (⟨by decide, rfl⟩ : kx 127 53) dX10_split_22 ⟨by omega, by omega⟩ rfl ?_
  have kk5 := (ce_53 (j := rc4.toNat) (⟨by decide, rfl⟩ : kx 127 53) (by omega))
  refine g_astore (l1 := [(5, vR (crX 127 rc4.toNat)), (4, vI r2), (0, vR 125), (1, vI a1), (2, vI a2), (3, vI a3)]) dX10_split_23 (by decide) rfl ?_
  refine g_aload dX10_split_25 rfl ?_
  refine g_vV (av := []) (o := (crX 127 rc4.toNat)) (st := []) (m_X2_begin_G2 G P (crX 127 rc4.toNat) kk5 hB  _ (fun Pc6 hBc6 hFc6 => ⟨rfl, ?_⟩)) cf_X2_begin t_869 rfl (show kx (crX 127 rc4.toNat) 11 from kk5).1 ((show kx (crX 127 rc4.toNat) 11 from kk5).sh rfl) rfl rfl (Nat.le_of_ble_eq_true rfl) (by decide) rfl dX10_split_27
  refine g_aload dX10_split_30 rfl ?_
  refine g_aload_n dX10_split_32 rfl ?_
  refine x_g51_0 (n := 126) (⟨by decide, rfl⟩ : kx 125 51) ffX10_11 dX10_split_33 rfl ?_
  refine g_iload_n dX10_split_36 rfl ?_
  refine x_l52 (n := (crX 126 a3.toNat)) (⟨by decide, rfl⟩ : kx 126 52) dX10_split_37 ⟨by omega, by omega⟩ rfl ?_
  have kk7 := (ce_52 (j := a3.toNat) (⟨by decide, rfl⟩ : kx 126 52) (by omega))
  refine g_iload_n dX10_split_38 rfl ?_
  refine g_vV (av := [vR (crX 126 a3.toNat), vI a1]) (o := (crX 127 rc4.toNat)) (st := []) (m_X2_addParts_G2_G2 G Pc6 (crX 127 rc4.toNat) (crX 126 a3.toNat) a1 kk5 kk7 ⟨by omega, by omega⟩ hBc6  _ (fun Pc8 hBc8 hFc8 => ⟨rfl, ?_⟩)) cf_X2_addParts t_1129 rfl (show kx (crX 127 rc4.toNat) 11 from kk5).1 ((show kx (crX 127 rc4.toNat) 11 from kk5).sh rfl) rfl rfl (Nat.le_of_ble_eq_true rfl) (by decide) rfl dX10_split_39
  refine g_aload dX10_split_42 rfl ?_
  exact g_retR dX10_split_44 rfl (Or.inl ⟨_, rfl⟩) (hQ (crX 127 rc4.toNat) kk5 _ hBc8 (FrX.c (FrX.c FrX.rf hFc6 rfl) hFc8 rfl) )
set_option maxRecDepth 100000 in
set_option maxHeartbeats 4000000 in
theorem m_X10_rowsOf (G : GT) (P : PH) (a1 : Int) (h_a1 : (-2147483648) ≤ a1 ∧ a1 ≤ 2147483647) (hB : BdX P) (Q : Option PV → PH → Prop) (hQ : ∀ (r : Int) (_ : (-2147483648) ≤ r ∧ r ≤ 2147483647), Q (some (vI r)) P) : Ct WSX G 2 iX10_rowsOf [vR 125, vI a1] P Q := by
  refine Ct.of (by decide) (l0 := [(0, vR 125), (1, vI a1)]) rfl (Nat.le_of_ble_eq_true rfl) ?_
  refine g_iconst dX10_rowsOf_0 ?_
  refine g_istore_n (l1 := [(2, vI 1), (0, vR 125), (1, vI a1)]) dX10_rowsOf_1 (by decide) rfl ?_
  refine g_iconst dX10_rowsOf_2 ?_
  refine g_istore_n (l1 := [(3, vI 0), (2, vI 1), (0, vR 125), (1, vI a1)]) dX10_rowsOf_3 (by decide) rfl ?_
  have L4_0 : ∀ (n4_0 : Nat) (x4_3_0 : Int) (h_x4_3_0 : 0 ≤ x4_3_0 ∧ x4_3_0 ≤ 4) (x4_2_0 : Int) (h_x4_2_0 : (-2147483648) ≤ x4_2_0 ∧ x4_2_0 ≤ 2147483647) (hm4_0 : ((5 - x4_3_0) : Int).toNat < n4_0), Go WSX G 2 iX10_rowsOf 4 [(0, vR 125), (1, vI a1), (2, vI x4_2_0), (3, vI x4_3_0)] [] P Q := by
    intro n4_0
    induction n4_0 with
    | zero => intro x4_3_0 h_x4_3_0 x4_2_0 h_x4_2_0 hm4_0; exact absurd hm4_0 (Nat.not_lt_zero _)
    | succ n4_0 ih4_0 =>
    intro x4_3_0 h_x4_3_0 x4_2_0 h_x4_2_0 hm4_0
    refine g_iload_n dX10_rowsOf_4 rfl ?_
    refine g_aload_n dX10_rowsOf_5 rfl ?_
    refine x_g51_13 (n := (P 125 13).toNat) (⟨by decide, rfl⟩ : kx 125 51) ffX10_29 dX10_rowsOf_6 (br_125_13 hB) ?_
    refine x_g28_6 (z := (P (P 125 13).toNat 6)) (bk_125_13 hB) ffX10_44 dX10_rowsOf_9 rfl ?_
    have f36 := bx_28_6 (o := (P 125 13).toNat) hB (bk_125_13 hB)
    refine g_icmp_ge (tgt := 41) dX10_rowsOf_12 (by decide) ⟨by omega, by omega⟩ ⟨by have q0 := bx_28_6 (o := (P 125 13).toNat) hB (bk_125_13 hB); omega, by have q0 := bx_28_6 (o := (P 125 13).toNat) hB (bk_125_13 hB); omega⟩ (fun k37 => ?_) (fun k37 => ?_)
    · refine g_iload_n dX10_rowsOf_41 rfl ?_
      exact g_retI dX10_rowsOf_42 rfl (hQ x4_2_0 ⟨by omega, by omega⟩ )
    · refine g_iload_n dX10_rowsOf_15 rfl ?_
      refine g_iload_n dX10_rowsOf_16 rfl ?_
      refine g_nI (av := [vI a1, vI x4_3_0]) (st := []) (m_X11_isIn G P a1 x4_3_0 ⟨by omega, by omega⟩ ⟨by omega, by omega⟩ hB  _ (fun rc38 hc38 => ⟨rc38, rfl, ?_⟩)) cf_X11_isIn (fun U h => h.2.2) rfl (Nat.le_of_ble_eq_true rfl) (by decide) rfl dX10_rowsOf_17
      refine g_if_eq (tgt := 35) dX10_rowsOf_20 (by decide) ⟨by omega, by omega⟩ (fun k39 => ?_) (fun k39 => ?_)
      · refine g_iinc (l1 := [(3, vI (x4_3_0 + 1)), (0, vR 125), (1, vI a1), (2, vI x4_2_0)]) dX10_rowsOf_35 rfl (by decide) rfl ?_
        refine g_goto (tgt := 4) dX10_rowsOf_38 (by decide) ?_
        refine g_forget (l1 := [(0, vR 125), (1, vI a1), (2, vI x4_2_0), (3, vI (x4_3_0 + 1))]) (by intro q hq; simp only [List.mem_cons, List.not_mem_nil, or_false] at hq ⊢; rcases hq with rfl | rfl | rfl | rfl <;> simp) ?_
        exact ih4_0 (x4_3_0 + 1) ⟨by omega, by omega⟩ x4_2_0 ⟨by omega, by omega⟩ (by omega)
      · refine g_iload_n dX10_rowsOf_23 rfl ?_
        refine g_aload_n dX10_rowsOf_24 rfl ?_
        refine x_g51_13 (n := (P 125 13).toNat) (⟨by decide, rfl⟩ : kx 125 51) ffX10_29 dX10_rowsOf_25 (br_125_13 hB) ?_
        refine x_g28_2 (n := (crX (P 125 13).toNat 2)) (bk_125_13 hB) ffX10_53 dX10_rowsOf_28 rfl ?_
        refine g_iload_n dX10_rowsOf_31 rfl ?_
        refine x_l40 (z := (P (crX (P 125 13).toNat 2) x4_3_0)) (ck_28_2 (bk_125_13 hB)) dX10_rowsOf_32 ⟨by omega, by omega⟩ rfl ?_
        refine g_imul dX10_rowsOf_33 ?_
        refine g_norm (fun r40 h_r40 e_r40 => ?_)
        refine g_istore_n (l1 := [(2, vI r40), (0, vR 125), (1, vI a1), (3, vI x4_3_0)]) dX10_rowsOf_34 (by decide) rfl ?_
        refine g_iinc (l1 := [(3, vI (x4_3_0 + 1)), (2, vI r40), (0, vR 125), (1, vI a1)]) dX10_rowsOf_35 rfl (by decide) rfl ?_
        refine g_goto (tgt := 4) dX10_rowsOf_38 (by decide) ?_
        refine g_forget (l1 := [(0, vR 125), (1, vI a1), (2, vI r40), (3, vI (x4_3_0 + 1))]) (by intro q hq; simp only [List.mem_cons, List.not_mem_nil, or_false] at hq ⊢; rcases hq with rfl | rfl | rfl | rfl <;> simp) ?_
        exact ih4_0 (x4_3_0 + 1) ⟨by omega, by omega⟩ r40 ⟨by omega, by omega⟩ (by omega)
  refine g_forget (l1 := [(0, vR 125), (1, vI a1), (2, vI 1), (3, vI 0)]) (by intro q hq; simp only [List.mem_cons, List.not_mem_nil, or_false] at hq ⊢; rcases hq with rfl | rfl | rfl | rfl <;> simp) ?_
  exact L4_0 _ 0 (by decide) 1 (by decide) (Nat.lt_succ_self _)
def st_X10_measure (G : GT) (n : Nat) : Prop := ∀ (P : PH) (a1 : Int) (a2 : Int) (a3 : Int) (h_a1 : (-2147483648) ≤ a1 ∧ a1 ≤ 2147483647) (h_a2 : (-2147483648) ≤ a2 ∧ a2 ≤ 2147483647) (h_a3 : (-2147483648) ≤ a3 ∧ a3 ≤ 2147483647) (hB : BdX P) (hm : (22 - a3 : Int).toNat < n) (Q : Option PV → PH → Prop) (hQ : ∀ (r : Int) (_ : (-9223372036854775808) ≤ r ∧ r ≤ 9223372036854775807) (P1 : PH) (_ : BdX P1) (_ : FrX ([(5, 2), (11, 3), (51, 5)], [6, 7, 12, 13, 54]) P P1), Q (some (vL r)) P1), Ct WSX G (5 + 1 * n) iX10_measure [vR 125, vI a1, vI a2, vI a3] P Q
set_option maxRecDepth 100000 in
set_option maxHeartbeats 4000000 in
theorem mr_X10_measure (G : GT) (n : Nat) : st_X10_measure G n := by
  induction n with
  | zero => intro P a1 a2 a3 h_a1 h_a2 h_a3 hB  hm; exact absurd hm (Nat.not_lt_zero _)
  | succ n ih =>
    intro P a1 a2 a3 h_a1 h_a2 h_a3 hB  hm Q hQ
    refine Ct.of (by decide) (l0 := [(0, vR 125), (1, vI a1), (2, vI a2), (3, vI a3)]) rfl (Nat.le_of_ble_eq_true rfl) ?_
    refine g_iload_n dX10_measure_0 rfl ?_
    refine g_sipush dX10_measure_1 (by decide) ?_
    refine g_imul dX10_measure_4 ?_
    refine g_norm (fun r1 h_r1 e_r1 => ?_)
    refine g_iload_n dX10_measure_5 rfl ?_
    refine g_iadd dX10_measure_6 ?_
    refine g_norm (fun r2 h_r2 e_r2 => ?_)
    refine g_istore (l1 := [(4, vI r2), (0, vR 125), (1, vI a1), (2, vI a2), (3, vI a3)]) dX10_measure_7 (by decide) rfl ?_
    refine g_iload dX10_measure_9 rfl ?_
    refine g_if_lt (tgt := 27) dX10_measure_11 (by decide) ⟨by omega, by omega⟩ (fun k3 => ?_) (fun k3 => ?_)
    · refine g_lconst (z := 0) dX10_measure_27 (by decide) ?_
      exact g_retL dX10_measure_28 rfl (hQ 0 (by decide) _ hB FrX.rf )
    · refine g_iload dX10_measure_14 rfl ?_
      refine g_ldc (z := 65536) dX10_measure_16 t_559 (by decide) ?_
      refine g_icmp_ge (tgt := 27) dX10_measure_18 (by decide) ⟨by omega, by omega⟩ (by decide) (fun k4 => ?_) (fun k4 => ?_)
      · refine g_lconst (z := 0) dX10_measure_27 (by decide) ?_
        exact g_retL dX10_measure_28 rfl (hQ 0 (by decide) _ hB FrX.rf )
      · refine g_iload_n dX10_measure_21 rfl ?_
        refine g_bipush dX10_measure_22 (by decide) ?_
        refine g_icmp_le (tgt := 29) dX10_measure_24 (by decide) ⟨by omega, by omega⟩ (by decide) (fun k5 => ?_) (fun k5 => ?_)
        · refine g_aload_n dX10_measure_29 rfl ?_
          refine x_g51_3 (n := 152) (⟨by decide, rfl⟩ : kx 125 51) ffX10_21 dX10_measure_30 rfl ?_
          refine g_iload dX10_measure_33 rfl ?_
          refine x_l54 (z := (P 152 r2)) (⟨by decide, rfl⟩ : kx 152 54) dX10_measure_35 ⟨by omega, by omega⟩ rfl ?_
          refine g_bipush dX10_measure_36 (by decide) ?_
          refine g_lushr dX10_measure_38 ?_
          refine g_nm (fun b6 e_b6 => ?_)
          have h_b6 := llushr_ir (P 152 r2) 40
          rw [← e_b6] at h_b6
          refine g_aload_n dX10_measure_39 rfl ?_
          refine x_g51_4 (z := (P 125 4)) (⟨by decide, rfl⟩ : kx 125 51) ffX10_128 dX10_measure_40 rfl ?_
          refine g_i2l dX10_measure_43 ⟨by have q0 := bx_51_4 (o := 125) hB (⟨by decide, rfl⟩ : kx 125 51); omega, by have q0 := bx_51_4 (o := 125) hB (⟨by decide, rfl⟩ : kx 125 51); omega⟩ ?_
          refine g_lcmp dX10_measure_44 ⟨by omega, by omega⟩ ⟨by have q0 := bx_51_4 (o := 125) hB (⟨by decide, rfl⟩ : kx 125 51); omega, by have q0 := bx_51_4 (o := 125) hB (⟨by decide, rfl⟩ : kx 125 51); omega⟩ ?_
          refine g_nm (fun b7 e_b7 => ?_)
          have h_b7 := lcmpv_b b6 (P 125 4)
          have h0_b7 := lcmpv_0 (x := b6) (y := (P 125 4))
          have h1_b7 := lcmpv_lt (x := b6) (y := (P 125 4))
          have h2_b7 := lcmpv_gt (x := b6) (y := (P 125 4))
          rw [← e_b7] at h_b7 h0_b7 h1_b7 h2_b7
          refine g_if_ne (tgt := 56) dX10_measure_45 (by decide) ⟨by omega, by omega⟩ (fun k8 => ?_) (fun k8 => ?_)
          · refine g_aload_n dX10_measure_56 rfl ?_
            refine g_dup dX10_measure_57 rfl ?_
            refine x_g51_5 (z := (P 125 5)) (⟨by decide, rfl⟩ : kx 125 51) ffX10_131 dX10_measure_58 rfl ?_
            refine g_iconst dX10_measure_61 ?_
            refine g_iadd dX10_measure_62 ?_
            refine g_norm (fun r9 h_r9 e_r9 => ?_)
            refine x_p51_5 (⟨by decide, rfl⟩ : kx 125 51) pfX10_131 dX10_measure_63 ?_
            have hB10 := by_51_5 (z := r9) hB (⟨by decide, rfl⟩ : kx 125 51) ⟨by omega, by omega⟩
            refine g_iconst dX10_measure_66 ?_
            refine g_istore (l1 := [(5, vI 1), (4, vI r2), (0, vR 125), (1, vI a1), (2, vI a2), (3, vI a3)]) dX10_measure_67 (by decide) rfl ?_
            refine g_iconst dX10_measure_69 ?_
            refine g_istore (l1 := [(6, vI 0), (5, vI 1), (4, vI r2), (0, vR 125), (1, vI a1), (2, vI a2), (3, vI a3)]) dX10_measure_70 (by decide) rfl ?_
            refine g_iconst dX10_measure_72 ?_
            refine g_istore (l1 := [(7, vI 0), (6, vI 0), (5, vI 1), (4, vI r2), (0, vR 125), (1, vI a1), (2, vI a2), (3, vI a3)]) dX10_measure_73 (by decide) rfl ?_
            refine g_aload_n dX10_measure_75 rfl ?_
            refine g_iload_n dX10_measure_76 rfl ?_
            refine g_iload_n dX10_measure_77 rfl ?_
            refine g_vI (av := [vI a1, vI a2]) (o := 125) (st := []) (m_X10_columnAsked G (up P 125 5 r9) a1 a2 ⟨by omega, by omega⟩ ⟨by omega, by omega⟩ hB10  _ (fun rc11 hc11 Pc11 hBc11 hFc11 => ⟨rc11, rfl, ?_⟩)) cf_X10_columnAsked t_1085 rfl (show kx 125 51 from (⟨by decide, rfl⟩ : kx 125 51)).1 ((show kx 125 51 from (⟨by decide, rfl⟩ : kx 125 51)).sh rfl) rfl rfl (Nat.le_of_ble_eq_true rfl) (by omega) rfl dX10_measure_78
            refine g_istore (l1 := [(8, vI rc11), (7, vI 0), (6, vI 0), (5, vI 1), (4, vI r2), (0, vR 125), (1, vI a1), (2, vI a2), (3, vI a3)]) dX10_measure_81 (by decide) rfl ?_
            refine g_aload_n dX10_measure_83 rfl ?_
            refine x_g51_14 (n := (P 125 14).toNat) (⟨by decide, rfl⟩ : kx 125 51) ffX10_33 dX10_measure_84 ((FrX.g hFc11 (⟨by decide, rfl⟩ : kx 125 51) rfl).trans ((up_k (by decide)).trans (br_125_14 hB))) ?_
            refine g_iload_n dX10_measure_87 rfl ?_
            refine g_vI (av := [vI a1]) (o := (P 125 14).toNat) (st := []) (m_X5_firstOf G Pc11 (P 125 14).toNat a1 (bk_125_14 hB) ⟨by omega, by omega⟩ hBc11  _ (fun rc12 hc12 => ⟨rc12, rfl, ?_⟩)) cf_X5_firstOf t_1089 rfl (show kx (P 125 14).toNat 14 from (bk_125_14 hB)).1 ((show kx (P 125 14).toNat 14 from (bk_125_14 hB)).sh rfl) rfl rfl (Nat.le_of_ble_eq_true rfl) (by omega) rfl dX10_measure_88
            refine g_istore (l1 := [(9, vI rc12), (8, vI rc11), (7, vI 0), (6, vI 0), (5, vI 1), (4, vI r2), (0, vR 125), (1, vI a1), (2, vI a2), (3, vI a3)]) dX10_measure_91 (by decide) rfl ?_
            refine g_aload_n dX10_measure_93 rfl ?_
            refine x_g51_13 (n := (P 125 13).toNat) (⟨by decide, rfl⟩ : kx 125 51) ffX10_29 dX10_measure_94 ((FrX.g hFc11 (⟨by decide, rfl⟩ : kx 125 51) rfl).trans ((up_k (by decide)).trans (br_125_13 hB))) ?_
            refine g_iload dX10_measure_97 rfl ?_
            refine g_vI (av := [vI rc12]) (o := (P 125 13).toNat) (st := []) (m_X9_guardOf G Pc11 (P 125 13).toNat rc12 (bk_125_13 hB) ⟨by omega, by omega⟩ hBc11  _ (fun rc13 hc13 => ⟨rc13, rfl, ?_⟩)) cf_X9_guardOf t_1119 rfl (show kx (P 125 13).toNat 28 from (bk_125_13 hB)).1 ((show kx (P 125 13).toNat 28 from (bk_125_13 hB)).sh rfl) rfl rfl (Nat.le_of_ble_eq_true rfl) (by omega) rfl dX10_measure_99
            refine g_istore (l1 := [(10, vI rc13), (9, vI rc12), (8, vI rc11), (7, vI 0), (6, vI 0), (5, vI 1), (4, vI r2), (0, vR 125), (1, vI a1), (2, vI a2), (3, vI a3)]) dX10_measure_102 (by decide) rfl ?_
            refine g_iload dX10_measure_104 rfl ?_
            refine g_iconst dX10_measure_106 ?_
            have J298_301 : ∀ (x298_7_301 : Int) (h_x298_7_301 : (-2147483648) ≤ x298_7_301 ∧ x298_7_301 ≤ 2147483647) (x298_6_301 : Int) (h_x298_6_301 : (-2147483648) ≤ x298_6_301 ∧ x298_6_301 ≤ 2147483647) (x298_5_301 : Int) (h_x298_5_301 : (-2147483648) ≤ x298_5_301 ∧ x298_5_301 ≤ 1000000) (H298_301 : PH) (hB298_301 : BdX H298_301) (hE298_301 : FrX ([(5, 2), (11, 3), (51, 5)], [6, 7, 12, 13, 54]) Pc11 H298_301), Go WSX G (5 + 1 * (n + 1)) iX10_measure 298 [(0, vR 125), (4, vI r2), (5, vI x298_5_301), (6, vI x298_6_301), (7, vI x298_7_301)] [] H298_301 Q := by
              intro x298_7_301 h_x298_7_301 x298_6_301 h_x298_6_301 x298_5_301 h_x298_5_301 H298_301 hB298_301 hE298_301
              refine g_iload dX10_measure_298 rfl ?_
              refine g_i2l dX10_measure_300 ⟨by omega, by omega⟩ ?_
              refine g_bipush dX10_measure_301 (by decide) ?_
              refine g_lshl dX10_measure_303 ?_
              refine g_nm (fun b303 e_b303 => ?_)
              have h_b303 := llshl_ir x298_7_301 17
              rw [← e_b303] at h_b303
              refine g_iload dX10_measure_304 rfl ?_
              refine g_i2l dX10_measure_306 ⟨by omega, by omega⟩ ?_
              refine g_lor dX10_measure_307 ?_
              refine g_nm (fun b304 e_b304 => ?_)
              have h_b304 := llor_ir b303 x298_6_301
              rw [← e_b304] at h_b304
              refine g_bipush dX10_measure_308 (by decide) ?_
              refine g_lshl dX10_measure_310 ?_
              refine g_nm (fun b305 e_b305 => ?_)
              have h_b305 := llshl_ir b304 20
              rw [← e_b305] at h_b305
              refine g_iload dX10_measure_311 rfl ?_
              refine g_i2l dX10_measure_313 ⟨by omega, by omega⟩ ?_
              refine g_lor dX10_measure_314 ?_
              refine g_nm (fun b306 e_b306 => ?_)
              have h_b306 := llor_ir b305 x298_5_301
              rw [← e_b306] at h_b306
              refine g_lstore (l1 := [(11, vL b306), (0, vR 125), (4, vI r2), (5, vI x298_5_301), (6, vI x298_6_301), (7, vI x298_7_301)]) dX10_measure_315 (by decide) rfl ?_
              refine g_aload_n dX10_measure_317 rfl ?_
              refine x_g51_3 (n := 152) (⟨by decide, rfl⟩ : kx 125 51) ffX10_21 dX10_measure_318 rfl ?_
              refine g_iload dX10_measure_321 rfl ?_
              refine g_aload_n dX10_measure_323 rfl ?_
              refine x_g51_4 (z := (P 125 4)) (⟨by decide, rfl⟩ : kx 125 51) ffX10_128 dX10_measure_324 ((FrX.g hE298_301 (⟨by decide, rfl⟩ : kx 125 51) rfl).trans ((FrX.g hFc11 (⟨by decide, rfl⟩ : kx 125 51) rfl).trans ((up_k (by decide)).trans rfl))) ?_
              refine g_i2l dX10_measure_327 ⟨by have q0 := bx_51_4 (o := 125) hB (⟨by decide, rfl⟩ : kx 125 51); omega, by have q0 := bx_51_4 (o := 125) hB (⟨by decide, rfl⟩ : kx 125 51); omega⟩ ?_
              refine g_bipush dX10_measure_328 (by decide) ?_
              refine g_lshl dX10_measure_330 ?_
              refine g_nm (fun b307 e_b307 => ?_)
              have h_b307 := llshl_ir (P 125 4) 40
              rw [← e_b307] at h_b307
              refine g_lload dX10_measure_331 rfl ?_
              refine g_lor dX10_measure_333 ?_
              refine g_nm (fun b308 e_b308 => ?_)
              have h_b308 := llor_ir b307 b306
              rw [← e_b308] at h_b308
              refine x_s54 (⟨by decide, rfl⟩ : kx 152 54) dX10_measure_334 ⟨by omega, by omega⟩ ?_
              have hB309 := by_54 (z := b308) (k := r2) hB298_301 (⟨by decide, rfl⟩ : kx 152 54) ⟨by omega, by omega⟩
              refine g_aload_n dX10_measure_335 rfl ?_
              refine x_g51_3 (n := 152) (⟨by decide, rfl⟩ : kx 125 51) ffX10_21 dX10_measure_336 rfl ?_
              refine g_iload dX10_measure_339 rfl ?_
              refine x_l54 (z := b308) (⟨by decide, rfl⟩ : kx 152 54) dX10_measure_341 ⟨by omega, by omega⟩ up_same ?_
              exact g_retL dX10_measure_342 rfl (hQ b308 ⟨by omega, by omega⟩ _ hB309 (FrX.s (FrX.c (FrX.c (FrX.s FrX.rf (⟨by decide, rfl⟩ : kx 125 51) rfl) hFc11 rfl) hE298_301 rfl) (⟨by decide, rfl⟩ : kx 152 54) rfl) )
            refine g_icmp_eq (tgt := 226) dX10_measure_107 (by decide) ⟨by omega, by omega⟩ (by decide) (fun k310 => ?_) (fun k310 => ?_)
            · refine g_iload dX10_measure_226 rfl ?_
              refine g_iconst dX10_measure_228 ?_
              refine g_icmp_eq (tgt := 298) dX10_measure_229 (by decide) ⟨by omega, by omega⟩ (by decide) (fun k311 => ?_) (fun k311 => ?_)
              · refine g_forget (l1 := [(0, vR 125), (4, vI r2), (5, vI 1), (6, vI 0), (7, vI 0)]) (by intro q hq; simp only [List.mem_cons, List.not_mem_nil, or_false] at hq ⊢; rcases hq with rfl | rfl | rfl | rfl | rfl <;> simp) ?_
                exact J298_301 0 (by decide) 0 (by decide) 1 (by decide) _ hBc11 FrX.rf
              · refine g_aload_n dX10_measure_232 rfl ?_
                refine g_iload_n dX10_measure_233 rfl ?_
                refine g_iconst dX10_measure_234 ?_
                refine g_iload dX10_measure_235 rfl ?_
                refine g_ishl dX10_measure_237 ?_
                refine g_nm (fun b312 e_b312 => ?_)
                have h_b312 := ishl_ir 1 rc12
                rw [← e_b312] at h_b312
                refine g_iconst dX10_measure_238 ?_
                refine g_ixor dX10_measure_239 ?_
                refine g_nm (fun b313 e_b313 => ?_)
                have h_b313 := ixor_ir b312 (-1)
                rw [← e_b313] at h_b313
                refine g_iand dX10_measure_240 ?_
                refine g_nm (fun b314 e_b314 => ?_)
                have h_b314 := iand_ir a1 b313
                rw [← e_b314] at h_b314
                refine g_iload_n dX10_measure_241 rfl ?_
                refine g_iload_n dX10_measure_242 rfl ?_
                refine g_iconst dX10_measure_243 ?_
                refine g_iadd dX10_measure_244 ?_
                refine g_sL (av := [vR 125, vI b314, vI a2, vI (a3 + 1)]) (st := []) (ih Pc11 b314 a2 (a3 + 1) ⟨by omega, by omega⟩ ⟨by omega, by omega⟩ ⟨by omega, by omega⟩ hBc11 (by omega) _ (fun rc315 hc315 Pc315 hBc315 hFc315 => ⟨rc315, rfl, ?_⟩)) cf_X10_measure t_1082 rfl (Nat.le_of_ble_eq_true rfl) (by omega) rfl dX10_measure_245
                refine g_lstore (l1 := [(11, vL rc315), (10, vI rc13), (9, vI rc12), (8, vI rc11), (7, vI 0), (6, vI 0), (5, vI 1), (4, vI r2), (0, vR 125), (1, vI a1), (2, vI a2), (3, vI a3)]) dX10_measure_248 (by decide) rfl ?_
                refine g_ldc (z := 1000000) dX10_measure_250 t_1133 (by decide) ?_
                refine g_iload dX10_measure_252 rfl ?_
                refine g_lload dX10_measure_254 rfl ?_
                refine g_sI (av := [vL rc315]) (st := [vI 1, vI 1000000]) (m_X10_nodesIn G Pc315 rc315 ⟨by omega, by omega⟩ hBc315  _ (fun rc316 hc316 => ⟨rc316, rfl, ?_⟩)) cf_X10_nodesIn t_1134 rfl (Nat.le_of_ble_eq_true rfl) (by omega) rfl dX10_measure_256
                refine g_iadd dX10_measure_259 ?_
                refine g_norm (fun r317 h_r317 e_r317 => ?_)
                refine g_sI (av := [vI 1000000, vI r317]) (st := []) (m_J9_min_7cf53 G Pc315 1000000 r317 (by decide) ⟨by omega, by omega⟩ hBc315  _ (fun rc318 hc318 gc318_m => ⟨rc318, rfl, ?_⟩)) cf_J9_min_7cf53 t_1128 rfl (Nat.le_of_ble_eq_true rfl) (by omega) rfl dX10_measure_260
                refine g_istore (l1 := [(5, vI rc318), (11, vL rc315), (10, vI rc13), (9, vI rc12), (8, vI rc11), (7, vI 0), (6, vI 0), (4, vI r2), (0, vR 125), (1, vI a1), (2, vI a2), (3, vI a3)]) dX10_measure_263 (by decide) rfl ?_
                refine g_aload_n dX10_measure_265 rfl ?_
                refine x_g51_14 (n := (P 125 14).toNat) (⟨by decide, rfl⟩ : kx 125 51) ffX10_33 dX10_measure_266 ((FrX.g hFc315 (⟨by decide, rfl⟩ : kx 125 51) rfl).trans ((FrX.g hFc11 (⟨by decide, rfl⟩ : kx 125 51) rfl).trans ((up_k (by decide)).trans (br_125_14 hB)))) ?_
                refine x_g14_2 (z := (P (P 125 14).toNat 2)) (bk_125_14 hB) ffX10_170 dX10_measure_269 ((FrX.g hFc315 (bk_125_14 hB) rfl).trans ((FrX.g hFc11 (bk_125_14 hB) rfl).trans ((up_o (kx.ne (bk_125_14 hB) (⟨by decide, rfl⟩ : kx 125 51) rfl)).trans rfl))) ?_
                refine g_iload dX10_measure_272 rfl ?_
                have f319 := bx_14_2 (o := (P 125 14).toNat) hB (bk_125_14 hB)
                refine g_nI (av := [vI (P (P 125 14).toNat 2), vI rc13]) (st := []) (m_X11_isIn G Pc315 (P (P 125 14).toNat 2) rc13 ⟨by have q0 := bx_14_2 (o := (P 125 14).toNat) hB (bk_125_14 hB); omega, by have q0 := bx_14_2 (o := (P 125 14).toNat) hB (bk_125_14 hB); omega⟩ ⟨by omega, by omega⟩ hBc315  _ (fun rc320 hc320 => ⟨rc320, rfl, ?_⟩)) cf_X11_isIn (fun U h => h.2.2) rfl (Nat.le_of_ble_eq_true rfl) (by omega) rfl dX10_measure_274
                refine g_if_eq (tgt := 284) dX10_measure_277 (by decide) ⟨by omega, by omega⟩ (fun k321 => ?_) (fun k321 => ?_)
                · refine g_lload dX10_measure_284 rfl ?_
                  refine g_sI (av := [vL rc315]) (st := []) (m_X10_testsIn G Pc315 rc315 ⟨by omega, by omega⟩ hBc315  _ (fun rc322 hc322 => ⟨rc322, rfl, ?_⟩)) cf_X10_testsIn t_1138 rfl (Nat.le_of_ble_eq_true rfl) (by omega) rfl dX10_measure_286
                  refine g_istore (l1 := [(6, vI rc322), (5, vI rc318), (11, vL rc315), (10, vI rc13), (9, vI rc12), (8, vI rc11), (7, vI 0), (4, vI r2), (0, vR 125), (1, vI a1), (2, vI a2), (3, vI a3)]) dX10_measure_289 (by decide) rfl ?_
                  refine g_lload dX10_measure_291 rfl ?_
                  refine g_sI (av := [vL rc315]) (st := []) (m_X10_longestIn G Pc315 rc315 ⟨by omega, by omega⟩ hBc315  _ (fun rc323 hc323 => ⟨rc323, rfl, ?_⟩)) cf_X10_longestIn t_1142 rfl (Nat.le_of_ble_eq_true rfl) (by omega) rfl dX10_measure_293
                  refine g_istore (l1 := [(7, vI rc323), (6, vI rc322), (5, vI rc318), (11, vL rc315), (10, vI rc13), (9, vI rc12), (8, vI rc11), (4, vI r2), (0, vR 125), (1, vI a1), (2, vI a2), (3, vI a3)]) dX10_measure_296 (by decide) rfl ?_
                  refine g_forget (l1 := [(0, vR 125), (4, vI r2), (5, vI rc318), (6, vI rc322), (7, vI rc323)]) (by intro q hq; simp only [List.mem_cons, List.not_mem_nil, or_false] at hq ⊢; rcases hq with rfl | rfl | rfl | rfl | rfl <;> simp) ?_
                  exact J298_301 rc323 ⟨by omega, by omega⟩ rc322 ⟨by omega, by omega⟩ rc318 ⟨by omega, by omega⟩ _ hBc315 (FrX.c FrX.rf hFc315 rfl)
                · refine g_iconst dX10_measure_280 ?_
                  refine g_goto (tgt := 289) dX10_measure_281 (by decide) ?_
                  refine g_istore (l1 := [(6, vI 0), (5, vI rc318), (11, vL rc315), (10, vI rc13), (9, vI rc12), (8, vI rc11), (7, vI 0), (4, vI r2), (0, vR 125), (1, vI a1), (2, vI a2), (3, vI a3)]) dX10_measure_289 (by decide) rfl ?_
                  refine g_lload dX10_measure_291 rfl ?_
                  refine g_sI (av := [vL rc315]) (st := []) (m_X10_longestIn G Pc315 rc315 ⟨by omega, by omega⟩ hBc315  _ (fun rc324 hc324 => ⟨rc324, rfl, ?_⟩)) cf_X10_longestIn t_1142 rfl (Nat.le_of_ble_eq_true rfl) (by omega) rfl dX10_measure_293
                  refine g_istore (l1 := [(7, vI rc324), (6, vI 0), (5, vI rc318), (11, vL rc315), (10, vI rc13), (9, vI rc12), (8, vI rc11), (4, vI r2), (0, vR 125), (1, vI a1), (2, vI a2), (3, vI a3)]) dX10_measure_296 (by decide) rfl ?_
                  refine g_forget (l1 := [(0, vR 125), (4, vI r2), (5, vI rc318), (6, vI 0), (7, vI rc324)]) (by intro q hq; simp only [List.mem_cons, List.not_mem_nil, or_false] at hq ⊢; rcases hq with rfl | rfl | rfl | rfl | rfl <;> simp) ?_
                  exact J298_301 rc324 ⟨by omega, by omega⟩ 0 (by decide) rc318 ⟨by omega, by omega⟩ _ hBc315 (FrX.c FrX.rf hFc315 rfl)
            · refine g_aload_n dX10_measure_110 rfl ?_
              refine g_iload_n dX10_measure_111 rfl ?_
              refine g_vI (av := [vI a2]) (o := 125) (st := []) (m_X10_rowsOf G Pc11 a2 ⟨by omega, by omega⟩ hBc11  _ (fun rc325 hc325 => ⟨rc325, rfl, ?_⟩)) cf_X10_rowsOf t_1120 rfl (show kx 125 51 from (⟨by decide, rfl⟩ : kx 125 51)).1 ((show kx 125 51 from (⟨by decide, rfl⟩ : kx 125 51)).sh rfl) rfl rfl (Nat.le_of_ble_eq_true rfl) (by omega) rfl dX10_measure_112
              refine g_istore (l1 := [(6, vI rc325), (10, vI rc13), (9, vI rc12), (8, vI rc11), (7, vI 0), (5, vI 1), (4, vI r2), (0, vR 125), (1, vI a1), (2, vI a2), (3, vI a3)]) dX10_measure_115 (by decide) rfl ?_
              refine g_aload_n dX10_measure_117 rfl ?_
              refine g_iload_n dX10_measure_118 rfl ?_
              refine g_iload_n dX10_measure_119 rfl ?_
              refine g_iload dX10_measure_120 rfl ?_
              refine g_vR (av := [vI a1, vI a2, vI rc11]) (o := 125) (st := []) (m_X10_split G Pc11 a1 a2 rc11 ⟨by omega, by omega⟩ ⟨by omega, by omega⟩ ⟨by omega, by omega⟩ hBc11  _ (fun rc326 hc326 Pc326 hBc326 hFc326 => ⟨rc326, rfl, ?_⟩)) cf_X10_split t_1124 rfl (show kx 125 51 from (⟨by decide, rfl⟩ : kx 125 51)).1 ((show kx 125 51 from (⟨by decide, rfl⟩ : kx 125 51)).sh rfl) rfl rfl (Nat.le_of_ble_eq_true rfl) (by omega) rfl dX10_measure_122
              refine g_astore (l1 := [(11, vR rc326), (6, vI rc325), (10, vI rc13), (9, vI rc12), (8, vI rc11), (7, vI 0), (5, vI 1), (4, vI r2), (0, vR 125), (1, vI a1), (2, vI a2), (3, vI a3)]) dX10_measure_125 (by decide) rfl ?_
              refine g_iload_n dX10_measure_127 rfl ?_
              refine g_iconst dX10_measure_128 ?_
              refine g_iload dX10_measure_129 rfl ?_
              refine g_ishl dX10_measure_131 ?_
              refine g_nm (fun b327 e_b327 => ?_)
              have h_b327 : 1 ≤ (ishl 1 rc11) ∧ (ishl 1 rc11) ≤ 8 := (ishl1 3 (by decide) (y := rc11) ⟨by omega, by omega⟩).2
              rw [← e_b327] at h_b327
              refine g_iconst dX10_measure_132 ?_
              refine g_ixor dX10_measure_133 ?_
              refine g_nm (fun b328 e_b328 => ?_)
              have h_b328 := ixor_ir b327 (-1)
              rw [← e_b328] at h_b328
              refine g_iand dX10_measure_134 ?_
              refine g_nm (fun b329 e_b329 => ?_)
              have h_b329 := iand_ir a2 b328
              rw [← e_b329] at h_b329
              refine g_istore (l1 := [(12, vI b329), (11, vR rc326), (6, vI rc325), (10, vI rc13), (9, vI rc12), (8, vI rc11), (7, vI 0), (5, vI 1), (4, vI r2), (0, vR 125), (1, vI a1), (2, vI a2), (3, vI a3)]) dX10_measure_135 (by decide) rfl ?_
              refine g_iconst dX10_measure_137 ?_
              refine g_istore (l1 := [(13, vI 0), (12, vI b329), (11, vR rc326), (6, vI rc325), (10, vI rc13), (9, vI rc12), (8, vI rc11), (7, vI 0), (5, vI 1), (4, vI r2), (0, vR 125), (1, vI a1), (2, vI a2), (3, vI a3)]) dX10_measure_138 (by decide) rfl ?_
              have L140_329 : ∀ (n140_329 : Nat) (x140_13_329 : Int) (h_x140_13_329 : 0 ≤ x140_13_329 ∧ x140_13_329 ≤ 2048) (x140_6_329 : Int) (h_x140_6_329 : (-2147483648) ≤ x140_6_329 ∧ x140_6_329 ≤ 2147483647) (x140_7_329 : Int) (h_x140_7_329 : 0 ≤ x140_7_329 ∧ x140_7_329 ≤ 2147483647) (x140_5_329 : Int) (h_x140_5_329 : (-2147483648) ≤ x140_5_329 ∧ x140_5_329 ≤ 1000000) (H140_329 : PH) (hB140_329 : BdX H140_329) (hE140_329 : FrX ([(5, 2), (11, 3), (51, 5)], [6, 7, 12, 13, 54]) Pc326 H140_329) (hm140_329 : ((2049 - x140_13_329) : Int).toNat < n140_329), Go WSX G (5 + 1 * (n + 1)) iX10_measure 140 [(0, vR 125), (3, vI a3), (4, vI r2), (5, vI x140_5_329), (6, vI x140_6_329), (7, vI x140_7_329), (11, vR rc326), (12, vI b329), (13, vI x140_13_329)] [] H140_329 Q := by
                intro n140_329
                induction n140_329 with
                | zero => intro x140_13_329 h_x140_13_329 x140_6_329 h_x140_6_329 x140_7_329 h_x140_7_329 x140_5_329 h_x140_5_329 H140_329 hB140_329 hE140_329 hm140_329; exact absurd hm140_329 (Nat.not_lt_zero _)
                | succ n140_329 ih140_329 =>
                intro x140_13_329 h_x140_13_329 x140_6_329 h_x140_6_329 x140_7_329 h_x140_7_329 x140_5_329 h_x140_5_329 H140_329 hB140_329 hE140_329 hm140_329
                refine g_iload dX10_measure_140 rfl ?_
                refine g_aload dX10_measure_142 rfl ?_
                refine x_g11_3 (z := (H140_329 rc326 3)) hc326 ffX10_103 dX10_measure_144 rfl ?_
                have f578 := bx_11_3 (o := rc326) hB140_329 hc326
                refine g_icmp_ge (tgt := 223) dX10_measure_147 (by decide) ⟨by omega, by omega⟩ ⟨by have q0 := bx_11_3 (o := rc326) hB140_329 hc326; omega, by have q0 := bx_11_3 (o := rc326) hB140_329 hc326; omega⟩ (fun k579 => ?_) (fun k579 => ?_)
                · refine g_goto (tgt := 298) dX10_measure_223 (by decide) ?_
                  refine g_forget (l1 := [(0, vR 125), (4, vI r2), (5, vI x140_5_329), (6, vI x140_6_329), (7, vI x140_7_329)]) (by intro q hq; simp only [List.mem_cons, List.not_mem_nil, or_false] at hq ⊢; rcases hq with rfl | rfl | rfl | rfl | rfl <;> simp) ?_
                  exact J298_301 x140_7_329 ⟨by omega, by omega⟩ x140_6_329 ⟨by omega, by omega⟩ x140_5_329 ⟨by omega, by omega⟩ _ hB140_329 (FrX.c (FrX.c FrX.rf hFc326 rfl) hE140_329 rfl)
                · refine g_aload_n dX10_measure_150 rfl ?_
                  refine g_aload dX10_measure_151 rfl ?_
                  refine x_g11_0 (n := (crX rc326 0)) hc326 ffX10_104 dX10_measure_153 rfl ?_
                  refine g_iload dX10_measure_156 rfl ?_
                  refine x_l12 (z := (H140_329 (crX rc326 0) x140_13_329)) (ck_11_0 hc326) dX10_measure_158 ⟨by omega, by omega⟩ rfl ?_
                  refine g_iload dX10_measure_159 rfl ?_
                  refine g_iload_n dX10_measure_161 rfl ?_
                  refine g_iconst dX10_measure_162 ?_
                  refine g_iadd dX10_measure_163 ?_
                  have f580 := bx_12 (o := (crX rc326 0)) (k := x140_13_329) hB140_329 (ck_11_0 hc326)
                  refine g_sL (av := [vR 125, vI (H140_329 (crX rc326 0) x140_13_329), vI b329, vI (a3 + 1)]) (st := []) (ih H140_329 (H140_329 (crX rc326 0) x140_13_329) b329 (a3 + 1) ⟨by have q0 := bx_12 (o := (crX rc326 0)) (k := x140_13_329) hB140_329 (ck_11_0 hc326); omega, by have q0 := bx_12 (o := (crX rc326 0)) (k := x140_13_329) hB140_329 (ck_11_0 hc326); omega⟩ ⟨by omega, by omega⟩ ⟨by omega, by omega⟩ hB140_329 (by omega) _ (fun rc581 hc581 Pc581 hBc581 hFc581 => ⟨rc581, rfl, ?_⟩)) cf_X10_measure t_1082 rfl (Nat.le_of_ble_eq_true rfl) (by omega) rfl dX10_measure_164
                  refine g_lstore (l1 := [(14, vL rc581), (0, vR 125), (3, vI a3), (4, vI r2), (5, vI x140_5_329), (6, vI x140_6_329), (7, vI x140_7_329), (11, vR rc326), (12, vI b329), (13, vI x140_13_329)]) dX10_measure_167 (by decide) rfl ?_
                  refine g_ldc (z := 1000000) dX10_measure_169 t_1133 (by decide) ?_
                  refine g_iload dX10_measure_171 rfl ?_
                  refine g_lload dX10_measure_173 rfl ?_
                  refine g_sI (av := [vL rc581]) (st := [vI x140_5_329, vI 1000000]) (m_X10_nodesIn G Pc581 rc581 ⟨by omega, by omega⟩ hBc581  _ (fun rc582 hc582 => ⟨rc582, rfl, ?_⟩)) cf_X10_nodesIn t_1134 rfl (Nat.le_of_ble_eq_true rfl) (by omega) rfl dX10_measure_175
                  refine g_iadd dX10_measure_178 ?_
                  refine g_norm (fun r583 h_r583 e_r583 => ?_)
                  refine g_sI (av := [vI 1000000, vI r583]) (st := []) (m_J9_min_7cf53 G Pc581 1000000 r583 (by decide) ⟨by omega, by omega⟩ hBc581  _ (fun rc584 hc584 gc584_m => ⟨rc584, rfl, ?_⟩)) cf_J9_min_7cf53 t_1128 rfl (Nat.le_of_ble_eq_true rfl) (by omega) rfl dX10_measure_179
                  refine g_istore (l1 := [(5, vI rc584), (14, vL rc581), (0, vR 125), (3, vI a3), (4, vI r2), (6, vI x140_6_329), (7, vI x140_7_329), (11, vR rc326), (12, vI b329), (13, vI x140_13_329)]) dX10_measure_182 (by decide) rfl ?_
                  refine g_iload dX10_measure_184 rfl ?_
                  refine g_aload dX10_measure_186 rfl ?_
                  refine x_g11_1 (n := (crX rc326 1)) hc326 ffX10_163 dX10_measure_188 rfl ?_
                  refine g_iload dX10_measure_191 rfl ?_
                  refine x_l13 (z := (Pc581 (crX rc326 1) x140_13_329)) (ck_11_1 hc326) dX10_measure_193 ⟨by omega, by omega⟩ rfl ?_
                  refine g_lload dX10_measure_194 rfl ?_
                  refine g_sI (av := [vL rc581]) (st := [vI (Pc581 (crX rc326 1) x140_13_329), vI x140_6_329]) (m_X10_testsIn G Pc581 rc581 ⟨by omega, by omega⟩ hBc581  _ (fun rc585 hc585 => ⟨rc585, rfl, ?_⟩)) cf_X10_testsIn t_1138 rfl (Nat.le_of_ble_eq_true rfl) (by omega) rfl dX10_measure_196
                  refine g_imul dX10_measure_199 ?_
                  refine g_norm (fun r586 h_r586 e_r586 => ?_)
                  refine g_iadd dX10_measure_200 ?_
                  refine g_norm (fun r587 h_r587 e_r587 => ?_)
                  refine g_istore (l1 := [(6, vI r587), (5, vI rc584), (14, vL rc581), (0, vR 125), (3, vI a3), (4, vI r2), (7, vI x140_7_329), (11, vR rc326), (12, vI b329), (13, vI x140_13_329)]) dX10_measure_201 (by decide) rfl ?_
                  refine g_iload dX10_measure_203 rfl ?_
                  refine g_lload dX10_measure_205 rfl ?_
                  refine g_sI (av := [vL rc581]) (st := [vI x140_7_329]) (m_X10_longestIn G Pc581 rc581 ⟨by omega, by omega⟩ hBc581  _ (fun rc588 hc588 => ⟨rc588, rfl, ?_⟩)) cf_X10_longestIn t_1142 rfl (Nat.le_of_ble_eq_true rfl) (by omega) rfl dX10_measure_207
                  refine g_iconst dX10_measure_210 ?_
                  refine g_iadd dX10_measure_211 ?_
                  refine g_norm (fun r589 h_r589 e_r589 => ?_)
                  refine g_sI (av := [vI x140_7_329, vI r589]) (st := []) (m_J9_max_7cf53 G Pc581 x140_7_329 r589 ⟨by omega, by omega⟩ ⟨by omega, by omega⟩ hBc581  _ (fun rc590 hc590 gc590_m => ⟨rc590, rfl, ?_⟩)) cf_J9_max_7cf53 t_1118 rfl (Nat.le_of_ble_eq_true rfl) (by omega) rfl dX10_measure_212
                  refine g_istore (l1 := [(7, vI rc590), (6, vI r587), (5, vI rc584), (14, vL rc581), (0, vR 125), (3, vI a3), (4, vI r2), (11, vR rc326), (12, vI b329), (13, vI x140_13_329)]) dX10_measure_215 (by decide) rfl ?_
                  refine g_iinc (l1 := [(13, vI (x140_13_329 + 1)), (7, vI rc590), (6, vI r587), (5, vI rc584), (14, vL rc581), (0, vR 125), (3, vI a3), (4, vI r2), (11, vR rc326), (12, vI b329)]) dX10_measure_217 rfl (by decide) rfl ?_
                  refine g_goto (tgt := 140) dX10_measure_220 (by decide) ?_
                  refine g_forget (l1 := [(0, vR 125), (3, vI a3), (4, vI r2), (5, vI rc584), (6, vI r587), (7, vI rc590), (11, vR rc326), (12, vI b329), (13, vI (x140_13_329 + 1))]) (by intro q hq; simp only [List.mem_cons, List.not_mem_nil, or_false] at hq ⊢; rcases hq with rfl | rfl | rfl | rfl | rfl | rfl | rfl | rfl | rfl <;> simp) ?_
                  exact ih140_329 (x140_13_329 + 1) ⟨by omega, by omega⟩ r587 ⟨by omega, by omega⟩ rc590 ⟨by omega, by omega⟩ rc584 ⟨by omega, by omega⟩ _ hBc581 (FrX.c (FrX.c FrX.rf hE140_329 rfl) hFc581 rfl) (by omega)
              refine g_forget (l1 := [(0, vR 125), (3, vI a3), (4, vI r2), (5, vI 1), (6, vI rc325), (7, vI 0), (11, vR rc326), (12, vI b329), (13, vI 0)]) (by intro q hq; simp only [List.mem_cons, List.not_mem_nil, or_false] at hq ⊢; rcases hq with rfl | rfl | rfl | rfl | rfl | rfl | rfl | rfl | rfl <;> simp) ?_
              exact L140_329 _ 0 (by decide) rc325 ⟨by omega, by omega⟩ 0 (by decide) 1 (by decide) _ hBc326 FrX.rf (Nat.lt_succ_self _)
          · refine g_aload_n dX10_measure_48 rfl ?_
            refine x_g51_3 (n := 152) (⟨by decide, rfl⟩ : kx 125 51) ffX10_21 dX10_measure_49 rfl ?_
            refine g_iload dX10_measure_52 rfl ?_
            refine x_l54 (z := (P 152 r2)) (⟨by decide, rfl⟩ : kx 152 54) dX10_measure_54 ⟨by omega, by omega⟩ rfl ?_
            exact g_retL dX10_measure_55 rfl (hQ (P 152 r2) ⟨by have q0 := bx_54 (o := 152) (k := r2) hB (⟨by decide, rfl⟩ : kx 152 54); omega, by have q0 := bx_54 (o := 152) (k := r2) hB (⟨by decide, rfl⟩ : kx 152 54); omega⟩ _ hB FrX.rf )
        · refine g_lconst (z := 0) dX10_measure_27 (by decide) ?_
          exact g_retL dX10_measure_28 rfl (hQ 0 (by decide) _ hB FrX.rf )
theorem m_X10_measure (G : GT) (P : PH) (a1 : Int) (a2 : Int) (a3 : Int) (h_a1 : (-2147483648) ≤ a1 ∧ a1 ≤ 2147483647) (h_a2 : (-2147483648) ≤ a2 ∧ a2 ≤ 2147483647) (h_a3 : (-2147483648) ≤ a3 ∧ a3 ≤ 2147483647) (hB : BdX P) (hm : (22 - a3 : Int).toNat < 23) (Q : Option PV → PH → Prop) (hQ : ∀ (r : Int) (_ : (-9223372036854775808) ≤ r ∧ r ≤ 9223372036854775807) (P1 : PH) (_ : BdX P1) (_ : FrX ([(5, 2), (11, 3), (51, 5)], [6, 7, 12, 13, 54]) P P1), Q (some (vL r)) P1) : Ct WSX G 28 iX10_measure [vR 125, vI a1, vI a2, vI a3] P Q := mr_X10_measure G 23 P a1 a2 a3 h_a1 h_a2 h_a3 hB  hm Q hQ
set_option maxRecDepth 100000 in
set_option maxHeartbeats 4000000 in
theorem m_X10_measureAll (G : GT) (P : PH) (o1 : Nat) (a1 : Int) (k_o1 : kx o1 14) (h_a1 : (-2147483648) ≤ a1 ∧ a1 ≤ 2147483647) (hB : BdX P) (Q : Option PV → PH → Prop) (hQ : ∀ (r : Int) (_ : (-9223372036854775808) ≤ r ∧ r ≤ 9223372036854775807) (P1 : PH) (_ : BdX P1) (_ : FrX ([(5, 2), (11, 3), (51, 4), (51, 5), (51, 12), (51, 14)], [6, 7, 12, 13, 54]) P P1), Q (some (vL r)) P1) : Ct WSX G 29 iX10_measureAll [vR 125, vR o1, vI a1] P Q := by
  refine Ct.of (by decide) (l0 := [(0, vR 125), (1, vR o1), (2, vI a1)]) rfl (Nat.le_of_ble_eq_true rfl) ?_
  refine g_aload_n dX10_measureAll_0 rfl ?_
  refine g_aload_n dX10_measureAll_1 rfl ?_
  refine x_p51_14 (⟨by decide, rfl⟩ : kx 125 51) pfX10_33 dX10_measureAll_2 ?_
  have hB1 := bw_125_14 (x := o1) hB k_o1
  refine g_aload_n dX10_measureAll_5 rfl ?_
  refine g_iload_n dX10_measureAll_6 rfl ?_
  refine x_p51_12 (⟨by decide, rfl⟩ : kx 125 51) pfX10_80 dX10_measureAll_7 ?_
  have hB2 := by_51_12 (z := a1) hB1 (⟨by decide, rfl⟩ : kx 125 51) ⟨by omega, by omega⟩
  refine g_aload_n dX10_measureAll_10 rfl ?_
  refine g_dup dX10_measureAll_11 rfl ?_
  refine x_g51_4 (z := (P 125 4)) (⟨by decide, rfl⟩ : kx 125 51) ffX10_128 dX10_measureAll_12 ((up_k (by decide)).trans ((up_k (by decide)).trans rfl)) ?_
  refine g_iconst dX10_measureAll_15 ?_
  refine g_iadd dX10_measureAll_16 ?_
  refine g_norm (fun r3 h_r3 e_r3 => ?_)
  refine x_p51_4 (⟨by decide, rfl⟩ : kx 125 51) pfX10_128 dX10_measureAll_17 ?_
  have hB4 := by_51_4 (z := r3) hB2 (⟨by decide, rfl⟩ : kx 125 51) ⟨by omega, by omega⟩
  refine g_aload_n dX10_measureAll_20 rfl ?_
  refine g_iconst dX10_measureAll_21 ?_
  refine x_p51_5 (⟨by decide, rfl⟩ : kx 125 51) pfX10_131 dX10_measureAll_22 ?_
  have hB5 := by_51_5 (z := 0) hB4 (⟨by decide, rfl⟩ : kx 125 51) (by decide)
  refine g_aload_n dX10_measureAll_25 rfl ?_
  refine g_aload_n dX10_measureAll_26 rfl ?_
  refine x_g51_14 (n := o1) (⟨by decide, rfl⟩ : kx 125 51) ffX10_33 dX10_measureAll_27 ((up_k (by decide)).trans ((up_k (by decide)).trans ((up_k (by decide)).trans up_same))) ?_
  refine g_vI (av := []) (o := o1) (st := [vR 125]) (m_X5_allArms G (up (up (up (up P 125 14 ((o1 : Nat) : Int)) 125 12 a1) 125 4 r3) 125 5 0) o1 k_o1 hB5  _ (fun rc6 hc6 => ⟨rc6, rfl, ?_⟩)) cf_X5_allArms t_1074 rfl (show kx o1 14 from k_o1).1 ((show kx o1 14 from k_o1).sh rfl) rfl rfl (Nat.le_of_ble_eq_true rfl) (by decide) rfl dX10_measureAll_30
  refine g_aload_n dX10_measureAll_33 rfl ?_
  refine g_vI (av := []) (o := 125) (st := [vI rc6, vR 125]) (m_X10_allColumns G (up (up (up (up P 125 14 ((o1 : Nat) : Int)) 125 12 a1) 125 4 r3) 125 5 0)  hB5  _ (fun rc7 hc7 => ⟨rc7, rfl, ?_⟩)) cf_X10_allColumns t_1078 rfl (show kx 125 51 from (⟨by decide, rfl⟩ : kx 125 51)).1 ((show kx 125 51 from (⟨by decide, rfl⟩ : kx 125 51)).sh rfl) rfl rfl (Nat.le_of_ble_eq_true rfl) (by decide) rfl dX10_measureAll_34
  refine g_iconst dX10_measureAll_37 ?_
  refine g_sL (av := [vR 125, vI rc6, vI rc7, vI 0]) (st := []) (m_X10_measure G (up (up (up (up P 125 14 ((o1 : Nat) : Int)) 125 12 a1) 125 4 r3) 125 5 0) rc6 rc7 0 ⟨by omega, by omega⟩ ⟨by omega, by omega⟩ (by decide) hB5 (by omega) _ (fun rc8 hc8 Pc8 hBc8 hFc8 => ⟨rc8, rfl, ?_⟩)) cf_X10_measure t_1082 rfl (Nat.le_of_ble_eq_true rfl) (by decide) rfl dX10_measureAll_38
  exact g_retL dX10_measureAll_41 rfl (hQ rc8 ⟨by omega, by omega⟩ _ hBc8 (FrX.c (FrX.s (FrX.s (FrX.s (FrX.s FrX.rf (⟨by decide, rfl⟩ : kx 125 51) rfl) (⟨by decide, rfl⟩ : kx 125 51) rfl) (⟨by decide, rfl⟩ : kx 125 51) rfl) (⟨by decide, rfl⟩ : kx 125 51) rfl) hFc8 rfl) )
set_option maxRecDepth 100000 in
set_option maxHeartbeats 4000000 in
theorem m_X10_firstColumn (G : GT) (P : PH) (o1 : Nat) (a1 : Int) (k_o1 : kx o1 14) (h_a1 : (-2147483648) ≤ a1 ∧ a1 ≤ 2147483647) (hB : BdX P) (Q : Option PV → PH → Prop) (hQ : ∀ (r : Int) (_ : (-1) ≤ r ∧ r ≤ 3) (P1 : PH) (_ : BdX P1) (_ : FrX ([(5, 2), (51, 12), (51, 14)], [6]) P P1), Q (some (vI r)) P1) : Ct WSX G 5 iX10_firstColumn [vR 125, vR o1, vI a1] P Q := by
  refine Ct.of (by decide) (l0 := [(0, vR 125), (1, vR o1), (2, vI a1)]) rfl (Nat.le_of_ble_eq_true rfl) ?_
  refine g_aload_n dX10_firstColumn_0 rfl ?_
  refine g_aload_n dX10_firstColumn_1 rfl ?_
  refine x_p51_14 (⟨by decide, rfl⟩ : kx 125 51) pfX10_33 dX10_firstColumn_2 ?_
  have hB1 := bw_125_14 (x := o1) hB k_o1
  refine g_aload_n dX10_firstColumn_5 rfl ?_
  refine g_iload_n dX10_firstColumn_6 rfl ?_
  refine x_p51_12 (⟨by decide, rfl⟩ : kx 125 51) pfX10_80 dX10_firstColumn_7 ?_
  have hB2 := by_51_12 (z := a1) hB1 (⟨by decide, rfl⟩ : kx 125 51) ⟨by omega, by omega⟩
  refine g_aload_n dX10_firstColumn_10 rfl ?_
  refine x_g51_14 (n := o1) (⟨by decide, rfl⟩ : kx 125 51) ffX10_33 dX10_firstColumn_11 ((up_k (by decide)).trans up_same) ?_
  refine g_vI (av := []) (o := o1) (st := []) (m_X5_allArms G (up (up P 125 14 ((o1 : Nat) : Int)) 125 12 a1) o1 k_o1 hB2  _ (fun rc3 hc3 => ⟨rc3, rfl, ?_⟩)) cf_X5_allArms t_1074 rfl (show kx o1 14 from k_o1).1 ((show kx o1 14 from k_o1).sh rfl) rfl rfl (Nat.le_of_ble_eq_true rfl) (by decide) rfl dX10_firstColumn_14
  refine g_istore_n (l1 := [(3, vI rc3), (0, vR 125), (1, vR o1), (2, vI a1)]) dX10_firstColumn_17 (by decide) rfl ?_
  refine g_iconst dX10_firstColumn_18 ?_
  refine g_istore (l1 := [(4, vI 0), (3, vI rc3), (0, vR 125), (1, vR o1), (2, vI a1)]) dX10_firstColumn_19 (by decide) rfl ?_
  have L21_3 : ∀ (n21_3 : Nat) (x21_4_3 : Int) (h_x21_4_3 : 0 ≤ x21_4_3 ∧ x21_4_3 ≤ 13) (x21_3_3 : Int) (h_x21_3_3 : (-2147483648) ≤ x21_3_3 ∧ x21_3_3 ≤ 2147483647) (H21_3 : PH) (hB21_3 : BdX H21_3) (hE21_3 : FrX ([(5, 2)], [6]) (up (up P 125 14 ((o1 : Nat) : Int)) 125 12 a1) H21_3) (hm21_3 : ((14 - x21_4_3) : Int).toNat < n21_3), Go WSX G 5 iX10_firstColumn 21 [(0, vR 125), (3, vI x21_3_3), (4, vI x21_4_3)] [] H21_3 Q := by
    intro n21_3
    induction n21_3 with
    | zero => intro x21_4_3 h_x21_4_3 x21_3_3 h_x21_3_3 H21_3 hB21_3 hE21_3 hm21_3; exact absurd hm21_3 (Nat.not_lt_zero _)
    | succ n21_3 ih21_3 =>
    intro x21_4_3 h_x21_4_3 x21_3_3 h_x21_3_3 H21_3 hB21_3 hE21_3 hm21_3
    refine g_iload dX10_firstColumn_21 rfl ?_
    refine g_bipush dX10_firstColumn_23 (by decide) ?_
    refine g_icmp_gt (tgt := 92) dX10_firstColumn_25 (by decide) ⟨by omega, by omega⟩ (by decide) (fun k115 => ?_) (fun k115 => ?_)
    · refine g_iconst dX10_firstColumn_92 ?_
      exact g_retI dX10_firstColumn_93 rfl (hQ (-1) (by decide) _ hB21_3 (FrX.c (FrX.s (FrX.s FrX.rf (⟨by decide, rfl⟩ : kx 125 51) rfl) (⟨by decide, rfl⟩ : kx 125 51) rfl) hE21_3 rfl) )
    · refine g_aload_n dX10_firstColumn_28 rfl ?_
      refine g_iload_n dX10_firstColumn_29 rfl ?_
      refine g_aload_n dX10_firstColumn_30 rfl ?_
      refine g_vI (av := []) (o := 125) (st := [vI x21_3_3, vR 125]) (m_X10_allColumns G H21_3  hB21_3  _ (fun rc116 hc116 => ⟨rc116, rfl, ?_⟩)) cf_X10_allColumns t_1078 rfl (show kx 125 51 from (⟨by decide, rfl⟩ : kx 125 51)).1 ((show kx 125 51 from (⟨by decide, rfl⟩ : kx 125 51)).sh rfl) rfl rfl (Nat.le_of_ble_eq_true rfl) (by decide) rfl dX10_firstColumn_31
      refine g_vI (av := [vI x21_3_3, vI rc116]) (o := 125) (st := []) (m_X10_columnAsked G H21_3 x21_3_3 rc116 ⟨by omega, by omega⟩ ⟨by omega, by omega⟩ hB21_3  _ (fun rc117 hc117 Pc117 hBc117 hFc117 => ⟨rc117, rfl, ?_⟩)) cf_X10_columnAsked t_1085 rfl (show kx 125 51 from (⟨by decide, rfl⟩ : kx 125 51)).1 ((show kx 125 51 from (⟨by decide, rfl⟩ : kx 125 51)).sh rfl) rfl rfl (Nat.le_of_ble_eq_true rfl) (by decide) rfl dX10_firstColumn_34
      refine g_istore (l1 := [(5, vI rc117), (0, vR 125), (3, vI x21_3_3), (4, vI x21_4_3)]) dX10_firstColumn_37 (by decide) rfl ?_
      refine g_aload_n dX10_firstColumn_39 rfl ?_
      refine x_g51_14 (n := o1) (⟨by decide, rfl⟩ : kx 125 51) ffX10_33 dX10_firstColumn_40 ((FrX.g hFc117 (⟨by decide, rfl⟩ : kx 125 51) rfl).trans ((FrX.g hE21_3 (⟨by decide, rfl⟩ : kx 125 51) rfl).trans ((up_k (by decide)).trans up_same))) ?_
      refine g_iload_n dX10_firstColumn_43 rfl ?_
      refine g_vI (av := [vI x21_3_3]) (o := o1) (st := []) (m_X5_firstOf G Pc117 o1 x21_3_3 k_o1 ⟨by omega, by omega⟩ hBc117  _ (fun rc118 hc118 => ⟨rc118, rfl, ?_⟩)) cf_X5_firstOf t_1089 rfl (show kx o1 14 from k_o1).1 ((show kx o1 14 from k_o1).sh rfl) rfl rfl (Nat.le_of_ble_eq_true rfl) (by decide) rfl dX10_firstColumn_44
      refine g_istore (l1 := [(6, vI rc118), (5, vI rc117), (0, vR 125), (3, vI x21_3_3), (4, vI x21_4_3)]) dX10_firstColumn_47 (by decide) rfl ?_
      refine g_iload dX10_firstColumn_49 rfl ?_
      refine g_iconst dX10_firstColumn_51 ?_
      refine g_icmp_ne (tgt := 74) dX10_firstColumn_52 (by decide) ⟨by omega, by omega⟩ (by decide) (fun k119 => ?_) (fun k119 => ?_)
      · refine g_iload dX10_firstColumn_74 rfl ?_
        exact g_retI dX10_firstColumn_76 rfl (hQ rc117 ⟨by omega, by omega⟩ _ hBc117 (FrX.c (FrX.c (FrX.s (FrX.s FrX.rf (⟨by decide, rfl⟩ : kx 125 51) rfl) (⟨by decide, rfl⟩ : kx 125 51) rfl) hE21_3 rfl) hFc117 rfl) )
      · refine g_iload dX10_firstColumn_55 rfl ?_
        refine g_iconst dX10_firstColumn_57 ?_
        refine g_icmp_eq (tgt := 74) dX10_firstColumn_58 (by decide) ⟨by omega, by omega⟩ (by decide) (fun k120 => ?_) (fun k120 => ?_)
        · refine g_iload dX10_firstColumn_74 rfl ?_
          exact g_retI dX10_firstColumn_76 rfl (hQ rc117 ⟨by omega, by omega⟩ _ hBc117 (FrX.c (FrX.c (FrX.s (FrX.s FrX.rf (⟨by decide, rfl⟩ : kx 125 51) rfl) (⟨by decide, rfl⟩ : kx 125 51) rfl) hE21_3 rfl) hFc117 rfl) )
        · refine g_aload_n dX10_firstColumn_61 rfl ?_
          refine x_g51_13 (n := (P 125 13).toNat) (⟨by decide, rfl⟩ : kx 125 51) ffX10_29 dX10_firstColumn_62 ((FrX.g hFc117 (⟨by decide, rfl⟩ : kx 125 51) rfl).trans ((FrX.g hE21_3 (⟨by decide, rfl⟩ : kx 125 51) rfl).trans ((up_k (by decide)).trans ((up_k (by decide)).trans (br_125_13 hB))))) ?_
          refine g_iload dX10_firstColumn_65 rfl ?_
          refine g_vI (av := [vI rc118]) (o := (P 125 13).toNat) (st := []) (m_X9_guardOf G Pc117 (P 125 13).toNat rc118 (bk_125_13 hB) ⟨by omega, by omega⟩ hBc117  _ (fun rc121 hc121 => ⟨rc121, rfl, ?_⟩)) cf_X9_guardOf t_1119 rfl (show kx (P 125 13).toNat 28 from (bk_125_13 hB)).1 ((show kx (P 125 13).toNat 28 from (bk_125_13 hB)).sh rfl) rfl rfl (Nat.le_of_ble_eq_true rfl) (by decide) rfl dX10_firstColumn_67
          refine g_iconst dX10_firstColumn_70 ?_
          refine g_icmp_ne (tgt := 77) dX10_firstColumn_71 (by decide) ⟨by omega, by omega⟩ (by decide) (fun k122 => ?_) (fun k122 => ?_)
          · refine g_iload_n dX10_firstColumn_77 rfl ?_
            refine g_iconst dX10_firstColumn_78 ?_
            refine g_iload dX10_firstColumn_79 rfl ?_
            refine g_ishl dX10_firstColumn_81 ?_
            refine g_nm (fun b123 e_b123 => ?_)
            have h_b123 := ishl_ir 1 rc118
            rw [← e_b123] at h_b123
            refine g_iconst dX10_firstColumn_82 ?_
            refine g_ixor dX10_firstColumn_83 ?_
            refine g_nm (fun b124 e_b124 => ?_)
            have h_b124 := ixor_ir b123 (-1)
            rw [← e_b124] at h_b124
            refine g_iand dX10_firstColumn_84 ?_
            refine g_nm (fun b125 e_b125 => ?_)
            have h_b125 := iand_ir x21_3_3 b124
            rw [← e_b125] at h_b125
            refine g_istore_n (l1 := [(3, vI b125), (6, vI rc118), (5, vI rc117), (0, vR 125), (4, vI x21_4_3)]) dX10_firstColumn_85 (by decide) rfl ?_
            refine g_iinc (l1 := [(4, vI (x21_4_3 + 1)), (3, vI b125), (6, vI rc118), (5, vI rc117), (0, vR 125)]) dX10_firstColumn_86 rfl (by decide) rfl ?_
            refine g_goto (tgt := 21) dX10_firstColumn_89 (by decide) ?_
            refine g_forget (l1 := [(0, vR 125), (3, vI b125), (4, vI (x21_4_3 + 1))]) (by intro q hq; simp only [List.mem_cons, List.not_mem_nil, or_false] at hq ⊢; rcases hq with rfl | rfl | rfl <;> simp) ?_
            exact ih21_3 (x21_4_3 + 1) ⟨by omega, by omega⟩ b125 ⟨by omega, by omega⟩ _ hBc117 (FrX.c (FrX.c FrX.rf hE21_3 rfl) hFc117 rfl) (by omega)
          · refine g_iload dX10_firstColumn_74 rfl ?_
            exact g_retI dX10_firstColumn_76 rfl (hQ rc117 ⟨by omega, by omega⟩ _ hBc117 (FrX.c (FrX.c (FrX.s (FrX.s FrX.rf (⟨by decide, rfl⟩ : kx 125 51) rfl) (⟨by decide, rfl⟩ : kx 125 51) rfl) hE21_3 rfl) hFc117 rfl) )
  refine g_forget (l1 := [(0, vR 125), (3, vI rc3), (4, vI 0)]) (by intro q hq; simp only [List.mem_cons, List.not_mem_nil, or_false] at hq ⊢; rcases hq with rfl | rfl | rfl <;> simp) ?_
  exact L21_3 _ 0 (by decide) rc3 ⟨by omega, by omega⟩ _ hB2 FrX.rf (Nat.lt_succ_self _)
set_option maxRecDepth 100000 in
set_option maxHeartbeats 4000000 in
theorem m_X10_columnsAsked (G : GT) (P : PH) (o1 : Nat) (a1 : Int) (k_o1 : kx o1 14) (h_a1 : (-2147483648) ≤ a1 ∧ a1 ≤ 2147483647) (hB : BdX P) (Q : Option PV → PH → Prop) (hQ : ∀ (r : Int) (_ : (-2147483648) ≤ r ∧ r ≤ 2147483647) (P1 : PH) (_ : BdX P1) (_ : FrX ([(5, 2), (51, 12), (51, 14)], [6]) P P1), Q (some (vI r)) P1) : Ct WSX G 5 iX10_columnsAsked [vR 125, vR o1, vI a1] P Q := by
  refine Ct.of (by decide) (l0 := [(0, vR 125), (1, vR o1), (2, vI a1)]) rfl (Nat.le_of_ble_eq_true rfl) ?_
  refine g_aload_n dX10_columnsAsked_0 rfl ?_
  refine g_aload_n dX10_columnsAsked_1 rfl ?_
  refine x_p51_14 (⟨by decide, rfl⟩ : kx 125 51) pfX10_33 dX10_columnsAsked_2 ?_
  have hB1 := bw_125_14 (x := o1) hB k_o1
  refine g_aload_n dX10_columnsAsked_5 rfl ?_
  refine g_aload_n dX10_columnsAsked_6 rfl ?_
  refine x_g14_3 (z := (P o1 3)) k_o1 ffX10_179 dX10_columnsAsked_7 ((up_o (kx.ne k_o1 (⟨by decide, rfl⟩ : kx 125 51) rfl)).trans rfl) ?_
  refine x_p51_12 (⟨by decide, rfl⟩ : kx 125 51) pfX10_80 dX10_columnsAsked_10 ?_
  have hB2 := by_51_12 (z := (P o1 3)) hB1 (⟨by decide, rfl⟩ : kx 125 51) ⟨by have q0 := bx_14_3 (o := o1) hB k_o1; omega, by have q0 := bx_14_3 (o := o1) hB k_o1; omega⟩
  refine g_aload_n dX10_columnsAsked_13 rfl ?_
  refine x_g51_14 (n := o1) (⟨by decide, rfl⟩ : kx 125 51) ffX10_33 dX10_columnsAsked_14 ((up_k (by decide)).trans up_same) ?_
  refine g_vI (av := []) (o := o1) (st := []) (m_X5_allArms G (up (up P 125 14 ((o1 : Nat) : Int)) 125 12 (P o1 3)) o1 k_o1 hB2  _ (fun rc3 hc3 => ⟨rc3, rfl, ?_⟩)) cf_X5_allArms t_1074 rfl (show kx o1 14 from k_o1).1 ((show kx o1 14 from k_o1).sh rfl) rfl rfl (Nat.le_of_ble_eq_true rfl) (by decide) rfl dX10_columnsAsked_17
  refine g_istore_n (l1 := [(3, vI rc3), (0, vR 125), (1, vR o1), (2, vI a1)]) dX10_columnsAsked_20 (by decide) rfl ?_
  refine g_aload_n dX10_columnsAsked_21 rfl ?_
  refine g_vI (av := []) (o := 125) (st := []) (m_X10_allColumns G (up (up P 125 14 ((o1 : Nat) : Int)) 125 12 (P o1 3))  hB2  _ (fun rc4 hc4 => ⟨rc4, rfl, ?_⟩)) cf_X10_allColumns t_1078 rfl (show kx 125 51 from (⟨by decide, rfl⟩ : kx 125 51)).1 ((show kx 125 51 from (⟨by decide, rfl⟩ : kx 125 51)).sh rfl) rfl rfl (Nat.le_of_ble_eq_true rfl) (by decide) rfl dX10_columnsAsked_22
  refine g_istore (l1 := [(4, vI rc4), (3, vI rc3), (0, vR 125), (1, vR o1), (2, vI a1)]) dX10_columnsAsked_25 (by decide) rfl ?_
  refine g_iconst dX10_columnsAsked_27 ?_
  refine g_istore (l1 := [(5, vI 0), (4, vI rc4), (3, vI rc3), (0, vR 125), (1, vR o1), (2, vI a1)]) dX10_columnsAsked_28 (by decide) rfl ?_
  refine g_iconst dX10_columnsAsked_30 ?_
  refine g_istore (l1 := [(6, vI 0), (5, vI 0), (4, vI rc4), (3, vI rc3), (0, vR 125), (1, vR o1), (2, vI a1)]) dX10_columnsAsked_31 (by decide) rfl ?_
  have L33_4 : ∀ (n33_4 : Nat) (x33_6_4 : Int) (h_x33_6_4 : 0 ≤ x33_6_4 ∧ x33_6_4 ≤ 21) (x33_5_4 : Int) (h_x33_5_4 : 0 ≤ x33_5_4 ∧ x33_5_4 ≤ 21) (x33_4_4 : Int) (h_x33_4_4 : (-2147483648) ≤ x33_4_4 ∧ x33_4_4 ≤ 2147483647) (x33_3_4 : Int) (h_x33_3_4 : (-2147483648) ≤ x33_3_4 ∧ x33_3_4 ≤ 2147483647) (H33_4 : PH) (hB33_4 : BdX H33_4) (hE33_4 : FrX ([(5, 2)], [6]) (up (up P 125 14 ((o1 : Nat) : Int)) 125 12 (P o1 3)) H33_4) (i33_0_4 : x33_5_4 ≤ x33_6_4) (hm33_4 : ((22 - x33_6_4) : Int).toNat < n33_4), Go WSX G 5 iX10_columnsAsked 33 [(0, vR 125), (2, vI a1), (3, vI x33_3_4), (4, vI x33_4_4), (5, vI x33_5_4), (6, vI x33_6_4)] [] H33_4 Q := by
    intro n33_4
    induction n33_4 with
    | zero => intro x33_6_4 h_x33_6_4 x33_5_4 h_x33_5_4 x33_4_4 h_x33_4_4 x33_3_4 h_x33_3_4 H33_4 hB33_4 hE33_4 i33_0_4 hm33_4; exact absurd hm33_4 (Nat.not_lt_zero _)
    | succ n33_4 ih33_4 =>
    intro x33_6_4 h_x33_6_4 x33_5_4 h_x33_5_4 x33_4_4 h_x33_4_4 x33_3_4 h_x33_3_4 H33_4 hB33_4 hE33_4 i33_0_4 hm33_4
    refine g_iload dX10_columnsAsked_33 rfl ?_
    refine g_bipush dX10_columnsAsked_35 (by decide) ?_
    refine g_icmp_gt (tgt := 164) dX10_columnsAsked_37 (by decide) ⟨by omega, by omega⟩ (by decide) (fun k424 => ?_) (fun k424 => ?_)
    · refine g_iload dX10_columnsAsked_164 rfl ?_
      exact g_retI dX10_columnsAsked_166 rfl (hQ x33_5_4 ⟨by omega, by omega⟩ _ hB33_4 (FrX.c (FrX.s (FrX.s FrX.rf (⟨by decide, rfl⟩ : kx 125 51) rfl) (⟨by decide, rfl⟩ : kx 125 51) rfl) hE33_4 rfl) )
    · refine g_iload_n dX10_columnsAsked_40 rfl ?_
      refine g_if_eq (tgt := 164) dX10_columnsAsked_41 (by decide) ⟨by omega, by omega⟩ (fun k425 => ?_) (fun k425 => ?_)
      · refine g_iload dX10_columnsAsked_164 rfl ?_
        exact g_retI dX10_columnsAsked_166 rfl (hQ x33_5_4 ⟨by omega, by omega⟩ _ hB33_4 (FrX.c (FrX.s (FrX.s FrX.rf (⟨by decide, rfl⟩ : kx 125 51) rfl) (⟨by decide, rfl⟩ : kx 125 51) rfl) hE33_4 rfl) )
      · refine g_aload_n dX10_columnsAsked_44 rfl ?_
        refine g_iload_n dX10_columnsAsked_45 rfl ?_
        refine g_iload dX10_columnsAsked_46 rfl ?_
        refine g_vI (av := [vI x33_3_4, vI x33_4_4]) (o := 125) (st := []) (m_X10_columnAsked G H33_4 x33_3_4 x33_4_4 ⟨by omega, by omega⟩ ⟨by omega, by omega⟩ hB33_4  _ (fun rc426 hc426 Pc426 hBc426 hFc426 => ⟨rc426, rfl, ?_⟩)) cf_X10_columnAsked t_1085 rfl (show kx 125 51 from (⟨by decide, rfl⟩ : kx 125 51)).1 ((show kx 125 51 from (⟨by decide, rfl⟩ : kx 125 51)).sh rfl) rfl rfl (Nat.le_of_ble_eq_true rfl) (by decide) rfl dX10_columnsAsked_48
        refine g_istore (l1 := [(7, vI rc426), (0, vR 125), (2, vI a1), (3, vI x33_3_4), (4, vI x33_4_4), (5, vI x33_5_4), (6, vI x33_6_4)]) dX10_columnsAsked_51 (by decide) rfl ?_
        refine g_iload dX10_columnsAsked_53 rfl ?_
        refine g_iconst dX10_columnsAsked_55 ?_
        have J158_443 : ∀ (x158_3_443 : Int) (h_x158_3_443 : (-2147483648) ≤ x158_3_443 ∧ x158_3_443 ≤ 2147483647) (x158_4_443 : Int) (h_x158_4_443 : (-2147483648) ≤ x158_4_443 ∧ x158_4_443 ≤ 2147483647) (x158_5_443 : Int) (h_x158_5_443 : 0 ≤ x158_5_443 ∧ x158_5_443 ≤ 22) (i158_0_443 : x158_5_443 ≤ x33_6_4 + 1), Go WSX G 5 iX10_columnsAsked 158 [(0, vR 125), (2, vI a1), (3, vI x158_3_443), (4, vI x158_4_443), (5, vI x158_5_443), (6, vI x33_6_4)] [] Pc426 Q := by
          intro x158_3_443 h_x158_3_443 x158_4_443 h_x158_4_443 x158_5_443 h_x158_5_443 i158_0_443
          refine g_iinc (l1 := [(6, vI (x33_6_4 + 1)), (0, vR 125), (2, vI a1), (3, vI x158_3_443), (4, vI x158_4_443), (5, vI x158_5_443)]) dX10_columnsAsked_158 rfl (by decide) rfl ?_
          refine g_goto (tgt := 33) dX10_columnsAsked_161 (by decide) ?_
          refine g_forget (l1 := [(0, vR 125), (2, vI a1), (3, vI x158_3_443), (4, vI x158_4_443), (5, vI x158_5_443), (6, vI (x33_6_4 + 1))]) (by intro q hq; simp only [List.mem_cons, List.not_mem_nil, or_false] at hq ⊢; rcases hq with rfl | rfl | rfl | rfl | rfl | rfl <;> simp) ?_
          exact ih33_4 (x33_6_4 + 1) ⟨by omega, by omega⟩ x158_5_443 ⟨by omega, by omega⟩ x158_4_443 ⟨by omega, by omega⟩ x158_3_443 ⟨by omega, by omega⟩ _ hBc426 (FrX.c (FrX.c FrX.rf hE33_4 rfl) hFc426 rfl) (by omega) (by omega)
        refine g_icmp_eq (tgt := 98) dX10_columnsAsked_56 (by decide) ⟨by omega, by omega⟩ (by decide) (fun k445 => ?_) (fun k445 => ?_)
        · refine g_aload_n dX10_columnsAsked_98 rfl ?_
          refine x_g51_14 (n := o1) (⟨by decide, rfl⟩ : kx 125 51) ffX10_33 dX10_columnsAsked_99 ((FrX.g hFc426 (⟨by decide, rfl⟩ : kx 125 51) rfl).trans ((FrX.g hE33_4 (⟨by decide, rfl⟩ : kx 125 51) rfl).trans ((up_k (by decide)).trans up_same))) ?_
          refine g_iload_n dX10_columnsAsked_102 rfl ?_
          refine g_vI (av := [vI x33_3_4]) (o := o1) (st := []) (m_X5_firstOf G Pc426 o1 x33_3_4 k_o1 ⟨by omega, by omega⟩ hBc426  _ (fun rc446 hc446 => ⟨rc446, rfl, ?_⟩)) cf_X5_firstOf t_1089 rfl (show kx o1 14 from k_o1).1 ((show kx o1 14 from k_o1).sh rfl) rfl rfl (Nat.le_of_ble_eq_true rfl) (by decide) rfl dX10_columnsAsked_103
          refine g_istore (l1 := [(8, vI rc446), (7, vI rc426), (0, vR 125), (2, vI a1), (3, vI x33_3_4), (4, vI x33_4_4), (5, vI x33_5_4), (6, vI x33_6_4)]) dX10_columnsAsked_106 (by decide) rfl ?_
          refine g_aload_n dX10_columnsAsked_108 rfl ?_
          refine x_g51_13 (n := (P 125 13).toNat) (⟨by decide, rfl⟩ : kx 125 51) ffX10_29 dX10_columnsAsked_109 ((FrX.g hFc426 (⟨by decide, rfl⟩ : kx 125 51) rfl).trans ((FrX.g hE33_4 (⟨by decide, rfl⟩ : kx 125 51) rfl).trans ((up_k (by decide)).trans ((up_k (by decide)).trans (br_125_13 hB))))) ?_
          refine g_iload dX10_columnsAsked_112 rfl ?_
          refine g_vI (av := [vI rc446]) (o := (P 125 13).toNat) (st := []) (m_X9_guardOf G Pc426 (P 125 13).toNat rc446 (bk_125_13 hB) ⟨by omega, by omega⟩ hBc426  _ (fun rc447 hc447 => ⟨rc447, rfl, ?_⟩)) cf_X9_guardOf t_1119 rfl (show kx (P 125 13).toNat 28 from (bk_125_13 hB)).1 ((show kx (P 125 13).toNat 28 from (bk_125_13 hB)).sh rfl) rfl rfl (Nat.le_of_ble_eq_true rfl) (by decide) rfl dX10_columnsAsked_114
          refine g_istore (l1 := [(9, vI rc447), (8, vI rc446), (7, vI rc426), (0, vR 125), (2, vI a1), (3, vI x33_3_4), (4, vI x33_4_4), (5, vI x33_5_4), (6, vI x33_6_4)]) dX10_columnsAsked_117 (by decide) rfl ?_
          refine g_iload dX10_columnsAsked_119 rfl ?_
          refine g_iconst dX10_columnsAsked_121 ?_
          refine g_icmp_eq (tgt := 146) dX10_columnsAsked_122 (by decide) ⟨by omega, by omega⟩ (by decide) (fun k448 => ?_) (fun k448 => ?_)
          · refine g_iload dX10_columnsAsked_146 rfl ?_
            exact g_retI dX10_columnsAsked_148 rfl (hQ x33_5_4 ⟨by omega, by omega⟩ _ hBc426 (FrX.c (FrX.c (FrX.s (FrX.s FrX.rf (⟨by decide, rfl⟩ : kx 125 51) rfl) (⟨by decide, rfl⟩ : kx 125 51) rfl) hE33_4 rfl) hFc426 rfl) )
          · refine g_iload dX10_columnsAsked_125 rfl ?_
            refine g_iconst dX10_columnsAsked_127 ?_
            refine g_icmp_eq (tgt := 146) dX10_columnsAsked_128 (by decide) ⟨by omega, by omega⟩ (by decide) (fun k449 => ?_) (fun k449 => ?_)
            · refine g_iload dX10_columnsAsked_146 rfl ?_
              exact g_retI dX10_columnsAsked_148 rfl (hQ x33_5_4 ⟨by omega, by omega⟩ _ hBc426 (FrX.c (FrX.c (FrX.s (FrX.s FrX.rf (⟨by decide, rfl⟩ : kx 125 51) rfl) (⟨by decide, rfl⟩ : kx 125 51) rfl) hE33_4 rfl) hFc426 rfl) )
            · refine g_aload_n dX10_columnsAsked_131 rfl ?_
              refine x_g51_14 (n := o1) (⟨by decide, rfl⟩ : kx 125 51) ffX10_33 dX10_columnsAsked_132 ((FrX.g hFc426 (⟨by decide, rfl⟩ : kx 125 51) rfl).trans ((FrX.g hE33_4 (⟨by decide, rfl⟩ : kx 125 51) rfl).trans ((up_k (by decide)).trans up_same))) ?_
              refine x_g14_2 (z := (P o1 2)) k_o1 ffX10_170 dX10_columnsAsked_135 ((FrX.g hFc426 k_o1 rfl).trans ((FrX.g hE33_4 k_o1 rfl).trans ((up_o (kx.ne k_o1 (⟨by decide, rfl⟩ : kx 125 51) rfl)).trans ((up_o (kx.ne k_o1 (⟨by decide, rfl⟩ : kx 125 51) rfl)).trans rfl)))) ?_
              refine g_iload dX10_columnsAsked_138 rfl ?_
              have f450 := bx_14_2 (o := o1) hB k_o1
              refine g_nI (av := [vI (P o1 2), vI rc447]) (st := []) (m_X11_isIn G Pc426 (P o1 2) rc447 ⟨by have q0 := bx_14_2 (o := o1) hB k_o1; omega, by have q0 := bx_14_2 (o := o1) hB k_o1; omega⟩ ⟨by omega, by omega⟩ hBc426  _ (fun rc451 hc451 => ⟨rc451, rfl, ?_⟩)) cf_X11_isIn (fun U h => h.2.2) rfl (Nat.le_of_ble_eq_true rfl) (by decide) rfl dX10_columnsAsked_140
              refine g_if_eq (tgt := 149) dX10_columnsAsked_143 (by decide) ⟨by omega, by omega⟩ (fun k452 => ?_) (fun k452 => ?_)
              · refine g_iload_n dX10_columnsAsked_149 rfl ?_
                refine g_iconst dX10_columnsAsked_150 ?_
                refine g_iload dX10_columnsAsked_151 rfl ?_
                refine g_ishl dX10_columnsAsked_153 ?_
                refine g_nm (fun b453 e_b453 => ?_)
                have h_b453 := ishl_ir 1 rc446
                rw [← e_b453] at h_b453
                refine g_iconst dX10_columnsAsked_154 ?_
                refine g_ixor dX10_columnsAsked_155 ?_
                refine g_nm (fun b454 e_b454 => ?_)
                have h_b454 := ixor_ir b453 (-1)
                rw [← e_b454] at h_b454
                refine g_iand dX10_columnsAsked_156 ?_
                refine g_nm (fun b455 e_b455 => ?_)
                have h_b455 := iand_ir x33_3_4 b454
                rw [← e_b455] at h_b455
                refine g_istore_n (l1 := [(3, vI b455), (9, vI rc447), (8, vI rc446), (7, vI rc426), (0, vR 125), (2, vI a1), (4, vI x33_4_4), (5, vI x33_5_4), (6, vI x33_6_4)]) dX10_columnsAsked_157 (by decide) rfl ?_
                refine g_forget (l1 := [(0, vR 125), (2, vI a1), (3, vI b455), (4, vI x33_4_4), (5, vI x33_5_4), (6, vI x33_6_4)]) (by intro q hq; simp only [List.mem_cons, List.not_mem_nil, or_false] at hq ⊢; rcases hq with rfl | rfl | rfl | rfl | rfl | rfl <;> simp) ?_
                exact J158_443 b455 ⟨by omega, by omega⟩ x33_4_4 ⟨by omega, by omega⟩ x33_5_4 ⟨by omega, by omega⟩ (by omega)
              · refine g_iload dX10_columnsAsked_146 rfl ?_
                exact g_retI dX10_columnsAsked_148 rfl (hQ x33_5_4 ⟨by omega, by omega⟩ _ hBc426 (FrX.c (FrX.c (FrX.s (FrX.s FrX.rf (⟨by decide, rfl⟩ : kx 125 51) rfl) (⟨by decide, rfl⟩ : kx 125 51) rfl) hE33_4 rfl) hFc426 rfl) )
        · refine g_iinc (l1 := [(5, vI (x33_5_4 + 1)), (7, vI rc426), (0, vR 125), (2, vI a1), (3, vI x33_3_4), (4, vI x33_4_4), (6, vI x33_6_4)]) dX10_columnsAsked_59 rfl (by decide) rfl ?_
          refine g_iload_n dX10_columnsAsked_62 rfl ?_
          refine g_aload_n dX10_columnsAsked_63 rfl ?_
          refine x_g51_13 (n := (P 125 13).toNat) (⟨by decide, rfl⟩ : kx 125 51) ffX10_29 dX10_columnsAsked_64 ((FrX.g hFc426 (⟨by decide, rfl⟩ : kx 125 51) rfl).trans ((FrX.g hE33_4 (⟨by decide, rfl⟩ : kx 125 51) rfl).trans ((up_k (by decide)).trans ((up_k (by decide)).trans (br_125_13 hB))))) ?_
          refine g_iload dX10_columnsAsked_67 rfl ?_
          refine g_aload_n dX10_columnsAsked_69 rfl ?_
          refine x_g51_13 (n := (P 125 13).toNat) (⟨by decide, rfl⟩ : kx 125 51) ffX10_29 dX10_columnsAsked_70 ((FrX.g hFc426 (⟨by decide, rfl⟩ : kx 125 51) rfl).trans ((FrX.g hE33_4 (⟨by decide, rfl⟩ : kx 125 51) rfl).trans ((up_k (by decide)).trans ((up_k (by decide)).trans (br_125_13 hB))))) ?_
          refine g_iload_n dX10_columnsAsked_73 rfl ?_
          refine g_iload dX10_columnsAsked_74 rfl ?_
          refine g_vI (av := [vI a1, vI rc426]) (o := (P 125 13).toNat) (st := [vI rc426, vR (P 125 13).toNat, vI x33_3_4]) (m_X9_valueOf G Pc426 (P 125 13).toNat a1 rc426 (bk_125_13 hB) ⟨by omega, by omega⟩ ⟨by omega, by omega⟩ hBc426  _ (fun rc456 hc456 => ⟨rc456, rfl, ?_⟩)) cf_X9_valueOf t_1274 rfl (show kx (P 125 13).toNat 28 from (bk_125_13 hB)).1 ((show kx (P 125 13).toNat 28 from (bk_125_13 hB)).sh rfl) rfl rfl (Nat.le_of_ble_eq_true rfl) (by decide) rfl dX10_columnsAsked_76
          refine g_vI (av := [vI rc426, vI rc456]) (o := (P 125 13).toNat) (st := [vI x33_3_4]) (m_X9_armsFitting G Pc426 (P 125 13).toNat rc426 rc456 (bk_125_13 hB) ⟨by omega, by omega⟩ ⟨by omega, by omega⟩ hBc426  _ (fun rc457 hc457 => ⟨rc457, rfl, ?_⟩)) cf_X9_armsFitting t_877 rfl (show kx (P 125 13).toNat 28 from (bk_125_13 hB)).1 ((show kx (P 125 13).toNat 28 from (bk_125_13 hB)).sh rfl) rfl rfl (Nat.le_of_ble_eq_true rfl) (by decide) rfl dX10_columnsAsked_79
          refine g_iand dX10_columnsAsked_82 ?_
          refine g_nm (fun b458 e_b458 => ?_)
          have h_b458 := iand_ir x33_3_4 rc457
          rw [← e_b458] at h_b458
          refine g_istore_n (l1 := [(3, vI b458), (5, vI (x33_5_4 + 1)), (7, vI rc426), (0, vR 125), (2, vI a1), (4, vI x33_4_4), (6, vI x33_6_4)]) dX10_columnsAsked_83 (by decide) rfl ?_
          refine g_iload dX10_columnsAsked_84 rfl ?_
          refine g_iconst dX10_columnsAsked_86 ?_
          refine g_iload dX10_columnsAsked_87 rfl ?_
          refine g_ishl dX10_columnsAsked_89 ?_
          refine g_nm (fun b459 e_b459 => ?_)
          have h_b459 : 1 ≤ (ishl 1 rc426) ∧ (ishl 1 rc426) ≤ 8 := (ishl1 3 (by decide) (y := rc426) ⟨by omega, by omega⟩).2
          rw [← e_b459] at h_b459
          refine g_iconst dX10_columnsAsked_90 ?_
          refine g_ixor dX10_columnsAsked_91 ?_
          refine g_nm (fun b460 e_b460 => ?_)
          have h_b460 := ixor_ir b459 (-1)
          rw [← e_b460] at h_b460
          refine g_iand dX10_columnsAsked_92 ?_
          refine g_nm (fun b461 e_b461 => ?_)
          have h_b461 := iand_ir x33_4_4 b460
          rw [← e_b461] at h_b461
          refine g_istore (l1 := [(4, vI b461), (3, vI b458), (5, vI (x33_5_4 + 1)), (7, vI rc426), (0, vR 125), (2, vI a1), (6, vI x33_6_4)]) dX10_columnsAsked_93 (by decide) rfl ?_
          refine g_goto (tgt := 158) dX10_columnsAsked_95 (by decide) ?_
          refine g_forget (l1 := [(0, vR 125), (2, vI a1), (3, vI b458), (4, vI b461), (5, vI (x33_5_4 + 1)), (6, vI x33_6_4)]) (by intro q hq; simp only [List.mem_cons, List.not_mem_nil, or_false] at hq ⊢; rcases hq with rfl | rfl | rfl | rfl | rfl | rfl <;> simp) ?_
          exact J158_443 b458 ⟨by omega, by omega⟩ b461 ⟨by omega, by omega⟩ (x33_5_4 + 1) ⟨by omega, by omega⟩ (by omega)
  refine g_forget (l1 := [(0, vR 125), (2, vI a1), (3, vI rc3), (4, vI rc4), (5, vI 0), (6, vI 0)]) (by intro q hq; simp only [List.mem_cons, List.not_mem_nil, or_false] at hq ⊢; rcases hq with rfl | rfl | rfl | rfl | rfl | rfl <;> simp) ?_
  exact L33_4 _ 0 (by decide) 0 (by decide) rc4 ⟨by omega, by omega⟩ rc3 ⟨by omega, by omega⟩ _ hB2 FrX.rf (by omega) (Nat.lt_succ_self _)
set_option maxRecDepth 100000 in
set_option maxHeartbeats 4000000 in
theorem m_X10_openScope (G : GT) (P : PH) (hB : BdX P) (Q : Option PV → PH → Prop) (hQ : ∀ (P1 : PH) (_ : BdX P1) (_ : FrX ([(51, 7), (51, 8), (51, 9)], []) P P1), Q none P1) : Ct WSX G 2 iX10_openScope [vR 125] P Q := by
  refine Ct.of (by decide) (l0 := [(0, vR 125)]) rfl (Nat.le_of_ble_eq_true rfl) ?_
  refine g_aload_n dX10_openScope_0 rfl ?_
  refine g_dup dX10_openScope_1 rfl ?_
  refine x_g51_7 (z := (P 125 7)) (⟨by decide, rfl⟩ : kx 125 51) ffX10_183 dX10_openScope_2 rfl ?_
  refine g_iconst dX10_openScope_5 ?_
  refine g_iadd dX10_openScope_6 ?_
  refine g_norm (fun r1 h_r1 e_r1 => ?_)
  refine x_p51_7 (⟨by decide, rfl⟩ : kx 125 51) pfX10_183 dX10_openScope_7 ?_
  have hB2 := by_51_7 (z := r1) hB (⟨by decide, rfl⟩ : kx 125 51) ⟨by omega, by omega⟩
  refine g_aload_n dX10_openScope_10 rfl ?_
  refine g_dup dX10_openScope_11 rfl ?_
  refine x_g51_8 (z := (P 125 8)) (⟨by decide, rfl⟩ : kx 125 51) ffX10_186 dX10_openScope_12 ((up_k (by decide)).trans rfl) ?_
  refine g_iconst dX10_openScope_15 ?_
  refine g_iadd dX10_openScope_16 ?_
  refine g_norm (fun r3 h_r3 e_r3 => ?_)
  refine x_p51_8 (⟨by decide, rfl⟩ : kx 125 51) pfX10_186 dX10_openScope_17 ?_
  have hB4 := by_51_8 (z := r3) hB2 (⟨by decide, rfl⟩ : kx 125 51) ⟨by omega, by omega⟩
  refine g_aload_n dX10_openScope_20 rfl ?_
  refine g_aload_n dX10_openScope_21 rfl ?_
  refine x_g51_9 (z := (P 125 9)) (⟨by decide, rfl⟩ : kx 125 51) ffX10_189 dX10_openScope_22 ((up_k (by decide)).trans ((up_k (by decide)).trans rfl)) ?_
  refine g_aload_n dX10_openScope_25 rfl ?_
  refine x_g51_8 (z := r3) (⟨by decide, rfl⟩ : kx 125 51) ffX10_186 dX10_openScope_26 up_same ?_
  have f5 := bx_51_9 (o := 125) hB (⟨by decide, rfl⟩ : kx 125 51)
  refine g_sI (av := [vI (P 125 9), vI r3]) (st := [vR 125]) (m_J9_max_7cf53 G (up (up P 125 7 r1) 125 8 r3) (P 125 9) r3 ⟨by have q0 := bx_51_9 (o := 125) hB (⟨by decide, rfl⟩ : kx 125 51); omega, by have q0 := bx_51_9 (o := 125) hB (⟨by decide, rfl⟩ : kx 125 51); omega⟩ ⟨by omega, by omega⟩ hB4  _ (fun rc6 hc6 gc6_m => ⟨rc6, rfl, ?_⟩)) cf_J9_max_7cf53 t_1118 rfl (Nat.le_of_ble_eq_true rfl) (by decide) rfl dX10_openScope_29
  refine x_p51_9 (⟨by decide, rfl⟩ : kx 125 51) pfX10_189 dX10_openScope_32 ?_
  have hB7 := by_51_9 (z := rc6) hB4 (⟨by decide, rfl⟩ : kx 125 51) ⟨by omega, by omega⟩
  exact g_retV dX10_openScope_35 rfl (hQ _ hB7 (FrX.s (FrX.s (FrX.s FrX.rf (⟨by decide, rfl⟩ : kx 125 51) rfl) (⟨by decide, rfl⟩ : kx 125 51) rfl) (⟨by decide, rfl⟩ : kx 125 51) rfl) )
set_option maxRecDepth 100000 in
set_option maxHeartbeats 4000000 in
theorem m_X10_shutScope (G : GT) (P : PH) (a1 : Int) (h_a1 : (-2147483648) ≤ a1 ∧ a1 ≤ 2147483647) (hB : BdX P) (Q : Option PV → PH → Prop) (hQ : ∀ (P1 : PH) (_ : BdX P1) (_ : FrX ([(51, 8), (51, 10)], [55]) P P1), Q none P1) : Ct WSX G 1 iX10_shutScope [vR 125, vI a1] P Q := by
  refine Ct.of (by decide) (l0 := [(0, vR 125), (1, vI a1)]) rfl (Nat.le_of_ble_eq_true rfl) ?_
  refine g_aload_n dX10_shutScope_0 rfl ?_
  refine x_g51_10 (z := (P 125 10)) (⟨by decide, rfl⟩ : kx 125 51) ffX10_192 dX10_shutScope_1 rfl ?_
  have f1 := bx_51_10 (o := 125) hB (⟨by decide, rfl⟩ : kx 125 51)
  refine g_if_lt (tgt := 39) dX10_shutScope_4 (by decide) ⟨by have q0 := bx_51_10 (o := 125) hB (⟨by decide, rfl⟩ : kx 125 51); omega, by have q0 := bx_51_10 (o := 125) hB (⟨by decide, rfl⟩ : kx 125 51); omega⟩ (fun k2 => by exfalso; have q0 := bx_51_10 (o := 125) hB (⟨by decide, rfl⟩ : kx 125 51); omega) (fun k2 => ?_)
  refine g_aload_n dX10_shutScope_7 rfl ?_
  refine x_g51_10 (z := (P 125 10)) (⟨by decide, rfl⟩ : kx 125 51) ffX10_192 dX10_shutScope_8 rfl ?_
  refine g_aload_n dX10_shutScope_11 rfl ?_
  refine x_g51_6 (n := 153) (⟨by decide, rfl⟩ : kx 125 51) ffX10_25 dX10_shutScope_12 rfl ?_
  refine x_n55 (⟨by decide, rfl⟩ : kx 153 55) dX10_shutScope_15 ?_
  refine g_icmp_ge (tgt := 39) dX10_shutScope_16 (by decide) ⟨by have q0 := bx_51_10 (o := 125) hB (⟨by decide, rfl⟩ : kx 125 51); omega, by have q0 := bx_51_10 (o := 125) hB (⟨by decide, rfl⟩ : kx 125 51); omega⟩ (by decide) (fun k3 => ?_) (fun k3 => ?_)
  · refine g_aload_n dX10_shutScope_39 rfl ?_
    refine g_dup dX10_shutScope_40 rfl ?_
    refine x_g51_8 (z := (P 125 8)) (⟨by decide, rfl⟩ : kx 125 51) ffX10_186 dX10_shutScope_41 rfl ?_
    refine g_iconst dX10_shutScope_44 ?_
    refine g_isub dX10_shutScope_45 ?_
    refine g_norm (fun r4 h_r4 e_r4 => ?_)
    refine x_p51_8 (⟨by decide, rfl⟩ : kx 125 51) pfX10_186 dX10_shutScope_46 ?_
    have hB5 := by_51_8 (z := r4) hB (⟨by decide, rfl⟩ : kx 125 51) ⟨by omega, by omega⟩
    exact g_retV dX10_shutScope_49 rfl (hQ _ hB5 (FrX.s FrX.rf (⟨by decide, rfl⟩ : kx 125 51) rfl) )
  · refine g_aload_n dX10_shutScope_19 rfl ?_
    refine x_g51_6 (n := 153) (⟨by decide, rfl⟩ : kx 125 51) ffX10_25 dX10_shutScope_20 rfl ?_
    refine g_aload_n dX10_shutScope_23 rfl ?_
    refine x_g51_10 (z := (P 125 10)) (⟨by decide, rfl⟩ : kx 125 51) ffX10_192 dX10_shutScope_24 rfl ?_
    refine g_iload_n dX10_shutScope_27 rfl ?_
    refine x_s55 (⟨by decide, rfl⟩ : kx 153 55) dX10_shutScope_28 ⟨by have q0 := bx_51_10 (o := 125) hB (⟨by decide, rfl⟩ : kx 125 51); omega, by have q0 := bx_51_10 (o := 125) hB (⟨by decide, rfl⟩ : kx 125 51); omega⟩ ?_
    have hB6 := by_55 (z := a1) (k := (P 125 10)) hB (⟨by decide, rfl⟩ : kx 153 55) ⟨by omega, by omega⟩
    refine g_aload_n dX10_shutScope_29 rfl ?_
    refine g_dup dX10_shutScope_30 rfl ?_
    refine x_g51_10 (z := (P 125 10)) (⟨by decide, rfl⟩ : kx 125 51) ffX10_192 dX10_shutScope_31 ((up_o (kx.ne (⟨by decide, rfl⟩ : kx 125 51) (⟨by decide, rfl⟩ : kx 153 55) rfl)).trans rfl) ?_
    refine g_iconst dX10_shutScope_34 ?_
    refine g_iadd dX10_shutScope_35 ?_
    refine x_p51_10 (⟨by decide, rfl⟩ : kx 125 51) pfX10_192 dX10_shutScope_36 ?_
    have hB7 := by_51_10 (z := ((P 125 10) + 1)) hB6 (⟨by decide, rfl⟩ : kx 125 51) ⟨by have q0 := bx_51_10 (o := 125) hB (⟨by decide, rfl⟩ : kx 125 51); omega, by have q0 := bx_51_10 (o := 125) hB (⟨by decide, rfl⟩ : kx 125 51); omega⟩
    refine g_aload_n dX10_shutScope_39 rfl ?_
    refine g_dup dX10_shutScope_40 rfl ?_
    refine x_g51_8 (z := (P 125 8)) (⟨by decide, rfl⟩ : kx 125 51) ffX10_186 dX10_shutScope_41 ((up_k (by decide)).trans ((up_o (kx.ne (⟨by decide, rfl⟩ : kx 125 51) (⟨by decide, rfl⟩ : kx 153 55) rfl)).trans rfl)) ?_
    refine g_iconst dX10_shutScope_44 ?_
    refine g_isub dX10_shutScope_45 ?_
    refine g_norm (fun r8 h_r8 e_r8 => ?_)
    refine x_p51_8 (⟨by decide, rfl⟩ : kx 125 51) pfX10_186 dX10_shutScope_46 ?_
    have hB9 := by_51_8 (z := r8) hB7 (⟨by decide, rfl⟩ : kx 125 51) ⟨by omega, by omega⟩
    exact g_retV dX10_shutScope_49 rfl (hQ _ hB9 (FrX.s (FrX.s (FrX.s FrX.rf (⟨by decide, rfl⟩ : kx 153 55) rfl) (⟨by decide, rfl⟩ : kx 125 51) rfl) (⟨by decide, rfl⟩ : kx 125 51) rfl) )
set_option maxRecDepth 100000 in
set_option maxHeartbeats 4000000 in
theorem m_X10_scopeShutAs (G : GT) (P : PH) (a1 : Int) (h_a1 : (-2147483648) ≤ a1 ∧ a1 ≤ 2147483647) (hB : BdX P) (Q : Option PV → PH → Prop) (hQ : ∀ (r : Int) (_ : (-2147483648) ≤ r ∧ r ≤ 2147483647), Q (some (vI r)) P) : Ct WSX G 1 iX10_scopeShutAs [vR 125, vI a1] P Q := by
  refine Ct.of (by decide) (l0 := [(0, vR 125), (1, vI a1)]) rfl (Nat.le_of_ble_eq_true rfl) ?_
  refine g_iload_n dX10_scopeShutAs_0 rfl ?_
  refine g_if_lt (tgt := 30) dX10_scopeShutAs_1 (by decide) ⟨by omega, by omega⟩ (fun k1 => ?_) (fun k1 => ?_)
  · refine g_iconst dX10_scopeShutAs_30 ?_
    exact g_retI dX10_scopeShutAs_31 rfl (hQ (-1) (by decide) )
  · refine g_iload_n dX10_scopeShutAs_4 rfl ?_
    refine g_aload_n dX10_scopeShutAs_5 rfl ?_
    refine x_g51_10 (z := (P 125 10)) (⟨by decide, rfl⟩ : kx 125 51) ffX10_192 dX10_scopeShutAs_6 rfl ?_
    have f2 := bx_51_10 (o := 125) hB (⟨by decide, rfl⟩ : kx 125 51)
    refine g_icmp_ge (tgt := 30) dX10_scopeShutAs_9 (by decide) ⟨by omega, by omega⟩ ⟨by have q0 := bx_51_10 (o := 125) hB (⟨by decide, rfl⟩ : kx 125 51); omega, by have q0 := bx_51_10 (o := 125) hB (⟨by decide, rfl⟩ : kx 125 51); omega⟩ (fun k3 => ?_) (fun k3 => ?_)
    · refine g_iconst dX10_scopeShutAs_30 ?_
      exact g_retI dX10_scopeShutAs_31 rfl (hQ (-1) (by decide) )
    · refine g_iload_n dX10_scopeShutAs_12 rfl ?_
      refine g_aload_n dX10_scopeShutAs_13 rfl ?_
      refine x_g51_6 (n := 153) (⟨by decide, rfl⟩ : kx 125 51) ffX10_25 dX10_scopeShutAs_14 rfl ?_
      refine x_n55 (⟨by decide, rfl⟩ : kx 153 55) dX10_scopeShutAs_17 ?_
      refine g_icmp_ge (tgt := 30) dX10_scopeShutAs_18 (by decide) ⟨by omega, by omega⟩ (by decide) (fun k4 => by exfalso; omega) (fun k4 => ?_)
      refine g_aload_n dX10_scopeShutAs_21 rfl ?_
      refine x_g51_6 (n := 153) (⟨by decide, rfl⟩ : kx 125 51) ffX10_25 dX10_scopeShutAs_22 rfl ?_
      refine g_iload_n dX10_scopeShutAs_25 rfl ?_
      refine x_l55 (z := (P 153 a1)) (⟨by decide, rfl⟩ : kx 153 55) dX10_scopeShutAs_26 ⟨by omega, by omega⟩ rfl ?_
      refine g_goto (tgt := 31) dX10_scopeShutAs_27 (by decide) ?_
      exact g_retI dX10_scopeShutAs_31 rfl (hQ (P 153 a1) ⟨by have q0 := bx_55 (o := 153) (k := a1) hB (⟨by decide, rfl⟩ : kx 153 55); omega, by have q0 := bx_55 (o := 153) (k := a1) hB (⟨by decide, rfl⟩ : kx 153 55); omega⟩ )
def st_X10_build (G : GT) (n : Nat) : Prop := ∀ (P : PH) (a1 : Int) (a2 : Int) (a3 : Int) (h_a1 : (-2147483648) ≤ a1 ∧ a1 ≤ 2147483647) (h_a2 : (-2147483648) ≤ a2 ∧ a2 ≤ 2147483647) (h_a3 : (-2147483648) ≤ a3 ∧ a3 ≤ 2147483647) (hB : BdX P) (hm : (22 - a3 : Int).toNat < n) (Q : Option PV → PH → Prop) (hQ : ∀ (P1 : PH) (_ : BdX P1) (_ : FrX ([(5, 2), (11, 3), (51, 7), (51, 8), (51, 9), (51, 10), (51, 11)], [6, 7, 12, 13, 55]) P P1), Q none P1), Ct WSX G (5 + 1 * n) iX10_build [vR 125, vI a1, vI a2, vI a3] P Q
set_option maxRecDepth 100000 in
set_option maxHeartbeats 4000000 in
theorem mr_X10_build (G : GT) (n : Nat) : st_X10_build G n := by
  induction n with
  | zero => intro P a1 a2 a3 h_a1 h_a2 h_a3 hB  hm; exact absurd hm (Nat.not_lt_zero _)
  | succ n ih =>
    intro P a1 a2 a3 h_a1 h_a2 h_a3 hB  hm Q hQ
    refine Ct.of (by decide) (l0 := [(0, vR 125), (1, vI a1), (2, vI a2), (3, vI a3)]) rfl (Nat.le_of_ble_eq_true rfl) ?_
    refine g_aload_n dX10_build_0 rfl ?_
    refine x_g51_7 (z := (P 125 7)) (⟨by decide, rfl⟩ : kx 125 51) ffX10_183 dX10_build_1 rfl ?_
    refine g_aload_n dX10_build_4 rfl ?_
    refine x_g51_13 (n := (P 125 13).toNat) (⟨by decide, rfl⟩ : kx 125 51) ffX10_29 dX10_build_5 (br_125_13 hB) ?_
    refine x_g28_10 (z := (P (P 125 13).toNat 10)) (bk_125_13 hB) ffX10_203 dX10_build_8 rfl ?_
    have f1 := bx_51_7 (o := 125) hB (⟨by decide, rfl⟩ : kx 125 51)
    have f2 := bx_28_10 (o := (P 125 13).toNat) hB (bk_125_13 hB)
    refine g_icmp_ge (tgt := 20) dX10_build_11 (by decide) ⟨by have q0 := bx_51_7 (o := 125) hB (⟨by decide, rfl⟩ : kx 125 51); omega, by have q0 := bx_51_7 (o := 125) hB (⟨by decide, rfl⟩ : kx 125 51); omega⟩ ⟨by have q0 := bx_28_10 (o := (P 125 13).toNat) hB (bk_125_13 hB); omega, by have q0 := bx_28_10 (o := (P 125 13).toNat) hB (bk_125_13 hB); omega⟩ (fun k3 => ?_) (fun k3 => ?_)
    · refine g_aload_n dX10_build_20 rfl ?_
      refine g_iconst dX10_build_21 ?_
      refine x_p51_11 (⟨by decide, rfl⟩ : kx 125 51) pfX10_195 dX10_build_22 (by decide) ?_
      have hB4 := by_51_11 (z := 1) hB (⟨by decide, rfl⟩ : kx 125 51) (by decide)
      exact g_retV dX10_build_25 rfl (hQ _ hB4 (FrX.s FrX.rf (⟨by decide, rfl⟩ : kx 125 51) rfl) )
    · refine g_iload_n dX10_build_14 rfl ?_
      refine g_bipush dX10_build_15 (by decide) ?_
      refine g_icmp_le (tgt := 26) dX10_build_17 (by decide) ⟨by omega, by omega⟩ (by decide) (fun k5 => ?_) (fun k5 => ?_)
      · refine g_aload_n dX10_build_26 rfl ?_
        refine x_g51_7 (z := (P 125 7)) (⟨by decide, rfl⟩ : kx 125 51) ffX10_183 dX10_build_27 rfl ?_
        refine g_istore (l1 := [(4, vI (P 125 7)), (0, vR 125), (1, vI a1), (2, vI a2), (3, vI a3)]) dX10_build_30 (by decide) rfl ?_
        refine g_aload_n dX10_build_32 rfl ?_
        refine g_vV (av := []) (o := 125) (st := []) (m_X10_openScope G P  hB  _ (fun Pc6 hBc6 hFc6 => ⟨rfl, ?_⟩)) cf_X10_openScope t_1168 rfl (show kx 125 51 from (⟨by decide, rfl⟩ : kx 125 51)).1 ((show kx 125 51 from (⟨by decide, rfl⟩ : kx 125 51)).sh rfl) rfl rfl (Nat.le_of_ble_eq_true rfl) (by omega) rfl dX10_build_33
        refine g_aload_n dX10_build_36 rfl ?_
        refine g_iload_n dX10_build_37 rfl ?_
        refine g_iload_n dX10_build_38 rfl ?_
        refine g_vI (av := [vI a1, vI a2]) (o := 125) (st := []) (m_X10_columnAsked G Pc6 a1 a2 ⟨by omega, by omega⟩ ⟨by omega, by omega⟩ hBc6  _ (fun rc7 hc7 Pc7 hBc7 hFc7 => ⟨rc7, rfl, ?_⟩)) cf_X10_columnAsked t_1085 rfl (show kx 125 51 from (⟨by decide, rfl⟩ : kx 125 51)).1 ((show kx 125 51 from (⟨by decide, rfl⟩ : kx 125 51)).sh rfl) rfl rfl (Nat.le_of_ble_eq_true rfl) (by omega) rfl dX10_build_39
        refine g_istore (l1 := [(5, vI rc7), (4, vI (P 125 7)), (0, vR 125), (1, vI a1), (2, vI a2), (3, vI a3)]) dX10_build_42 (by decide) rfl ?_
        refine g_aload_n dX10_build_44 rfl ?_
        refine x_g51_14 (n := (P 125 14).toNat) (⟨by decide, rfl⟩ : kx 125 51) ffX10_33 dX10_build_45 ((FrX.g hFc7 (⟨by decide, rfl⟩ : kx 125 51) rfl).trans ((FrX.g hFc6 (⟨by decide, rfl⟩ : kx 125 51) rfl).trans (br_125_14 hB))) ?_
        refine g_iload_n dX10_build_48 rfl ?_
        refine g_vI (av := [vI a1]) (o := (P 125 14).toNat) (st := []) (m_X5_firstOf G Pc7 (P 125 14).toNat a1 (bk_125_14 hB) ⟨by omega, by omega⟩ hBc7  _ (fun rc8 hc8 => ⟨rc8, rfl, ?_⟩)) cf_X5_firstOf t_1089 rfl (show kx (P 125 14).toNat 14 from (bk_125_14 hB)).1 ((show kx (P 125 14).toNat 14 from (bk_125_14 hB)).sh rfl) rfl rfl (Nat.le_of_ble_eq_true rfl) (by omega) rfl dX10_build_49
        refine g_istore (l1 := [(6, vI rc8), (5, vI rc7), (4, vI (P 125 7)), (0, vR 125), (1, vI a1), (2, vI a2), (3, vI a3)]) dX10_build_52 (by decide) rfl ?_
        refine g_iload dX10_build_54 rfl ?_
        refine g_iconst dX10_build_56 ?_
        have J155_261 : ∀ (H155_261 : PH) (hB155_261 : BdX H155_261) (hE155_261 : FrX ([(5, 2), (11, 3), (51, 7), (51, 8), (51, 9), (51, 10), (51, 11)], [6, 7, 12, 13, 55]) Pc7 H155_261), Go WSX G (5 + 1 * (n + 1)) iX10_build 155 [(0, vR 125), (4, vI (P 125 7))] [] H155_261 Q := by
          intro H155_261 hB155_261 hE155_261
          refine g_aload_n dX10_build_155 rfl ?_
          refine g_iload dX10_build_156 rfl ?_
          refine g_vV (av := [vI (P 125 7)]) (o := 125) (st := []) (m_X10_shutScope G H155_261 (P 125 7) ⟨by have q0 := bx_51_7 (o := 125) hB (⟨by decide, rfl⟩ : kx 125 51); omega, by have q0 := bx_51_7 (o := 125) hB (⟨by decide, rfl⟩ : kx 125 51); omega⟩ hB155_261  _ (fun Pc263 hBc263 hFc263 => ⟨rfl, ?_⟩)) cf_X10_shutScope t_1172 rfl (show kx 125 51 from (⟨by decide, rfl⟩ : kx 125 51)).1 ((show kx 125 51 from (⟨by decide, rfl⟩ : kx 125 51)).sh rfl) rfl rfl (Nat.le_of_ble_eq_true rfl) (by omega) rfl dX10_build_158
          exact g_retV dX10_build_161 rfl (hQ _ hBc263 (FrX.c (FrX.c (FrX.c (FrX.c FrX.rf hFc6 rfl) hFc7 rfl) hE155_261 rfl) hFc263 rfl) )
        refine g_icmp_eq (tgt := 126) dX10_build_57 (by decide) ⟨by omega, by omega⟩ (by decide) (fun k264 => ?_) (fun k264 => ?_)
        · refine g_aload_n dX10_build_126 rfl ?_
          refine x_g51_13 (n := (P 125 13).toNat) (⟨by decide, rfl⟩ : kx 125 51) ffX10_29 dX10_build_127 ((FrX.g hFc7 (⟨by decide, rfl⟩ : kx 125 51) rfl).trans ((FrX.g hFc6 (⟨by decide, rfl⟩ : kx 125 51) rfl).trans (br_125_13 hB))) ?_
          refine g_iload dX10_build_130 rfl ?_
          refine g_vI (av := [vI rc8]) (o := (P 125 13).toNat) (st := []) (m_X9_guardOf G Pc7 (P 125 13).toNat rc8 (bk_125_13 hB) ⟨by omega, by omega⟩ hBc7  _ (fun rc265 hc265 => ⟨rc265, rfl, ?_⟩)) cf_X9_guardOf t_1119 rfl (show kx (P 125 13).toNat 28 from (bk_125_13 hB)).1 ((show kx (P 125 13).toNat 28 from (bk_125_13 hB)).sh rfl) rfl rfl (Nat.le_of_ble_eq_true rfl) (by omega) rfl dX10_build_132
          refine g_iconst dX10_build_135 ?_
          refine g_icmp_eq (tgt := 155) dX10_build_136 (by decide) ⟨by omega, by omega⟩ (by decide) (fun k266 => ?_) (fun k266 => ?_)
          · refine g_forget (l1 := [(0, vR 125), (4, vI (P 125 7))]) (by intro q hq; simp only [List.mem_cons, List.not_mem_nil, or_false] at hq ⊢; rcases hq with rfl | rfl <;> simp) ?_
            exact J155_261 _ hBc7 FrX.rf
          · refine g_aload_n dX10_build_139 rfl ?_
            refine g_iload_n dX10_build_140 rfl ?_
            refine g_iconst dX10_build_141 ?_
            refine g_iload dX10_build_142 rfl ?_
            refine g_ishl dX10_build_144 ?_
            refine g_nm (fun b267 e_b267 => ?_)
            have h_b267 := ishl_ir 1 rc8
            rw [← e_b267] at h_b267
            refine g_iconst dX10_build_145 ?_
            refine g_ixor dX10_build_146 ?_
            refine g_nm (fun b268 e_b268 => ?_)
            have h_b268 := ixor_ir b267 (-1)
            rw [← e_b268] at h_b268
            refine g_iand dX10_build_147 ?_
            refine g_nm (fun b269 e_b269 => ?_)
            have h_b269 := iand_ir a1 b268
            rw [← e_b269] at h_b269
            refine g_iload_n dX10_build_148 rfl ?_
            refine g_iload_n dX10_build_149 rfl ?_
            refine g_iconst dX10_build_150 ?_
            refine g_iadd dX10_build_151 ?_
            refine g_sV (av := [vR 125, vI b269, vI a2, vI (a3 + 1)]) (st := []) (ih Pc7 b269 a2 (a3 + 1) ⟨by omega, by omega⟩ ⟨by omega, by omega⟩ ⟨by omega, by omega⟩ hBc7 (by omega) _ (fun Pc270 hBc270 hFc270 => ⟨rfl, ?_⟩)) cf_X10_build t_1165 rfl (Nat.le_of_ble_eq_true rfl) (by omega) rfl dX10_build_152
            refine g_forget (l1 := [(0, vR 125), (4, vI (P 125 7))]) (by intro q hq; simp only [List.mem_cons, List.not_mem_nil, or_false] at hq ⊢; rcases hq with rfl | rfl <;> simp) ?_
            exact J155_261 _ hBc270 (FrX.c FrX.rf hFc270 rfl)
        · refine g_aload_n dX10_build_60 rfl ?_
          refine g_iload_n dX10_build_61 rfl ?_
          refine g_iload_n dX10_build_62 rfl ?_
          refine g_iload dX10_build_63 rfl ?_
          refine g_vR (av := [vI a1, vI a2, vI rc7]) (o := 125) (st := []) (m_X10_split G Pc7 a1 a2 rc7 ⟨by omega, by omega⟩ ⟨by omega, by omega⟩ ⟨by omega, by omega⟩ hBc7  _ (fun rc271 hc271 Pc271 hBc271 hFc271 => ⟨rc271, rfl, ?_⟩)) cf_X10_split t_1124 rfl (show kx 125 51 from (⟨by decide, rfl⟩ : kx 125 51)).1 ((show kx 125 51 from (⟨by decide, rfl⟩ : kx 125 51)).sh rfl) rfl rfl (Nat.le_of_ble_eq_true rfl) (by omega) rfl dX10_build_65
          refine g_astore (l1 := [(7, vR rc271), (6, vI rc8), (5, vI rc7), (4, vI (P 125 7)), (0, vR 125), (1, vI a1), (2, vI a2), (3, vI a3)]) dX10_build_68 (by decide) rfl ?_
          refine g_iload_n dX10_build_70 rfl ?_
          refine g_iconst dX10_build_71 ?_
          refine g_iload dX10_build_72 rfl ?_
          refine g_ishl dX10_build_74 ?_
          refine g_nm (fun b272 e_b272 => ?_)
          have h_b272 : 1 ≤ (ishl 1 rc7) ∧ (ishl 1 rc7) ≤ 8 := (ishl1 3 (by decide) (y := rc7) ⟨by omega, by omega⟩).2
          rw [← e_b272] at h_b272
          refine g_iconst dX10_build_75 ?_
          refine g_ixor dX10_build_76 ?_
          refine g_nm (fun b273 e_b273 => ?_)
          have h_b273 := ixor_ir b272 (-1)
          rw [← e_b273] at h_b273
          refine g_iand dX10_build_77 ?_
          refine g_nm (fun b274 e_b274 => ?_)
          have h_b274 := iand_ir a2 b273
          rw [← e_b274] at h_b274
          refine g_istore (l1 := [(8, vI b274), (7, vR rc271), (6, vI rc8), (5, vI rc7), (4, vI (P 125 7)), (0, vR 125), (1, vI a1), (2, vI a2), (3, vI a3)]) dX10_build_78 (by decide) rfl ?_
          refine g_iconst dX10_build_80 ?_
          refine g_istore (l1 := [(9, vI 0), (8, vI b274), (7, vR rc271), (6, vI rc8), (5, vI rc7), (4, vI (P 125 7)), (0, vR 125), (1, vI a1), (2, vI a2), (3, vI a3)]) dX10_build_81 (by decide) rfl ?_
          have L83_274 : ∀ (n83_274 : Nat) (x83_9_274 : Int) (h_x83_9_274 : 0 ≤ x83_9_274 ∧ x83_9_274 ≤ 2048) (H83_274 : PH) (hB83_274 : BdX H83_274) (hE83_274 : FrX ([(5, 2), (11, 3), (51, 7), (51, 8), (51, 9), (51, 10), (51, 11)], [6, 7, 12, 13, 55]) Pc271 H83_274) (hm83_274 : ((2049 - x83_9_274) : Int).toNat < n83_274), Go WSX G (5 + 1 * (n + 1)) iX10_build 83 [(0, vR 125), (3, vI a3), (4, vI (P 125 7)), (7, vR rc271), (8, vI b274), (9, vI x83_9_274)] [] H83_274 Q := by
            intro n83_274
            induction n83_274 with
            | zero => intro x83_9_274 h_x83_9_274 H83_274 hB83_274 hE83_274 hm83_274; exact absurd hm83_274 (Nat.not_lt_zero _)
            | succ n83_274 ih83_274 =>
            intro x83_9_274 h_x83_9_274 H83_274 hB83_274 hE83_274 hm83_274
            refine g_iload dX10_build_83 rfl ?_
            refine g_aload dX10_build_85 rfl ?_
            refine x_g11_3 (z := (H83_274 rc271 3)) hc271 ffX10_103 dX10_build_87 rfl ?_
            have f504 := bx_11_3 (o := rc271) hB83_274 hc271
            have J123_509 : ∀ (_ : True), Go WSX G (5 + 1 * (n + 1)) iX10_build 123 [(0, vR 125), (4, vI (P 125 7))] [] H83_274 Q := by
              intro _
              refine g_goto (tgt := 155) dX10_build_123 (by decide) ?_
              refine g_forget (l1 := [(0, vR 125), (4, vI (P 125 7))]) (by intro q hq; simp only [List.mem_cons, List.not_mem_nil, or_false] at hq ⊢; rcases hq with rfl | rfl <;> simp) ?_
              exact J155_261 _ hB83_274 (FrX.c (FrX.c FrX.rf hFc271 rfl) hE83_274 rfl)
            refine g_icmp_ge (tgt := 123) dX10_build_90 (by decide) ⟨by omega, by omega⟩ ⟨by have q0 := bx_11_3 (o := rc271) hB83_274 hc271; omega, by have q0 := bx_11_3 (o := rc271) hB83_274 hc271; omega⟩ (fun k511 => ?_) (fun k511 => ?_)
            · refine g_forget (l1 := [(0, vR 125), (4, vI (P 125 7))]) (by intro q hq; simp only [List.mem_cons, List.not_mem_nil, or_false] at hq ⊢; rcases hq with rfl | rfl <;> simp) ?_
              exact J123_509 trivial
            · refine g_aload_n dX10_build_93 rfl ?_
              refine x_g51_11 (z := (H83_274 125 11)) (⟨by decide, rfl⟩ : kx 125 51) ffX10_195 dX10_build_94 rfl ?_
              have f512 := bx_51_11 (o := 125) hB83_274 (⟨by decide, rfl⟩ : kx 125 51)
              refine g_if_ne (tgt := 123) dX10_build_97 (by decide) ⟨by have q0 := bx_51_11 (o := 125) hB83_274 (⟨by decide, rfl⟩ : kx 125 51); omega, by have q0 := bx_51_11 (o := 125) hB83_274 (⟨by decide, rfl⟩ : kx 125 51); omega⟩ (fun k513 => ?_) (fun k513 => ?_)
              · refine g_forget (l1 := [(0, vR 125), (4, vI (P 125 7))]) (by intro q hq; simp only [List.mem_cons, List.not_mem_nil, or_false] at hq ⊢; rcases hq with rfl | rfl <;> simp) ?_
                exact J123_509 trivial
              · refine g_aload_n dX10_build_100 rfl ?_
                refine g_aload dX10_build_101 rfl ?_
                refine x_g11_0 (n := (crX rc271 0)) hc271 ffX10_104 dX10_build_103 rfl ?_
                refine g_iload dX10_build_106 rfl ?_
                refine x_l12 (z := (H83_274 (crX rc271 0) x83_9_274)) (ck_11_0 hc271) dX10_build_108 ⟨by omega, by omega⟩ rfl ?_
                refine g_iload dX10_build_109 rfl ?_
                refine g_iload_n dX10_build_111 rfl ?_
                refine g_iconst dX10_build_112 ?_
                refine g_iadd dX10_build_113 ?_
                have f514 := bx_12 (o := (crX rc271 0)) (k := x83_9_274) hB83_274 (ck_11_0 hc271)
                refine g_sV (av := [vR 125, vI (H83_274 (crX rc271 0) x83_9_274), vI b274, vI (a3 + 1)]) (st := []) (ih H83_274 (H83_274 (crX rc271 0) x83_9_274) b274 (a3 + 1) ⟨by have q0 := bx_12 (o := (crX rc271 0)) (k := x83_9_274) hB83_274 (ck_11_0 hc271); omega, by have q0 := bx_12 (o := (crX rc271 0)) (k := x83_9_274) hB83_274 (ck_11_0 hc271); omega⟩ ⟨by omega, by omega⟩ ⟨by omega, by omega⟩ hB83_274 (by omega) _ (fun Pc515 hBc515 hFc515 => ⟨rfl, ?_⟩)) cf_X10_build t_1165 rfl (Nat.le_of_ble_eq_true rfl) (by omega) rfl dX10_build_114
                refine g_iinc (l1 := [(9, vI (x83_9_274 + 1)), (0, vR 125), (3, vI a3), (4, vI (P 125 7)), (7, vR rc271), (8, vI b274)]) dX10_build_117 rfl (by decide) rfl ?_
                refine g_goto (tgt := 83) dX10_build_120 (by decide) ?_
                refine g_forget (l1 := [(0, vR 125), (3, vI a3), (4, vI (P 125 7)), (7, vR rc271), (8, vI b274), (9, vI (x83_9_274 + 1))]) (by intro q hq; simp only [List.mem_cons, List.not_mem_nil, or_false] at hq ⊢; rcases hq with rfl | rfl | rfl | rfl | rfl | rfl <;> simp) ?_
                exact ih83_274 (x83_9_274 + 1) ⟨by omega, by omega⟩ _ hBc515 (FrX.c (FrX.c FrX.rf hE83_274 rfl) hFc515 rfl) (by omega)
          refine g_forget (l1 := [(0, vR 125), (3, vI a3), (4, vI (P 125 7)), (7, vR rc271), (8, vI b274), (9, vI 0)]) (by intro q hq; simp only [List.mem_cons, List.not_mem_nil, or_false] at hq ⊢; rcases hq with rfl | rfl | rfl | rfl | rfl | rfl <;> simp) ?_
          exact L83_274 _ 0 (by decide) _ hBc271 FrX.rf (Nat.lt_succ_self _)
      · refine g_aload_n dX10_build_20 rfl ?_
        refine g_iconst dX10_build_21 ?_
        refine x_p51_11 (⟨by decide, rfl⟩ : kx 125 51) pfX10_195 dX10_build_22 (by decide) ?_
        have hB516 := by_51_11 (z := 1) hB (⟨by decide, rfl⟩ : kx 125 51) (by decide)
        exact g_retV dX10_build_25 rfl (hQ _ hB516 (FrX.s FrX.rf (⟨by decide, rfl⟩ : kx 125 51) rfl) )
theorem m_X10_build (G : GT) (P : PH) (a1 : Int) (a2 : Int) (a3 : Int) (h_a1 : (-2147483648) ≤ a1 ∧ a1 ≤ 2147483647) (h_a2 : (-2147483648) ≤ a2 ∧ a2 ≤ 2147483647) (h_a3 : (-2147483648) ≤ a3 ∧ a3 ≤ 2147483647) (hB : BdX P) (hm : (22 - a3 : Int).toNat < 23) (Q : Option PV → PH → Prop) (hQ : ∀ (P1 : PH) (_ : BdX P1) (_ : FrX ([(5, 2), (11, 3), (51, 7), (51, 8), (51, 9), (51, 10), (51, 11)], [6, 7, 12, 13, 55]) P P1), Q none P1) : Ct WSX G 28 iX10_build [vR 125, vI a1, vI a2, vI a3] P Q := mr_X10_build G 23 P a1 a2 a3 h_a1 h_a2 h_a3 hB  hm Q hQ
set_option maxRecDepth 100000 in
set_option maxHeartbeats 4000000 in
theorem m_X10_buildAll (G : GT) (P : PH) (o1 : Nat) (a1 : Int) (k_o1 : kx o1 14) (h_a1 : (-2147483648) ≤ a1 ∧ a1 ≤ 2147483647) (hB : BdX P) (Q : Option PV → PH → Prop) (hQ : ∀ (P1 : PH) (_ : BdX P1) (_ : FrX ([(5, 2), (11, 3), (51, 7), (51, 8), (51, 9), (51, 10), (51, 11), (51, 12), (51, 14)], [6, 7, 12, 13, 55]) P P1), Q none P1) : Ct WSX G 29 iX10_buildAll [vR 125, vR o1, vI a1] P Q := by
  refine Ct.of (by decide) (l0 := [(0, vR 125), (1, vR o1), (2, vI a1)]) rfl (Nat.le_of_ble_eq_true rfl) ?_
  refine g_aload_n dX10_buildAll_0 rfl ?_
  refine g_aload_n dX10_buildAll_1 rfl ?_
  refine x_p51_14 (⟨by decide, rfl⟩ : kx 125 51) pfX10_33 dX10_buildAll_2 ?_
  have hB1 := bw_125_14 (x := o1) hB k_o1
  refine g_aload_n dX10_buildAll_5 rfl ?_
  refine g_iload_n dX10_buildAll_6 rfl ?_
  refine x_p51_12 (⟨by decide, rfl⟩ : kx 125 51) pfX10_80 dX10_buildAll_7 ?_
  have hB2 := by_51_12 (z := a1) hB1 (⟨by decide, rfl⟩ : kx 125 51) ⟨by omega, by omega⟩
  refine g_aload_n dX10_buildAll_10 rfl ?_
  refine g_iconst dX10_buildAll_11 ?_
  refine x_p51_7 (⟨by decide, rfl⟩ : kx 125 51) pfX10_183 dX10_buildAll_12 ?_
  have hB3 := by_51_7 (z := 0) hB2 (⟨by decide, rfl⟩ : kx 125 51) (by decide)
  refine g_aload_n dX10_buildAll_15 rfl ?_
  refine g_iconst dX10_buildAll_16 ?_
  refine x_p51_8 (⟨by decide, rfl⟩ : kx 125 51) pfX10_186 dX10_buildAll_17 ?_
  have hB4 := by_51_8 (z := 0) hB3 (⟨by decide, rfl⟩ : kx 125 51) (by decide)
  refine g_aload_n dX10_buildAll_20 rfl ?_
  refine g_iconst dX10_buildAll_21 ?_
  refine x_p51_9 (⟨by decide, rfl⟩ : kx 125 51) pfX10_189 dX10_buildAll_22 ?_
  have hB5 := by_51_9 (z := 0) hB4 (⟨by decide, rfl⟩ : kx 125 51) (by decide)
  refine g_aload_n dX10_buildAll_25 rfl ?_
  refine g_iconst dX10_buildAll_26 ?_
  refine x_p51_10 (⟨by decide, rfl⟩ : kx 125 51) pfX10_192 dX10_buildAll_27 ?_
  have hB6 := by_51_10 (z := 0) hB5 (⟨by decide, rfl⟩ : kx 125 51) (by decide)
  refine g_aload_n dX10_buildAll_30 rfl ?_
  refine g_iconst dX10_buildAll_31 ?_
  refine x_p51_11 (⟨by decide, rfl⟩ : kx 125 51) pfX10_195 dX10_buildAll_32 (by decide) ?_
  have hB7 := by_51_11 (z := 0) hB6 (⟨by decide, rfl⟩ : kx 125 51) (by decide)
  refine g_aload_n dX10_buildAll_35 rfl ?_
  refine g_aload_n dX10_buildAll_36 rfl ?_
  refine x_g51_14 (n := o1) (⟨by decide, rfl⟩ : kx 125 51) ffX10_33 dX10_buildAll_37 ((up_k (by decide)).trans ((up_k (by decide)).trans ((up_k (by decide)).trans ((up_k (by decide)).trans ((up_k (by decide)).trans ((up_k (by decide)).trans up_same)))))) ?_
  refine g_vI (av := []) (o := o1) (st := [vR 125]) (m_X5_allArms G (up (up (up (up (up (up (up P 125 14 ((o1 : Nat) : Int)) 125 12 a1) 125 7 0) 125 8 0) 125 9 0) 125 10 0) 125 11 0) o1 k_o1 hB7  _ (fun rc8 hc8 => ⟨rc8, rfl, ?_⟩)) cf_X5_allArms t_1074 rfl (show kx o1 14 from k_o1).1 ((show kx o1 14 from k_o1).sh rfl) rfl rfl (Nat.le_of_ble_eq_true rfl) (by decide) rfl dX10_buildAll_40
  refine g_aload_n dX10_buildAll_43 rfl ?_
  refine g_vI (av := []) (o := 125) (st := [vI rc8, vR 125]) (m_X10_allColumns G (up (up (up (up (up (up (up P 125 14 ((o1 : Nat) : Int)) 125 12 a1) 125 7 0) 125 8 0) 125 9 0) 125 10 0) 125 11 0)  hB7  _ (fun rc9 hc9 => ⟨rc9, rfl, ?_⟩)) cf_X10_allColumns t_1078 rfl (show kx 125 51 from (⟨by decide, rfl⟩ : kx 125 51)).1 ((show kx 125 51 from (⟨by decide, rfl⟩ : kx 125 51)).sh rfl) rfl rfl (Nat.le_of_ble_eq_true rfl) (by decide) rfl dX10_buildAll_44
  refine g_iconst dX10_buildAll_47 ?_
  refine g_sV (av := [vR 125, vI rc8, vI rc9, vI 0]) (st := []) (m_X10_build G (up (up (up (up (up (up (up P 125 14 ((o1 : Nat) : Int)) 125 12 a1) 125 7 0) 125 8 0) 125 9 0) 125 10 0) 125 11 0) rc8 rc9 0 ⟨by omega, by omega⟩ ⟨by omega, by omega⟩ (by decide) hB7 (by omega) _ (fun Pc10 hBc10 hFc10 => ⟨rfl, ?_⟩)) cf_X10_build t_1165 rfl (Nat.le_of_ble_eq_true rfl) (by decide) rfl dX10_buildAll_48
  exact g_retV dX10_buildAll_51 rfl (hQ _ hBc10 (FrX.c (FrX.s (FrX.s (FrX.s (FrX.s (FrX.s (FrX.s (FrX.s FrX.rf (⟨by decide, rfl⟩ : kx 125 51) rfl) (⟨by decide, rfl⟩ : kx 125 51) rfl) (⟨by decide, rfl⟩ : kx 125 51) rfl) (⟨by decide, rfl⟩ : kx 125 51) rfl) (⟨by decide, rfl⟩ : kx 125 51) rfl) (⟨by decide, rfl⟩ : kx 125 51) rfl) (⟨by decide, rfl⟩ : kx 125 51) rfl) hFc10 rfl) )
end
section
/-! Contracts of the class: x4. -/
set_option maxRecDepth 100000 in
set_option maxHeartbeats 4000000 in
theorem m_X6_fail (G : GT) (P : PH) (a1 : Int) (a2 : Int) (h_a1 : (-2147483648) ≤ a1 ∧ a1 ≤ 2147483647) (h_a2 : (-2147483648) ≤ a2 ∧ a2 ≤ 2147483647) (hB : BdX P) (Q : Option PV → PH → Prop) (hQ : ∀ (r : Int) (_ : 0 ≤ r ∧ r ≤ 1) (P1 : PH) (_ : BdX P1) (_ : FrX ([(45, 3), (45, 4)], []) P P1), Q (some (vI r)) P1) : Ct WSX G 1 iX6_fail [vR 110, vI a1, vI a2] P Q := by
  refine Ct.of (by decide) (l0 := [(0, vR 110), (1, vI a1), (2, vI a2)]) rfl (Nat.le_of_ble_eq_true rfl) ?_
  refine g_aload_n dX6_fail_0 rfl ?_
  refine g_iload_n dX6_fail_1 rfl ?_
  refine x_p45_3 (⟨by decide, rfl⟩ : kx 110 45) pfX6_82 dX6_fail_2 ?_
  have hB1 := by_45_3 (z := a1) hB (⟨by decide, rfl⟩ : kx 110 45) ⟨by omega, by omega⟩
  refine g_aload_n dX6_fail_5 rfl ?_
  refine g_iload_n dX6_fail_6 rfl ?_
  refine x_p45_4 (⟨by decide, rfl⟩ : kx 110 45) pfX6_23 dX6_fail_7 ?_
  have hB2 := by_45_4 (z := a2) hB1 (⟨by decide, rfl⟩ : kx 110 45) ⟨by omega, by omega⟩
  refine g_iconst dX6_fail_10 ?_
  exact g_retZ dX6_fail_11 rfl (by decide) (hQ 0 (by decide) _ hB2 (FrX.s (FrX.s FrX.rf (⟨by decide, rfl⟩ : kx 110 45) rfl) (⟨by decide, rfl⟩ : kx 110 45) rfl) )
set_option maxRecDepth 100000 in
set_option maxHeartbeats 4000000 in
theorem m_X6_failHere (G : GT) (P : PH) (hB : BdX P) (Q : Option PV → PH → Prop) (hQ : ∀ (r : Int) (_ : 0 ≤ r ∧ r ≤ 1) (P1 : PH) (_ : BdX P1) (_ : FrX ([(45, 3), (45, 4)], []) P P1), Q (some (vI r)) P1) : Ct WSX G 1 iX6_failHere [vR 110] P Q := by
  refine Ct.of (by decide) (l0 := [(0, vR 110)]) rfl (Nat.le_of_ble_eq_true rfl) ?_
  refine g_aload_n dX6_failHere_0 rfl ?_
  refine g_iconst dX6_failHere_1 ?_
  refine x_p45_3 (⟨by decide, rfl⟩ : kx 110 45) pfX6_82 dX6_failHere_2 ?_
  have hB1 := by_45_3 (z := 1) hB (⟨by decide, rfl⟩ : kx 110 45) (by decide)
  refine g_aload_n dX6_failHere_5 rfl ?_
  refine g_aload_n dX6_failHere_6 rfl ?_
  refine x_g45_0 (n := 111) (⟨by decide, rfl⟩ : kx 110 45) ffX6_12 dX6_failHere_7 rfl ?_
  refine x_g46_4 (z := (P 111 4)) (⟨by decide, rfl⟩ : kx 111 46) ffX6_40 dX6_failHere_10 ((up_o (kx.ne (⟨by decide, rfl⟩ : kx 111 46) (⟨by decide, rfl⟩ : kx 110 45) rfl)).trans rfl) ?_
  refine g_iconst dX6_failHere_13 ?_
  have f2 := bx_46_4 (o := 111) hB (⟨by decide, rfl⟩ : kx 111 46)
  refine g_icmp_ne (tgt := 27) dX6_failHere_14 (by decide) ⟨by have q0 := bx_46_4 (o := 111) hB (⟨by decide, rfl⟩ : kx 111 46); omega, by have q0 := bx_46_4 (o := 111) hB (⟨by decide, rfl⟩ : kx 111 46); omega⟩ (by decide) (fun k3 => ?_) (fun k3 => ?_)
  · refine g_aload_n dX6_failHere_27 rfl ?_
    refine x_g45_0 (n := 111) (⟨by decide, rfl⟩ : kx 110 45) ffX6_12 dX6_failHere_28 rfl ?_
    refine x_g46_5 (z := (P 111 5)) (⟨by decide, rfl⟩ : kx 111 46) ffX6_72 dX6_failHere_31 ((up_o (kx.ne (⟨by decide, rfl⟩ : kx 111 46) (⟨by decide, rfl⟩ : kx 110 45) rfl)).trans rfl) ?_
    refine x_p45_4 (⟨by decide, rfl⟩ : kx 110 45) pfX6_23 dX6_failHere_34 ?_
    have hB4 := by_45_4 (z := (P 111 5)) hB1 (⟨by decide, rfl⟩ : kx 110 45) ⟨by have q0 := bx_46_5 (o := 111) hB (⟨by decide, rfl⟩ : kx 111 46); omega, by have q0 := bx_46_5 (o := 111) hB (⟨by decide, rfl⟩ : kx 111 46); omega⟩
    refine g_iconst dX6_failHere_37 ?_
    exact g_retZ dX6_failHere_38 rfl (by decide) (hQ 0 (by decide) _ hB4 (FrX.s (FrX.s FrX.rf (⟨by decide, rfl⟩ : kx 110 45) rfl) (⟨by decide, rfl⟩ : kx 110 45) rfl) )
  · refine g_aload_n dX6_failHere_17 rfl ?_
    refine x_g45_0 (n := 111) (⟨by decide, rfl⟩ : kx 110 45) ffX6_12 dX6_failHere_18 rfl ?_
    refine x_g46_6 (z := (P 111 6)) (⟨by decide, rfl⟩ : kx 111 46) ffX6_86 dX6_failHere_21 ((up_o (kx.ne (⟨by decide, rfl⟩ : kx 111 46) (⟨by decide, rfl⟩ : kx 110 45) rfl)).trans rfl) ?_
    refine g_goto (tgt := 34) dX6_failHere_24 (by decide) ?_
    refine x_p45_4 (⟨by decide, rfl⟩ : kx 110 45) pfX6_23 dX6_failHere_34 ?_
    have hB5 := by_45_4 (z := (P 111 6)) hB1 (⟨by decide, rfl⟩ : kx 110 45) ⟨by have q0 := bx_46_6 (o := 111) hB (⟨by decide, rfl⟩ : kx 111 46); omega, by have q0 := bx_46_6 (o := 111) hB (⟨by decide, rfl⟩ : kx 111 46); omega⟩
    refine g_iconst dX6_failHere_37 ?_
    exact g_retZ dX6_failHere_38 rfl (by decide) (hQ 0 (by decide) _ hB5 (FrX.s (FrX.s FrX.rf (⟨by decide, rfl⟩ : kx 110 45) rfl) (⟨by decide, rfl⟩ : kx 110 45) rfl) )
set_option maxRecDepth 100000 in
set_option maxHeartbeats 4000000 in
theorem m_X6_begin_B16 (G : GT) (P : PH) (hB : BdX P) (Q : Option PV → PH → Prop) (hQ : ∀ (P1 : PH) (_ : BdX P1) (_ : FrX ([(45, 3), (45, 4), (46, 1), (46, 2), (46, 3), (46, 4), (46, 5), (46, 6), (46, 7), (46, 8)], []) P P1) (_ : TX P1), Q none P1) : Ct WSX G 4 iX6_begin [vR 110, vR 1] P Q := by
  refine Ct.of (by decide) (l0 := [(0, vR 110), (1, vR 1)]) rfl (Nat.le_of_ble_eq_true rfl) ?_
  refine g_aload_n dX6_begin_0 rfl ?_
  refine g_iconst dX6_begin_1 ?_
  refine x_p45_3 (⟨by decide, rfl⟩ : kx 110 45) pfX6_82 dX6_begin_2 ?_
  have hB1 := by_45_3 (z := 0) hB (⟨by decide, rfl⟩ : kx 110 45) (by decide)
  refine g_aload_n dX6_begin_5 rfl ?_
  refine g_iconst dX6_begin_6 ?_
  refine x_p45_4 (⟨by decide, rfl⟩ : kx 110 45) pfX6_23 dX6_begin_7 ?_
  have hB2 := by_45_4 (z := (-1)) hB1 (⟨by decide, rfl⟩ : kx 110 45) (by decide)
  refine g_aload_n dX6_begin_10 rfl ?_
  refine x_g45_0 (n := 111) (⟨by decide, rfl⟩ : kx 110 45) ffX6_12 dX6_begin_11 rfl ?_
  refine g_aload_n dX6_begin_14 rfl ?_
  refine g_vV (av := [vR 1]) (o := 111) (st := []) (m_X7_begin_B16 G (up (up P 110 3 0) 110 4 (-1))  hB2  _ (fun Pc3 hBc3 hFc3 vc3_TX => ⟨rfl, ?_⟩)) cf_X7_begin t_699 rfl (show kx 111 46 from (⟨by decide, rfl⟩ : kx 111 46)).1 ((show kx 111 46 from (⟨by decide, rfl⟩ : kx 111 46)).sh rfl) rfl rfl (Nat.le_of_ble_eq_true rfl) (by decide) rfl dX6_begin_15
  exact g_retV dX6_begin_18 rfl (hQ _ hBc3 (FrX.c (FrX.s (FrX.s FrX.rf (⟨by decide, rfl⟩ : kx 110 45) rfl) (⟨by decide, rfl⟩ : kx 110 45) rfl) hFc3 rfl) vc3_TX)
set_option maxRecDepth 100000 in
set_option maxHeartbeats 4000000 in
theorem m_X6_readSign (G : GT) (P : PH) (a1 : Int) (h_a1 : (-2147483648) ≤ a1 ∧ a1 ≤ 2147483647) (hB : BdX P) (v_TX : TX P) (Q : Option PV → PH → Prop) (hQ : ∀ (r : Int) (_ : 0 ≤ r ∧ r ≤ 1) (P1 : PH) (_ : BdX P1) (_ : FrX ([(45, 3), (45, 4), (46, 3), (46, 4), (46, 5), (46, 6), (46, 7), (46, 8)], []) P P1), Q (some (vI r)) P1) : Ct WSX G 3 iX6_readSign [vR 110, vI a1] P Q := by
  refine Ct.of (by decide) (l0 := [(0, vR 110), (1, vI a1)]) rfl (Nat.le_of_ble_eq_true rfl) ?_
  refine g_aload_n dX6_readSign_0 rfl ?_
  refine x_g45_0 (n := 111) (⟨by decide, rfl⟩ : kx 110 45) ffX6_12 dX6_readSign_1 rfl ?_
  refine g_iload_n dX6_readSign_4 rfl ?_
  refine g_vI (av := [vI a1]) (o := 111) (st := []) (m_X7_isSign G P a1 ⟨by omega, by omega⟩ hB  _ (fun rc1 hc1 => ⟨rc1, rfl, ?_⟩)) cf_X7_isSign t_801 rfl (show kx 111 46 from (⟨by decide, rfl⟩ : kx 111 46)).1 ((show kx 111 46 from (⟨by decide, rfl⟩ : kx 111 46)).sh rfl) rfl rfl (Nat.le_of_ble_eq_true rfl) (by decide) rfl dX6_readSign_5
  refine g_if_ne (tgt := 16) dX6_readSign_8 (by decide) ⟨by omega, by omega⟩ (fun k2 => ?_) (fun k2 => ?_)
  · refine g_aload_n dX6_readSign_16 rfl ?_
    refine x_g45_0 (n := 111) (⟨by decide, rfl⟩ : kx 110 45) ffX6_12 dX6_readSign_17 rfl ?_
    refine g_vV (av := []) (o := 111) (st := []) (m_X7_step G P  hB v_TX _ (fun Pc3 hBc3 hFc3 => ⟨rfl, ?_⟩)) cf_X7_step t_731 rfl (show kx 111 46 from (⟨by decide, rfl⟩ : kx 111 46)).1 ((show kx 111 46 from (⟨by decide, rfl⟩ : kx 111 46)).sh rfl) rfl rfl (Nat.le_of_ble_eq_true rfl) (by decide) rfl dX6_readSign_20
    refine g_iconst dX6_readSign_23 ?_
    exact g_retZ dX6_readSign_24 rfl (by decide) (hQ 1 (by decide) _ hBc3 (FrX.c FrX.rf hFc3 rfl) )
  · refine g_aload_n dX6_readSign_11 rfl ?_
    refine g_vI (av := []) (o := 110) (st := []) (m_X6_failHere G P  hB  _ (fun rc4 hc4 Pc4 hBc4 hFc4 => ⟨rc4, rfl, ?_⟩)) cf_X6_failHere t_723 rfl (show kx 110 45 from (⟨by decide, rfl⟩ : kx 110 45)).1 ((show kx 110 45 from (⟨by decide, rfl⟩ : kx 110 45)).sh rfl) rfl rfl (Nat.le_of_ble_eq_true rfl) (by decide) rfl dX6_readSign_12
    exact g_retZ dX6_readSign_15 rfl (by omega) (hQ rc4 ⟨by omega, by omega⟩ _ hBc4 (FrX.c FrX.rf hFc4 rfl) )
set_option maxRecDepth 100000 in
set_option maxHeartbeats 4000000 in
theorem m_X6_readNumber (G : GT) (P : PH) (a1 : Int) (a2 : Int) (h_a1 : (-2147483648) ≤ a1 ∧ a1 ≤ 2147483647) (h_a2 : (-2147483648) ≤ a2 ∧ a2 ≤ 2147483647) (hB : BdX P) (v_TX : TX P) (Q : Option PV → PH → Prop) (hQ : ∀ (r : Int) (_ : (-2147483648) ≤ r ∧ r ≤ 2147483647) (P1 : PH) (_ : BdX P1) (_ : FrX ([(45, 3), (45, 4), (46, 3), (46, 4), (46, 5), (46, 6), (46, 7), (46, 8)], []) P P1), Q (some (vI r)) P1) : Ct WSX G 3 iX6_readNumber [vR 110, vI a1, vI a2] P Q := by
  refine Ct.of (by decide) (l0 := [(0, vR 110), (1, vI a1), (2, vI a2)]) rfl (Nat.le_of_ble_eq_true rfl) ?_
  refine g_aload_n dX6_readNumber_0 rfl ?_
  refine x_g45_0 (n := 111) (⟨by decide, rfl⟩ : kx 110 45) ffX6_12 dX6_readNumber_1 rfl ?_
  refine x_g46_4 (z := (P 111 4)) (⟨by decide, rfl⟩ : kx 111 46) ffX6_40 dX6_readNumber_4 rfl ?_
  refine g_iconst dX6_readNumber_7 ?_
  have f1 := bx_46_4 (o := 111) hB (⟨by decide, rfl⟩ : kx 111 46)
  refine g_icmp_eq (tgt := 18) dX6_readNumber_8 (by decide) ⟨by have q0 := bx_46_4 (o := 111) hB (⟨by decide, rfl⟩ : kx 111 46); omega, by have q0 := bx_46_4 (o := 111) hB (⟨by decide, rfl⟩ : kx 111 46); omega⟩ (by decide) (fun k2 => ?_) (fun k2 => ?_)
  · refine g_aload_n dX6_readNumber_18 rfl ?_
    refine x_g45_0 (n := 111) (⟨by decide, rfl⟩ : kx 110 45) ffX6_12 dX6_readNumber_19 rfl ?_
    refine x_g46_7 (z := (P 111 7)) (⟨by decide, rfl⟩ : kx 111 46) ffX6_95 dX6_readNumber_22 rfl ?_
    refine g_istore_n (l1 := [(3, vI (P 111 7)), (0, vR 110), (1, vI a1), (2, vI a2)]) dX6_readNumber_25 (by decide) rfl ?_
    refine g_iload_n dX6_readNumber_26 rfl ?_
    refine g_iload_n dX6_readNumber_27 rfl ?_
    have f3 := bx_46_7 (o := 111) hB (⟨by decide, rfl⟩ : kx 111 46)
    refine g_icmp_lt (tgt := 36) dX6_readNumber_28 (by decide) ⟨by have q0 := bx_46_7 (o := 111) hB (⟨by decide, rfl⟩ : kx 111 46); omega, by have q0 := bx_46_7 (o := 111) hB (⟨by decide, rfl⟩ : kx 111 46); omega⟩ ⟨by omega, by omega⟩ (fun k4 => ?_) (fun k4 => ?_)
    · refine g_aload_n dX6_readNumber_36 rfl ?_
      refine g_iconst dX6_readNumber_37 ?_
      refine g_aload_n dX6_readNumber_38 rfl ?_
      refine x_g45_0 (n := 111) (⟨by decide, rfl⟩ : kx 110 45) ffX6_12 dX6_readNumber_39 rfl ?_
      refine x_g46_5 (z := (P 111 5)) (⟨by decide, rfl⟩ : kx 111 46) ffX6_72 dX6_readNumber_42 rfl ?_
      have f5 := bx_46_5 (o := 111) hB (⟨by decide, rfl⟩ : kx 111 46)
      refine g_vI (av := [vI 4, vI (P 111 5)]) (o := 110) (st := []) (m_X6_fail G P 4 (P 111 5) (by decide) ⟨by have q0 := bx_46_5 (o := 111) hB (⟨by decide, rfl⟩ : kx 111 46); omega, by have q0 := bx_46_5 (o := 111) hB (⟨by decide, rfl⟩ : kx 111 46); omega⟩ hB  _ (fun rc6 hc6 Pc6 hBc6 hFc6 => ⟨rc6, rfl, ?_⟩)) cf_X6_fail t_727 rfl (show kx 110 45 from (⟨by decide, rfl⟩ : kx 110 45)).1 ((show kx 110 45 from (⟨by decide, rfl⟩ : kx 110 45)).sh rfl) rfl rfl (Nat.le_of_ble_eq_true rfl) (by decide) rfl dX6_readNumber_45
      refine g_pop dX6_readNumber_48 rfl ?_
      refine g_iconst dX6_readNumber_49 ?_
      exact g_retI dX6_readNumber_50 rfl (hQ (-1) (by decide) _ hBc6 (FrX.c FrX.rf hFc6 rfl) )
    · refine g_iload_n dX6_readNumber_31 rfl ?_
      refine g_iload_n dX6_readNumber_32 rfl ?_
      refine g_icmp_le (tgt := 51) dX6_readNumber_33 (by decide) ⟨by have q0 := bx_46_7 (o := 111) hB (⟨by decide, rfl⟩ : kx 111 46); omega, by have q0 := bx_46_7 (o := 111) hB (⟨by decide, rfl⟩ : kx 111 46); omega⟩ ⟨by omega, by omega⟩ (fun k7 => ?_) (fun k7 => ?_)
      · refine g_aload_n dX6_readNumber_51 rfl ?_
        refine x_g45_0 (n := 111) (⟨by decide, rfl⟩ : kx 110 45) ffX6_12 dX6_readNumber_52 rfl ?_
        refine g_vV (av := []) (o := 111) (st := []) (m_X7_step G P  hB v_TX _ (fun Pc8 hBc8 hFc8 => ⟨rfl, ?_⟩)) cf_X7_step t_731 rfl (show kx 111 46 from (⟨by decide, rfl⟩ : kx 111 46)).1 ((show kx 111 46 from (⟨by decide, rfl⟩ : kx 111 46)).sh rfl) rfl rfl (Nat.le_of_ble_eq_true rfl) (by decide) rfl dX6_readNumber_55
        refine g_iload_n dX6_readNumber_58 rfl ?_
        exact g_retI dX6_readNumber_59 rfl (hQ (P 111 7) ⟨by have q0 := bx_46_7 (o := 111) hB (⟨by decide, rfl⟩ : kx 111 46); omega, by have q0 := bx_46_7 (o := 111) hB (⟨by decide, rfl⟩ : kx 111 46); omega⟩ _ hBc8 (FrX.c FrX.rf hFc8 rfl) )
      · refine g_aload_n dX6_readNumber_36 rfl ?_
        refine g_iconst dX6_readNumber_37 ?_
        refine g_aload_n dX6_readNumber_38 rfl ?_
        refine x_g45_0 (n := 111) (⟨by decide, rfl⟩ : kx 110 45) ffX6_12 dX6_readNumber_39 rfl ?_
        refine x_g46_5 (z := (P 111 5)) (⟨by decide, rfl⟩ : kx 111 46) ffX6_72 dX6_readNumber_42 rfl ?_
        have f9 := bx_46_5 (o := 111) hB (⟨by decide, rfl⟩ : kx 111 46)
        refine g_vI (av := [vI 4, vI (P 111 5)]) (o := 110) (st := []) (m_X6_fail G P 4 (P 111 5) (by decide) ⟨by have q0 := bx_46_5 (o := 111) hB (⟨by decide, rfl⟩ : kx 111 46); omega, by have q0 := bx_46_5 (o := 111) hB (⟨by decide, rfl⟩ : kx 111 46); omega⟩ hB  _ (fun rc10 hc10 Pc10 hBc10 hFc10 => ⟨rc10, rfl, ?_⟩)) cf_X6_fail t_727 rfl (show kx 110 45 from (⟨by decide, rfl⟩ : kx 110 45)).1 ((show kx 110 45 from (⟨by decide, rfl⟩ : kx 110 45)).sh rfl) rfl rfl (Nat.le_of_ble_eq_true rfl) (by decide) rfl dX6_readNumber_45
        refine g_pop dX6_readNumber_48 rfl ?_
        refine g_iconst dX6_readNumber_49 ?_
        exact g_retI dX6_readNumber_50 rfl (hQ (-1) (by decide) _ hBc10 (FrX.c FrX.rf hFc10 rfl) )
  · refine g_aload_n dX6_readNumber_11 rfl ?_
    refine g_vI (av := []) (o := 110) (st := []) (m_X6_failHere G P  hB  _ (fun rc11 hc11 Pc11 hBc11 hFc11 => ⟨rc11, rfl, ?_⟩)) cf_X6_failHere t_723 rfl (show kx 110 45 from (⟨by decide, rfl⟩ : kx 110 45)).1 ((show kx 110 45 from (⟨by decide, rfl⟩ : kx 110 45)).sh rfl) rfl rfl (Nat.le_of_ble_eq_true rfl) (by decide) rfl dX6_readNumber_12
    refine g_pop dX6_readNumber_15 rfl ?_
    refine g_iconst dX6_readNumber_16 ?_
    exact g_retI dX6_readNumber_17 rfl (hQ (-1) (by decide) _ hBc11 (FrX.c FrX.rf hFc11 rfl) )
set_option maxRecDepth 100000 in
set_option maxHeartbeats 4000000 in
theorem m_X6_fill (G : GT) (P : PH) (o1 : Nat) (a1 : Int) (a2 : Int) (a3 : Int) (k_o1 : kx o1 50) (h_a1 : (-2147483648) ≤ a1 ∧ a1 ≤ 2147483647) (h_a2 : (-2147483648) ≤ a2 ∧ a2 ≤ 2147483647) (h_a3 : (-2147483648) ≤ a3 ∧ a3 ≤ 2147483647) (hB : BdX P) (Q : Option PV → PH → Prop) (hQ : ∀ (P1 : PH) (_ : BdX P1) (_ : FrX ([], [50]) P P1), Q none P1) : Ct WSX G 2 iX6_fill [vR o1, vI a1, vI a2, vI a3] P Q := by
  refine Ct.of (by decide) (l0 := [(0, vR o1), (1, vI a1), (2, vI a2), (3, vI a3)]) rfl (Nat.le_of_ble_eq_true rfl) ?_
  refine g_iload_n dX6_fill_0 rfl ?_
  refine g_iconst dX6_fill_1 ?_
  refine g_sI (av := [vI a1, vI 0]) (st := []) (m_J9_max_7cf53 G P a1 0 ⟨by omega, by omega⟩ (by decide) hB  _ (fun rc1 hc1 gc1_m => ⟨rc1, rfl, ?_⟩)) cf_J9_max_7cf53 t_811 rfl (Nat.le_of_ble_eq_true rfl) (by decide) rfl dX6_fill_2
  refine g_istore (l1 := [(4, vI rc1), (0, vR o1), (1, vI a1), (2, vI a2), (3, vI a3)]) dX6_fill_5 (by decide) rfl ?_
  have L7_1 : ∀ (n7_1 : Nat) (x7_4_1 : Int) (h_x7_4_1 : 0 ≤ x7_4_1 ∧ x7_4_1 ≤ 2147483647) (H7_1 : PH) (hB7_1 : BdX H7_1) (hE7_1 : FrX ([], [50]) P H7_1) (hm7_1 : ((2147483648 - x7_4_1) : Int).toNat < n7_1), Go WSX G 2 iX6_fill 7 [(0, vR o1), (2, vI a2), (3, vI a3), (4, vI x7_4_1)] [] H7_1 Q := by
    intro n7_1
    induction n7_1 with
    | zero => intro x7_4_1 h_x7_4_1 H7_1 hB7_1 hE7_1 hm7_1; exact absurd hm7_1 (Nat.not_lt_zero _)
    | succ n7_1 ih7_1 =>
    intro x7_4_1 h_x7_4_1 H7_1 hB7_1 hE7_1 hm7_1
    refine g_iload dX6_fill_7 rfl ?_
    refine g_iload_n dX6_fill_9 rfl ?_
    refine g_icmp_gt (tgt := 31) dX6_fill_10 (by decide) ⟨by omega, by omega⟩ ⟨by omega, by omega⟩ (fun k15 => ?_) (fun k15 => ?_)
    · exact g_retV dX6_fill_31 rfl (hQ _ hB7_1 (FrX.c FrX.rf hE7_1 rfl) )
    · refine g_iload dX6_fill_13 rfl ?_
      refine g_aload_n dX6_fill_15 rfl ?_
      refine x_n50 k_o1 dX6_fill_16 ?_
      refine g_icmp_ge (tgt := 31) dX6_fill_17 (by decide) ⟨by omega, by omega⟩ (by decide) (fun k16 => ?_) (fun k16 => ?_)
      · exact g_retV dX6_fill_31 rfl (hQ _ hB7_1 (FrX.c FrX.rf hE7_1 rfl) )
      · refine g_aload_n dX6_fill_20 rfl ?_
        refine g_iload dX6_fill_21 rfl ?_
        refine g_iload_n dX6_fill_23 rfl ?_
        refine x_s50 k_o1 dX6_fill_24 ⟨by omega, by omega⟩ ?_
        have hB17 := by_50 (z := a3) (k := x7_4_1) hB7_1 k_o1 ⟨by omega, by omega⟩
        refine g_iinc (l1 := [(4, vI (x7_4_1 + 1)), (0, vR o1), (2, vI a2), (3, vI a3)]) dX6_fill_25 rfl (by decide) rfl ?_
        refine g_goto (tgt := 7) dX6_fill_28 (by decide) ?_
        refine g_forget (l1 := [(0, vR o1), (2, vI a2), (3, vI a3), (4, vI (x7_4_1 + 1))]) (by intro q hq; simp only [List.mem_cons, List.not_mem_nil, or_false] at hq ⊢; rcases hq with rfl | rfl | rfl | rfl <;> simp) ?_
        exact ih7_1 (x7_4_1 + 1) ⟨by omega, by omega⟩ _ hB17 (FrX.s (FrX.c FrX.rf hE7_1 rfl) k_o1 rfl) (by omega)
  refine g_forget (l1 := [(0, vR o1), (2, vI a2), (3, vI a3), (4, vI rc1)]) (by intro q hq; simp only [List.mem_cons, List.not_mem_nil, or_false] at hq ⊢; rcases hq with rfl | rfl | rfl | rfl <;> simp) ?_
  exact L7_1 _ rc1 ⟨by omega, by omega⟩ _ hB FrX.rf (Nat.lt_succ_self _)
set_option maxRecDepth 100000 in
set_option maxHeartbeats 4000000 in
theorem m_X6_readConName (G : GT) (P : PH) (a1 : Int) (h_a1 : (-2147483648) ≤ a1 ∧ a1 ≤ 2147483647) (hB : BdX P) (v_TX : TX P) (Q : Option PV → PH → Prop) (hQ : ∀ (r : Int) (_ : (-1) ≤ r ∧ r ≤ 23) (P1 : PH) (_ : BdX P1) (_ : FrX ([(45, 3), (45, 4), (46, 3), (46, 4), (46, 5), (46, 6), (46, 7), (46, 8)], []) P P1), Q (some (vI r)) P1) : Ct WSX G 3 iX6_readConName [vR 110, vI a1] P Q := by
  refine Ct.of (by decide) (l0 := [(0, vR 110), (1, vI a1)]) rfl (Nat.le_of_ble_eq_true rfl) ?_
  refine g_aload_n dX6_readConName_0 rfl ?_
  refine x_g45_0 (n := 111) (⟨by decide, rfl⟩ : kx 110 45) ffX6_12 dX6_readConName_1 rfl ?_
  refine g_vI (av := []) (o := 111) (st := []) (m_X7_isName G P  hB  _ (fun rc1 hc1 => ⟨rc1, rfl, ?_⟩)) cf_X7_isName t_736 rfl (show kx 111 46 from (⟨by decide, rfl⟩ : kx 111 46)).1 ((show kx 111 46 from (⟨by decide, rfl⟩ : kx 111 46)).sh rfl) rfl rfl (Nat.le_of_ble_eq_true rfl) (by decide) rfl dX6_readConName_4
  refine g_if_ne (tgt := 17) dX6_readConName_7 (by decide) ⟨by omega, by omega⟩ (fun k2 => ?_) (fun k2 => ?_)
  · refine g_aload_n dX6_readConName_17 rfl ?_
    refine x_g45_2 (n := (P 110 2).toNat) (⟨by decide, rfl⟩ : kx 110 45) ffX6_27 dX6_readConName_18 (br_110_2 hB) ?_
    refine x_g28_0 (n := (crX (P 110 2).toNat 0)) (bk_110_2 hB) ffX6_108 dX6_readConName_21 rfl ?_
    refine g_iload_n dX6_readConName_24 rfl ?_
    refine g_aload_n dX6_readConName_25 rfl ?_
    refine x_g45_0 (n := 111) (⟨by decide, rfl⟩ : kx 110 45) ffX6_12 dX6_readConName_26 rfl ?_
    refine x_g46_7 (z := (P 111 7)) (⟨by decide, rfl⟩ : kx 111 46) ffX6_95 dX6_readConName_29 rfl ?_
    have f3 := bx_46_7 (o := 111) hB (⟨by decide, rfl⟩ : kx 111 46)
    refine g_vI (av := [vI a1, vI (P 111 7)]) (o := (crX (P 110 2).toNat 0)) (st := []) (m_X3_conNamedOf G P (crX (P 110 2).toNat 0) a1 (P 111 7) (ck_28_0 (bk_110_2 hB)) ⟨by omega, by omega⟩ ⟨by have q0 := bx_46_7 (o := 111) hB (⟨by decide, rfl⟩ : kx 111 46); omega, by have q0 := bx_46_7 (o := 111) hB (⟨by decide, rfl⟩ : kx 111 46); omega⟩ hB  _ (fun rc4 hc4 => ⟨rc4, rfl, ?_⟩)) cf_X3_conNamedOf t_827 rfl (show kx (crX (P 110 2).toNat 0) 29 from (ck_28_0 (bk_110_2 hB))).1 ((show kx (crX (P 110 2).toNat 0) 29 from (ck_28_0 (bk_110_2 hB))).sh rfl) rfl rfl (Nat.le_of_ble_eq_true rfl) (by decide) rfl dX6_readConName_32
    refine g_istore_n (l1 := [(2, vI rc4), (0, vR 110), (1, vI a1)]) dX6_readConName_35 (by decide) rfl ?_
    refine g_iload_n dX6_readConName_36 rfl ?_
    refine g_iconst dX6_readConName_37 ?_
    refine g_icmp_ne (tgt := 56) dX6_readConName_38 (by decide) ⟨by omega, by omega⟩ (by decide) (fun k5 => ?_) (fun k5 => ?_)
    · refine g_aload_n dX6_readConName_56 rfl ?_
      refine x_g45_0 (n := 111) (⟨by decide, rfl⟩ : kx 110 45) ffX6_12 dX6_readConName_57 rfl ?_
      refine g_vV (av := []) (o := 111) (st := []) (m_X7_step G P  hB v_TX _ (fun Pc6 hBc6 hFc6 => ⟨rfl, ?_⟩)) cf_X7_step t_731 rfl (show kx 111 46 from (⟨by decide, rfl⟩ : kx 111 46)).1 ((show kx 111 46 from (⟨by decide, rfl⟩ : kx 111 46)).sh rfl) rfl rfl (Nat.le_of_ble_eq_true rfl) (by decide) rfl dX6_readConName_60
      refine g_iload_n dX6_readConName_63 rfl ?_
      exact g_retI dX6_readConName_64 rfl (hQ rc4 ⟨by omega, by omega⟩ _ hBc6 (FrX.c FrX.rf hFc6 rfl) )
    · refine g_aload_n dX6_readConName_41 rfl ?_
      refine g_iconst dX6_readConName_42 ?_
      refine g_aload_n dX6_readConName_43 rfl ?_
      refine x_g45_0 (n := 111) (⟨by decide, rfl⟩ : kx 110 45) ffX6_12 dX6_readConName_44 rfl ?_
      refine x_g46_5 (z := (P 111 5)) (⟨by decide, rfl⟩ : kx 111 46) ffX6_72 dX6_readConName_47 rfl ?_
      have f7 := bx_46_5 (o := 111) hB (⟨by decide, rfl⟩ : kx 111 46)
      refine g_vI (av := [vI 3, vI (P 111 5)]) (o := 110) (st := []) (m_X6_fail G P 3 (P 111 5) (by decide) ⟨by have q0 := bx_46_5 (o := 111) hB (⟨by decide, rfl⟩ : kx 111 46); omega, by have q0 := bx_46_5 (o := 111) hB (⟨by decide, rfl⟩ : kx 111 46); omega⟩ hB  _ (fun rc8 hc8 Pc8 hBc8 hFc8 => ⟨rc8, rfl, ?_⟩)) cf_X6_fail t_727 rfl (show kx 110 45 from (⟨by decide, rfl⟩ : kx 110 45)).1 ((show kx 110 45 from (⟨by decide, rfl⟩ : kx 110 45)).sh rfl) rfl rfl (Nat.le_of_ble_eq_true rfl) (by decide) rfl dX6_readConName_50
      refine g_pop dX6_readConName_53 rfl ?_
      refine g_iconst dX6_readConName_54 ?_
      exact g_retI dX6_readConName_55 rfl (hQ (-1) (by decide) _ hBc8 (FrX.c FrX.rf hFc8 rfl) )
  · refine g_aload_n dX6_readConName_10 rfl ?_
    refine g_vI (av := []) (o := 110) (st := []) (m_X6_failHere G P  hB  _ (fun rc9 hc9 Pc9 hBc9 hFc9 => ⟨rc9, rfl, ?_⟩)) cf_X6_failHere t_723 rfl (show kx 110 45 from (⟨by decide, rfl⟩ : kx 110 45)).1 ((show kx 110 45 from (⟨by decide, rfl⟩ : kx 110 45)).sh rfl) rfl rfl (Nat.le_of_ble_eq_true rfl) (by decide) rfl dX6_readConName_11
    refine g_pop dX6_readConName_14 rfl ?_
    refine g_iconst dX6_readConName_15 ?_
    exact g_retI dX6_readConName_16 rfl (hQ (-1) (by decide) _ hBc9 (FrX.c FrX.rf hFc9 rfl) )
set_option maxRecDepth 100000 in
set_option maxHeartbeats 4000000 in
theorem m_X6_fillCase (G : GT) (P : PH) (a1 : Int) (a2 : Int) (a3 : Int) (h_a1 : 0 ≤ a1 ∧ a1 ≤ 23) (h_a2 : 0 ≤ a2 ∧ a2 ≤ 9) (h_a3 : 0 ≤ a3 ∧ a3 ≤ 10) (hB : BdX P) (Q : Option PV → PH → Prop) (hQ : ∀ (P1 : PH) (_ : BdX P1) (_ : FrX ([], [50]) P P1), Q none P1) : Ct WSX G 3 iX6_fillCase [vR 110, vI a1, vI a2, vI a3] P Q := by
  refine Ct.of (by decide) (l0 := [(0, vR 110), (1, vI a1), (2, vI a2), (3, vI a3)]) rfl (Nat.le_of_ble_eq_true rfl) ?_
  refine g_iload_n dX6_fillCase_0 rfl ?_
  refine g_if_lt (tgt := 15) dX6_fillCase_1 (by decide) ⟨by omega, by omega⟩ (fun k1 => by exfalso; omega) (fun k1 => ?_)
  refine g_iload_n dX6_fillCase_4 rfl ?_
  refine g_iconst dX6_fillCase_5 ?_
  refine g_iadd dX6_fillCase_6 ?_
  refine g_aload_n dX6_fillCase_7 rfl ?_
  refine x_g45_1 (n := 114) (⟨by decide, rfl⟩ : kx 110 45) ffX6_20 dX6_fillCase_8 rfl ?_
  refine x_n49 (⟨by decide, rfl⟩ : kx 114 49) dX6_fillCase_11 ?_
  refine g_icmp_lt (tgt := 16) dX6_fillCase_12 (by decide) ⟨by omega, by omega⟩ (by decide) (fun k2 => ?_) (fun k2 => ?_)
  · refine g_aload_n dX6_fillCase_16 rfl ?_
    refine x_g45_2 (n := (P 110 2).toNat) (⟨by decide, rfl⟩ : kx 110 45) ffX6_27 dX6_fillCase_17 (br_110_2 hB) ?_
    refine x_g28_0 (n := (crX (P 110 2).toNat 0)) (bk_110_2 hB) ffX6_108 dX6_fillCase_20 rfl ?_
    refine g_astore (l1 := [(4, vR (crX (P 110 2).toNat 0)), (0, vR 110), (1, vI a1), (2, vI a2), (3, vI a3)]) dX6_fillCase_23 (by decide) rfl ?_
    refine g_aload dX6_fillCase_25 rfl ?_
    refine g_aload dX6_fillCase_27 rfl ?_
    refine x_g29_7 (n := (crX (crX (P 110 2).toNat 0) 7)) (ck_28_0 (bk_110_2 hB)) ffX6_193 dX6_fillCase_29 rfl ?_
    refine g_iload_n dX6_fillCase_32 rfl ?_
    refine x_l37 (z := (P (crX (crX (P 110 2).toNat 0) 7) a1)) (ck_29_7 (ck_28_0 (bk_110_2 hB))) dX6_fillCase_33 ⟨by omega, by omega⟩ rfl ?_
    have f3 := bx_37 (o := (crX (crX (P 110 2).toNat 0) 7)) (k := a1) hB (ck_29_7 (ck_28_0 (bk_110_2 hB)))
    refine g_vI (av := [vI (P (crX (crX (P 110 2).toNat 0) 7) a1)]) (o := (crX (P 110 2).toNat 0)) (st := []) (m_X3_sizeOf G P (crX (P 110 2).toNat 0) (P (crX (crX (P 110 2).toNat 0) 7) a1) (ck_28_0 (bk_110_2 hB)) ⟨by have q0 := bx_37 (o := (crX (crX (P 110 2).toNat 0) 7)) (k := a1) hB (ck_29_7 (ck_28_0 (bk_110_2 hB))); omega, by have q0 := bx_37 (o := (crX (crX (P 110 2).toNat 0) 7)) (k := a1) hB (ck_29_7 (ck_28_0 (bk_110_2 hB))); omega⟩ hB  _ (fun rc4 hc4 => ⟨rc4, rfl, ?_⟩)) cf_X3_sizeOf t_776 rfl (show kx (crX (P 110 2).toNat 0) 29 from (ck_28_0 (bk_110_2 hB))).1 ((show kx (crX (P 110 2).toNat 0) 29 from (ck_28_0 (bk_110_2 hB))).sh rfl) rfl rfl (Nat.le_of_ble_eq_true rfl) (by decide) rfl dX6_fillCase_34
    refine g_istore (l1 := [(5, vI rc4), (4, vR (crX (P 110 2).toNat 0)), (0, vR 110), (1, vI a1), (2, vI a2), (3, vI a3)]) dX6_fillCase_37 (by decide) rfl ?_
    refine g_aload dX6_fillCase_39 rfl ?_
    refine g_iload_n dX6_fillCase_41 rfl ?_
    refine g_vI (av := [vI a1]) (o := (crX (P 110 2).toNat 0)) (st := []) (m_X3_secondSize G P (crX (P 110 2).toNat 0) a1 (ck_28_0 (bk_110_2 hB)) ⟨by omega, by omega⟩ hB  _ (fun rc5 hc5 => ⟨rc5, rfl, ?_⟩)) cf_X3_secondSize t_836 rfl (show kx (crX (P 110 2).toNat 0) 29 from (ck_28_0 (bk_110_2 hB))).1 ((show kx (crX (P 110 2).toNat 0) 29 from (ck_28_0 (bk_110_2 hB))).sh rfl) rfl rfl (Nat.le_of_ble_eq_true rfl) (by decide) rfl dX6_fillCase_42
    refine g_istore (l1 := [(6, vI rc5), (5, vI rc4), (4, vR (crX (P 110 2).toNat 0)), (0, vR 110), (1, vI a1), (2, vI a2), (3, vI a3)]) dX6_fillCase_45 (by decide) rfl ?_
    refine g_aload dX6_fillCase_47 rfl ?_
    refine x_g29_6 (n := (crX (crX (P 110 2).toNat 0) 6)) (ck_28_0 (bk_110_2 hB)) ffX6_187 dX6_fillCase_49 rfl ?_
    refine g_iload_n dX6_fillCase_52 rfl ?_
    refine x_l36 (z := (P (crX (crX (P 110 2).toNat 0) 6) a1)) (ck_29_6 (ck_28_0 (bk_110_2 hB))) dX6_fillCase_53 ⟨by omega, by omega⟩ rfl ?_
    refine g_iconst dX6_fillCase_54 ?_
    have f6 := bx_36 (o := (crX (crX (P 110 2).toNat 0) 6)) (k := a1) hB (ck_29_6 (ck_28_0 (bk_110_2 hB)))
    refine g_icmp_ge (tgt := 62) dX6_fillCase_55 (by decide) ⟨by have q0 := bx_36 (o := (crX (crX (P 110 2).toNat 0) 6)) (k := a1) hB (ck_29_6 (ck_28_0 (bk_110_2 hB))); omega, by have q0 := bx_36 (o := (crX (crX (P 110 2).toNat 0) 6)) (k := a1) hB (ck_29_6 (ck_28_0 (bk_110_2 hB))); omega⟩ (by decide) (fun k7 => ?_) (fun k7 => ?_)
    · refine g_iconst dX6_fillCase_62 ?_
      refine g_istore (l1 := [(7, vI 0), (6, vI rc5), (5, vI rc4), (4, vR (crX (P 110 2).toNat 0)), (0, vR 110), (1, vI a1), (2, vI a2), (3, vI a3)]) dX6_fillCase_63 (by decide) rfl ?_
      refine g_iconst dX6_fillCase_65 ?_
      refine g_istore (l1 := [(8, vI 0), (7, vI 0), (6, vI rc5), (5, vI rc4), (4, vR (crX (P 110 2).toNat 0)), (0, vR 110), (1, vI a1), (2, vI a2), (3, vI a3)]) dX6_fillCase_66 (by decide) rfl ?_
      have L68_7 : ∀ (n68_7 : Nat) (x68_8_7 : Int) (h_x68_8_7 : 0 ≤ x68_8_7 ∧ x68_8_7 ≤ 2048) (H68_7 : PH) (hB68_7 : BdX H68_7) (hE68_7 : FrX ([], [50]) P H68_7) (hm68_7 : ((2049 - x68_8_7) : Int).toNat < n68_7), Go WSX G 3 iX6_fillCase 68 [(0, vR 110), (1, vI a1), (2, vI a2), (3, vI a3), (4, vR (crX (P 110 2).toNat 0)), (5, vI rc4), (6, vI rc5), (7, vI 0), (8, vI x68_8_7)] [] H68_7 Q := by
        intro n68_7
        induction n68_7 with
        | zero => intro x68_8_7 h_x68_8_7 H68_7 hB68_7 hE68_7 hm68_7; exact absurd hm68_7 (Nat.not_lt_zero _)
        | succ n68_7 ih68_7 =>
        intro x68_8_7 h_x68_8_7 H68_7 hB68_7 hE68_7 hm68_7
        refine g_iload dX6_fillCase_68 rfl ?_
        refine g_iload dX6_fillCase_70 rfl ?_
        refine g_icmp_ge (tgt := 182) dX6_fillCase_72 (by decide) ⟨by omega, by omega⟩ ⟨by omega, by omega⟩ (fun k17747 => ?_) (fun k17747 => ?_)
        · exact g_retV dX6_fillCase_182 rfl (hQ _ hB68_7 (FrX.c FrX.rf hE68_7 rfl) )
        · refine g_iload dX6_fillCase_75 rfl ?_
          refine g_sipush dX6_fillCase_77 (by decide) ?_
          refine g_icmp_ge (tgt := 182) dX6_fillCase_80 (by decide) ⟨by omega, by omega⟩ (by decide) (fun k17748 => ?_) (fun k17748 => ?_)
          · exact g_retV dX6_fillCase_182 rfl (hQ _ hB68_7 (FrX.c FrX.rf hE68_7 rfl) )
          · refine g_aload_n dX6_fillCase_83 rfl ?_
            refine x_g45_1 (n := 114) (⟨by decide, rfl⟩ : kx 110 45) ffX6_20 dX6_fillCase_84 rfl ?_
            refine g_iload_n dX6_fillCase_87 rfl ?_
            refine x_l49 (n := (crX 114 a3.toNat)) (⟨by decide, rfl⟩ : kx 114 49) dX6_fillCase_88 ⟨by omega, by omega⟩ rfl ?_
            have kk17749 := (ce_49 (j := a3.toNat) (⟨by decide, rfl⟩ : kx 114 49) (by omega))
            refine g_iload dX6_fillCase_89 rfl ?_
            refine x_l50 (z := (H68_7 (crX 114 a3.toNat) x68_8_7)) kk17749 dX6_fillCase_91 ⟨by omega, by omega⟩ rfl ?_
            have f17750 := bx_50 (o := (crX 114 a3.toNat)) (k := x68_8_7) hB68_7 kk17749
            have J176_18191 : ∀ (H176_18191 : PH) (hB176_18191 : BdX H176_18191) (hE176_18191 : FrX ([], [50]) H68_7 H176_18191), Go WSX G 3 iX6_fillCase 176 [(0, vR 110), (1, vI a1), (2, vI a2), (3, vI a3), (4, vR (crX (P 110 2).toNat 0)), (5, vI rc4), (6, vI rc5), (7, vI 0), (8, vI x68_8_7)] [] H176_18191 Q := by
              intro H176_18191 hB176_18191 hE176_18191
              refine g_iinc (l1 := [(8, vI (x68_8_7 + 1)), (0, vR 110), (1, vI a1), (2, vI a2), (3, vI a3), (4, vR (crX (P 110 2).toNat 0)), (5, vI rc4), (6, vI rc5), (7, vI 0)]) dX6_fillCase_176 rfl (by decide) rfl ?_
              refine g_goto (tgt := 68) dX6_fillCase_179 (by decide) ?_
              refine g_forget (l1 := [(0, vR 110), (1, vI a1), (2, vI a2), (3, vI a3), (4, vR (crX (P 110 2).toNat 0)), (5, vI rc4), (6, vI rc5), (7, vI 0), (8, vI (x68_8_7 + 1))]) (by intro q hq; simp only [List.mem_cons, List.not_mem_nil, or_false] at hq ⊢; rcases hq with rfl | rfl | rfl | rfl | rfl | rfl | rfl | rfl | rfl <;> simp) ?_
              exact ih68_7 (x68_8_7 + 1) ⟨by omega, by omega⟩ _ hB176_18191 (FrX.c (FrX.c FrX.rf hE68_7 rfl) hE176_18191 rfl) (by omega)
            refine g_if_ne (tgt := 98) dX6_fillCase_92 (by decide) ⟨by have q0 := bx_50 (o := (crX 114 a3.toNat)) (k := x68_8_7) hB68_7 kk17749; omega, by have q0 := bx_50 (o := (crX 114 a3.toNat)) (k := x68_8_7) hB68_7 kk17749; omega⟩ (fun k18193 => ?_) (fun k18193 => ?_)
            · refine g_aload dX6_fillCase_98 rfl ?_
              refine x_g29_5 (n := (crX (crX (P 110 2).toNat 0) 5)) (ck_28_0 (bk_110_2 hB)) ffX6_190 dX6_fillCase_100 rfl ?_
              refine g_iload_n dX6_fillCase_103 rfl ?_
              refine x_l35 (z := (P (crX (crX (P 110 2).toNat 0) 5) a1)) (ck_29_5 (ck_28_0 (bk_110_2 hB))) dX6_fillCase_104 ⟨by omega, by omega⟩ ((FrX.g hE68_7 (ck_29_5 (ck_28_0 (bk_110_2 hB))) rfl).trans rfl) ?_
              refine g_iload dX6_fillCase_105 rfl ?_
              refine g_iload dX6_fillCase_107 rfl ?_
              refine g_imul dX6_fillCase_109 ?_
              refine g_norm (fun r18194 h_r18194 e_r18194 => ?_)
              refine g_iadd dX6_fillCase_110 ?_
              refine g_norm (fun r18195 h_r18195 e_r18195 => ?_)
              refine g_istore (l1 := [(9, vI r18195), (0, vR 110), (1, vI a1), (2, vI a2), (3, vI a3), (4, vR (crX (P 110 2).toNat 0)), (5, vI rc4), (6, vI rc5), (7, vI 0), (8, vI x68_8_7)]) dX6_fillCase_111 (by decide) rfl ?_
              refine g_iconst dX6_fillCase_113 ?_
              refine g_istore (l1 := [(10, vI 0), (9, vI r18195), (0, vR 110), (1, vI a1), (2, vI a2), (3, vI a3), (4, vR (crX (P 110 2).toNat 0)), (5, vI rc4), (6, vI rc5), (7, vI 0), (8, vI x68_8_7)]) dX6_fillCase_114 (by decide) rfl ?_
              have L116_18195 : ∀ (n116_18195 : Nat) (x116_10_18195 : Int) (h_x116_10_18195 : 0 ≤ x116_10_18195 ∧ x116_10_18195 ≤ 2048) (H116_18195 : PH) (hB116_18195 : BdX H116_18195) (hE116_18195 : FrX ([], [50]) H68_7 H116_18195) (hm116_18195 : ((2049 - x116_10_18195) : Int).toNat < n116_18195), Go WSX G 3 iX6_fillCase 116 [(0, vR 110), (1, vI a1), (2, vI a2), (3, vI a3), (4, vR (crX (P 110 2).toNat 0)), (5, vI rc4), (6, vI rc5), (7, vI 0), (8, vI x68_8_7), (9, vI r18195), (10, vI x116_10_18195)] [] H116_18195 Q := by
                intro n116_18195
                induction n116_18195 with
                | zero => intro x116_10_18195 h_x116_10_18195 H116_18195 hB116_18195 hE116_18195 hm116_18195; exact absurd hm116_18195 (Nat.not_lt_zero _)
                | succ n116_18195 ih116_18195 =>
                intro x116_10_18195 h_x116_10_18195 H116_18195 hB116_18195 hE116_18195 hm116_18195
                refine g_iload dX6_fillCase_116 rfl ?_
                refine g_iload dX6_fillCase_118 rfl ?_
                refine g_icmp_ge (tgt := 176) dX6_fillCase_120 (by decide) ⟨by omega, by omega⟩ ⟨by omega, by omega⟩ (fun k18613 => ?_) (fun k18613 => ?_)
                · refine g_forget (l1 := [(0, vR 110), (1, vI a1), (2, vI a2), (3, vI a3), (4, vR (crX (P 110 2).toNat 0)), (5, vI rc4), (6, vI rc5), (7, vI 0), (8, vI x68_8_7)]) (by intro q hq; simp only [List.mem_cons, List.not_mem_nil, or_false] at hq ⊢; rcases hq with rfl | rfl | rfl | rfl | rfl | rfl | rfl | rfl | rfl <;> simp) ?_
                  exact J176_18191 _ hB116_18195 (FrX.c FrX.rf hE116_18195 rfl)
                · refine g_iload dX6_fillCase_123 rfl ?_
                  refine g_sipush dX6_fillCase_125 (by decide) ?_
                  refine g_icmp_ge (tgt := 176) dX6_fillCase_128 (by decide) ⟨by omega, by omega⟩ (by decide) (fun k18614 => ?_) (fun k18614 => ?_)
                  · refine g_forget (l1 := [(0, vR 110), (1, vI a1), (2, vI a2), (3, vI a3), (4, vR (crX (P 110 2).toNat 0)), (5, vI rc4), (6, vI rc5), (7, vI 0), (8, vI x68_8_7)]) (by intro q hq; simp only [List.mem_cons, List.not_mem_nil, or_false] at hq ⊢; rcases hq with rfl | rfl | rfl | rfl | rfl | rfl | rfl | rfl | rfl <;> simp) ?_
                    exact J176_18191 _ hB116_18195 (FrX.c FrX.rf hE116_18195 rfl)
                  · refine g_iload dX6_fillCase_131 rfl ?_
                    have J170_18623 : ∀ (H170_18623 : PH) (hB170_18623 : BdX H170_18623) (hE170_18623 : FrX ([], [50]) H116_18195 H170_18623), Go WSX G 3 iX6_fillCase 170 [(0, vR 110), (1, vI a1), (2, vI a2), (3, vI a3), (4, vR (crX (P 110 2).toNat 0)), (5, vI rc4), (6, vI rc5), (7, vI 0), (8, vI x68_8_7), (9, vI r18195), (10, vI x116_10_18195)] [] H170_18623 Q := by
                      intro H170_18623 hB170_18623 hE170_18623
                      refine g_iinc (l1 := [(10, vI (x116_10_18195 + 1)), (0, vR 110), (1, vI a1), (2, vI a2), (3, vI a3), (4, vR (crX (P 110 2).toNat 0)), (5, vI rc4), (6, vI rc5), (7, vI 0), (8, vI x68_8_7), (9, vI r18195)]) dX6_fillCase_170 rfl (by decide) rfl ?_
                      refine g_goto (tgt := 116) dX6_fillCase_173 (by decide) ?_
                      refine g_forget (l1 := [(0, vR 110), (1, vI a1), (2, vI a2), (3, vI a3), (4, vR (crX (P 110 2).toNat 0)), (5, vI rc4), (6, vI rc5), (7, vI 0), (8, vI x68_8_7), (9, vI r18195), (10, vI (x116_10_18195 + 1))]) (by intro q hq; simp only [List.mem_cons, List.not_mem_nil, or_false] at hq ⊢; rcases hq with rfl | rfl | rfl | rfl | rfl | rfl | rfl | rfl | rfl | rfl | rfl <;> simp) ?_
                      exact ih116_18195 (x116_10_18195 + 1) ⟨by omega, by omega⟩ _ hB170_18623 (FrX.c (FrX.c FrX.rf hE116_18195 rfl) hE170_18623 rfl) (by omega)
                    have J150_18624 : ∀ (_ : True), Go WSX G 3 iX6_fillCase 150 [(0, vR 110), (1, vI a1), (2, vI a2), (3, vI a3), (4, vR (crX (P 110 2).toNat 0)), (5, vI rc4), (6, vI rc5), (7, vI 0), (8, vI x68_8_7), (9, vI r18195), (10, vI x116_10_18195)] [] H116_18195 Q := by
                      intro _
                      refine g_aload_n dX6_fillCase_150 rfl ?_
                      refine x_g45_1 (n := 114) (⟨by decide, rfl⟩ : kx 110 45) ffX6_20 dX6_fillCase_151 rfl ?_
                      refine g_iload_n dX6_fillCase_154 rfl ?_
                      refine x_l49 (n := (crX 114 a2.toNat)) (⟨by decide, rfl⟩ : kx 114 49) dX6_fillCase_155 ⟨by omega, by omega⟩ rfl ?_
                      have kk18626 := (ce_49 (j := a2.toNat) (⟨by decide, rfl⟩ : kx 114 49) (by omega))
                      refine g_iload dX6_fillCase_156 rfl ?_
                      refine g_iload dX6_fillCase_158 rfl ?_
                      refine g_iadd dX6_fillCase_160 ?_
                      refine g_norm (fun r18627 h_r18627 e_r18627 => ?_)
                      refine g_iload dX6_fillCase_161 rfl ?_
                      refine g_iload dX6_fillCase_163 rfl ?_
                      refine g_iadd dX6_fillCase_165 ?_
                      refine g_norm (fun r18628 h_r18628 e_r18628 => ?_)
                      refine g_iconst dX6_fillCase_166 ?_
                      refine g_sV (av := [vR (crX 114 a2.toNat), vI r18627, vI r18628, vI 1]) (st := []) (m_X6_fill G H116_18195 (crX 114 a2.toNat) r18627 r18628 1 kk18626 ⟨by omega, by omega⟩ ⟨by omega, by omega⟩ (by decide) hB116_18195  _ (fun Pc18629 hBc18629 hFc18629 => ⟨rfl, ?_⟩)) cf_X6_fill t_808 rfl (Nat.le_of_ble_eq_true rfl) (by decide) rfl dX6_fillCase_167
                      refine g_forget (l1 := [(0, vR 110), (1, vI a1), (2, vI a2), (3, vI a3), (4, vR (crX (P 110 2).toNat 0)), (5, vI rc4), (6, vI rc5), (7, vI 0), (8, vI x68_8_7), (9, vI r18195), (10, vI x116_10_18195)]) (by intro q hq; simp only [List.mem_cons, List.not_mem_nil, or_false] at hq ⊢; rcases hq with rfl | rfl | rfl | rfl | rfl | rfl | rfl | rfl | rfl | rfl | rfl <;> simp) ?_
                      exact J170_18623 _ hBc18629 (FrX.c FrX.rf hFc18629 rfl)
                    refine g_if_ne (tgt := 150) dX6_fillCase_133 (by decide) (by decide) (fun k18630 => by exfalso; omega) (fun k18630 => ?_)
                    refine g_aload_n dX6_fillCase_136 rfl ?_
                    refine x_g45_1 (n := 114) (⟨by decide, rfl⟩ : kx 110 45) ffX6_20 dX6_fillCase_137 rfl ?_
                    refine g_iload_n dX6_fillCase_140 rfl ?_
                    refine g_iconst dX6_fillCase_141 ?_
                    refine g_iadd dX6_fillCase_142 ?_
                    refine x_l49 (n := (crX 114 (a3 + 1).toNat)) (⟨by decide, rfl⟩ : kx 114 49) dX6_fillCase_143 ⟨by omega, by omega⟩ rfl ?_
                    have kk18631 := (ce_49 (j := (a3 + 1).toNat) (⟨by decide, rfl⟩ : kx 114 49) (by omega))
                    refine g_iload dX6_fillCase_144 rfl ?_
                    refine x_l50 (z := (H116_18195 (crX 114 (a3 + 1).toNat) x116_10_18195)) kk18631 dX6_fillCase_146 ⟨by omega, by omega⟩ rfl ?_
                    have f18632 := bx_50 (o := (crX 114 (a3 + 1).toNat)) (k := x116_10_18195) hB116_18195 kk18631
                    refine g_if_eq (tgt := 170) dX6_fillCase_147 (by decide) ⟨by have q0 := bx_50 (o := (crX 114 (a3 + 1).toNat)) (k := x116_10_18195) hB116_18195 kk18631; omega, by have q0 := bx_50 (o := (crX 114 (a3 + 1).toNat)) (k := x116_10_18195) hB116_18195 kk18631; omega⟩ (fun k18633 => ?_) (fun k18633 => ?_)
                    · refine g_forget (l1 := [(0, vR 110), (1, vI a1), (2, vI a2), (3, vI a3), (4, vR (crX (P 110 2).toNat 0)), (5, vI rc4), (6, vI rc5), (7, vI 0), (8, vI x68_8_7), (9, vI r18195), (10, vI x116_10_18195)]) (by intro q hq; simp only [List.mem_cons, List.not_mem_nil, or_false] at hq ⊢; rcases hq with rfl | rfl | rfl | rfl | rfl | rfl | rfl | rfl | rfl | rfl | rfl <;> simp) ?_
                      exact J170_18623 _ hB116_18195 FrX.rf
                    · refine g_forget (l1 := [(0, vR 110), (1, vI a1), (2, vI a2), (3, vI a3), (4, vR (crX (P 110 2).toNat 0)), (5, vI rc4), (6, vI rc5), (7, vI 0), (8, vI x68_8_7), (9, vI r18195), (10, vI x116_10_18195)]) (by intro q hq; simp only [List.mem_cons, List.not_mem_nil, or_false] at hq ⊢; rcases hq with rfl | rfl | rfl | rfl | rfl | rfl | rfl | rfl | rfl | rfl | rfl <;> simp) ?_
                      exact J150_18624 trivial
              refine g_forget (l1 := [(0, vR 110), (1, vI a1), (2, vI a2), (3, vI a3), (4, vR (crX (P 110 2).toNat 0)), (5, vI rc4), (6, vI rc5), (7, vI 0), (8, vI x68_8_7), (9, vI r18195), (10, vI 0)]) (by intro q hq; simp only [List.mem_cons, List.not_mem_nil, or_false] at hq ⊢; rcases hq with rfl | rfl | rfl | rfl | rfl | rfl | rfl | rfl | rfl | rfl | rfl <;> simp) ?_
              exact L116_18195 _ 0 (by decide) _ hB68_7 FrX.rf (Nat.lt_succ_self _)
            · refine g_goto (tgt := 176) dX6_fillCase_95 (by decide) ?_
              refine g_forget (l1 := [(0, vR 110), (1, vI a1), (2, vI a2), (3, vI a3), (4, vR (crX (P 110 2).toNat 0)), (5, vI rc4), (6, vI rc5), (7, vI 0), (8, vI x68_8_7)]) (by intro q hq; simp only [List.mem_cons, List.not_mem_nil, or_false] at hq ⊢; rcases hq with rfl | rfl | rfl | rfl | rfl | rfl | rfl | rfl | rfl <;> simp) ?_
              exact J176_18191 _ hB68_7 FrX.rf
      refine g_forget (l1 := [(0, vR 110), (1, vI a1), (2, vI a2), (3, vI a3), (4, vR (crX (P 110 2).toNat 0)), (5, vI rc4), (6, vI rc5), (7, vI 0), (8, vI 0)]) (by intro q hq; simp only [List.mem_cons, List.not_mem_nil, or_false] at hq ⊢; rcases hq with rfl | rfl | rfl | rfl | rfl | rfl | rfl | rfl | rfl <;> simp) ?_
      exact L68_7 _ 0 (by decide) _ hB FrX.rf (Nat.lt_succ_self _)
    · refine g_iconst dX6_fillCase_58 ?_
      refine g_goto (tgt := 63) dX6_fillCase_59 (by decide) ?_
      refine g_istore (l1 := [(7, vI 1), (6, vI rc5), (5, vI rc4), (4, vR (crX (P 110 2).toNat 0)), (0, vR 110), (1, vI a1), (2, vI a2), (3, vI a3)]) dX6_fillCase_63 (by decide) rfl ?_
      refine g_iconst dX6_fillCase_65 ?_
      refine g_istore (l1 := [(8, vI 0), (7, vI 1), (6, vI rc5), (5, vI rc4), (4, vR (crX (P 110 2).toNat 0)), (0, vR 110), (1, vI a1), (2, vI a2), (3, vI a3)]) dX6_fillCase_66 (by decide) rfl ?_
      have L68_18633 : ∀ (n68_18633 : Nat) (x68_8_18633 : Int) (h_x68_8_18633 : 0 ≤ x68_8_18633 ∧ x68_8_18633 ≤ 2048) (H68_18633 : PH) (hB68_18633 : BdX H68_18633) (hE68_18633 : FrX ([], [50]) P H68_18633) (hm68_18633 : ((2049 - x68_8_18633) : Int).toNat < n68_18633), Go WSX G 3 iX6_fillCase 68 [(0, vR 110), (1, vI a1), (2, vI a2), (3, vI a3), (4, vR (crX (P 110 2).toNat 0)), (5, vI rc4), (6, vI rc5), (7, vI 1), (8, vI x68_8_18633)] [] H68_18633 Q := by
        intro n68_18633
        induction n68_18633 with
        | zero => intro x68_8_18633 h_x68_8_18633 H68_18633 hB68_18633 hE68_18633 hm68_18633; exact absurd hm68_18633 (Nat.not_lt_zero _)
        | succ n68_18633 ih68_18633 =>
        intro x68_8_18633 h_x68_8_18633 H68_18633 hB68_18633 hE68_18633 hm68_18633
        refine g_iload dX6_fillCase_68 rfl ?_
        refine g_iload dX6_fillCase_70 rfl ?_
        refine g_icmp_ge (tgt := 182) dX6_fillCase_72 (by decide) ⟨by omega, by omega⟩ ⟨by omega, by omega⟩ (fun k31333 => ?_) (fun k31333 => ?_)
        · exact g_retV dX6_fillCase_182 rfl (hQ _ hB68_18633 (FrX.c FrX.rf hE68_18633 rfl) )
        · refine g_iload dX6_fillCase_75 rfl ?_
          refine g_sipush dX6_fillCase_77 (by decide) ?_
          refine g_icmp_ge (tgt := 182) dX6_fillCase_80 (by decide) ⟨by omega, by omega⟩ (by decide) (fun k31334 => ?_) (fun k31334 => ?_)
          · exact g_retV dX6_fillCase_182 rfl (hQ _ hB68_18633 (FrX.c FrX.rf hE68_18633 rfl) )
          · refine g_aload_n dX6_fillCase_83 rfl ?_
            refine x_g45_1 (n := 114) (⟨by decide, rfl⟩ : kx 110 45) ffX6_20 dX6_fillCase_84 rfl ?_
            refine g_iload_n dX6_fillCase_87 rfl ?_
            refine x_l49 (n := (crX 114 a3.toNat)) (⟨by decide, rfl⟩ : kx 114 49) dX6_fillCase_88 ⟨by omega, by omega⟩ rfl ?_
            have kk31335 := (ce_49 (j := a3.toNat) (⟨by decide, rfl⟩ : kx 114 49) (by omega))
            refine g_iload dX6_fillCase_89 rfl ?_
            refine x_l50 (z := (H68_18633 (crX 114 a3.toNat) x68_8_18633)) kk31335 dX6_fillCase_91 ⟨by omega, by omega⟩ rfl ?_
            have f31336 := bx_50 (o := (crX 114 a3.toNat)) (k := x68_8_18633) hB68_18633 kk31335
            have J176_31651 : ∀ (H176_31651 : PH) (hB176_31651 : BdX H176_31651) (hE176_31651 : FrX ([], [50]) H68_18633 H176_31651), Go WSX G 3 iX6_fillCase 176 [(0, vR 110), (1, vI a1), (2, vI a2), (3, vI a3), (4, vR (crX (P 110 2).toNat 0)), (5, vI rc4), (6, vI rc5), (7, vI 1), (8, vI x68_8_18633)] [] H176_31651 Q := by
              intro H176_31651 hB176_31651 hE176_31651
              refine g_iinc (l1 := [(8, vI (x68_8_18633 + 1)), (0, vR 110), (1, vI a1), (2, vI a2), (3, vI a3), (4, vR (crX (P 110 2).toNat 0)), (5, vI rc4), (6, vI rc5), (7, vI 1)]) dX6_fillCase_176 rfl (by decide) rfl ?_
              refine g_goto (tgt := 68) dX6_fillCase_179 (by decide) ?_
              refine g_forget (l1 := [(0, vR 110), (1, vI a1), (2, vI a2), (3, vI a3), (4, vR (crX (P 110 2).toNat 0)), (5, vI rc4), (6, vI rc5), (7, vI 1), (8, vI (x68_8_18633 + 1))]) (by intro q hq; simp only [List.mem_cons, List.not_mem_nil, or_false] at hq ⊢; rcases hq with rfl | rfl | rfl | rfl | rfl | rfl | rfl | rfl | rfl <;> simp) ?_
              exact ih68_18633 (x68_8_18633 + 1) ⟨by omega, by omega⟩ _ hB176_31651 (FrX.c (FrX.c FrX.rf hE68_18633 rfl) hE176_31651 rfl) (by omega)
            refine g_if_ne (tgt := 98) dX6_fillCase_92 (by decide) ⟨by have q0 := bx_50 (o := (crX 114 a3.toNat)) (k := x68_8_18633) hB68_18633 kk31335; omega, by have q0 := bx_50 (o := (crX 114 a3.toNat)) (k := x68_8_18633) hB68_18633 kk31335; omega⟩ (fun k31653 => ?_) (fun k31653 => ?_)
            · refine g_aload dX6_fillCase_98 rfl ?_
              refine x_g29_5 (n := (crX (crX (P 110 2).toNat 0) 5)) (ck_28_0 (bk_110_2 hB)) ffX6_190 dX6_fillCase_100 rfl ?_
              refine g_iload_n dX6_fillCase_103 rfl ?_
              refine x_l35 (z := (P (crX (crX (P 110 2).toNat 0) 5) a1)) (ck_29_5 (ck_28_0 (bk_110_2 hB))) dX6_fillCase_104 ⟨by omega, by omega⟩ ((FrX.g hE68_18633 (ck_29_5 (ck_28_0 (bk_110_2 hB))) rfl).trans rfl) ?_
              refine g_iload dX6_fillCase_105 rfl ?_
              refine g_iload dX6_fillCase_107 rfl ?_
              refine g_imul dX6_fillCase_109 ?_
              refine g_norm (fun r31654 h_r31654 e_r31654 => ?_)
              refine g_iadd dX6_fillCase_110 ?_
              refine g_norm (fun r31655 h_r31655 e_r31655 => ?_)
              refine g_istore (l1 := [(9, vI r31655), (0, vR 110), (1, vI a1), (2, vI a2), (3, vI a3), (4, vR (crX (P 110 2).toNat 0)), (5, vI rc4), (6, vI rc5), (7, vI 1), (8, vI x68_8_18633)]) dX6_fillCase_111 (by decide) rfl ?_
              refine g_iconst dX6_fillCase_113 ?_
              refine g_istore (l1 := [(10, vI 0), (9, vI r31655), (0, vR 110), (1, vI a1), (2, vI a2), (3, vI a3), (4, vR (crX (P 110 2).toNat 0)), (5, vI rc4), (6, vI rc5), (7, vI 1), (8, vI x68_8_18633)]) dX6_fillCase_114 (by decide) rfl ?_
              have L116_31655 : ∀ (n116_31655 : Nat) (x116_10_31655 : Int) (h_x116_10_31655 : 0 ≤ x116_10_31655 ∧ x116_10_31655 ≤ 2048) (H116_31655 : PH) (hB116_31655 : BdX H116_31655) (hE116_31655 : FrX ([], [50]) H68_18633 H116_31655) (hm116_31655 : ((2049 - x116_10_31655) : Int).toNat < n116_31655), Go WSX G 3 iX6_fillCase 116 [(0, vR 110), (1, vI a1), (2, vI a2), (3, vI a3), (4, vR (crX (P 110 2).toNat 0)), (5, vI rc4), (6, vI rc5), (7, vI 1), (8, vI x68_8_18633), (9, vI r31655), (10, vI x116_10_31655)] [] H116_31655 Q := by
                intro n116_31655
                induction n116_31655 with
                | zero => intro x116_10_31655 h_x116_10_31655 H116_31655 hB116_31655 hE116_31655 hm116_31655; exact absurd hm116_31655 (Nat.not_lt_zero _)
                | succ n116_31655 ih116_31655 =>
                intro x116_10_31655 h_x116_10_31655 H116_31655 hB116_31655 hE116_31655 hm116_31655
                refine g_iload dX6_fillCase_116 rfl ?_
                refine g_iload dX6_fillCase_118 rfl ?_
                refine g_icmp_ge (tgt := 176) dX6_fillCase_120 (by decide) ⟨by omega, by omega⟩ ⟨by omega, by omega⟩ (fun k31953 => ?_) (fun k31953 => ?_)
                · refine g_forget (l1 := [(0, vR 110), (1, vI a1), (2, vI a2), (3, vI a3), (4, vR (crX (P 110 2).toNat 0)), (5, vI rc4), (6, vI rc5), (7, vI 1), (8, vI x68_8_18633)]) (by intro q hq; simp only [List.mem_cons, List.not_mem_nil, or_false] at hq ⊢; rcases hq with rfl | rfl | rfl | rfl | rfl | rfl | rfl | rfl | rfl <;> simp) ?_
                  exact J176_31651 _ hB116_31655 (FrX.c FrX.rf hE116_31655 rfl)
                · refine g_iload dX6_fillCase_123 rfl ?_
                  refine g_sipush dX6_fillCase_125 (by decide) ?_
                  refine g_icmp_ge (tgt := 176) dX6_fillCase_128 (by decide) ⟨by omega, by omega⟩ (by decide) (fun k31954 => ?_) (fun k31954 => ?_)
                  · refine g_forget (l1 := [(0, vR 110), (1, vI a1), (2, vI a2), (3, vI a3), (4, vR (crX (P 110 2).toNat 0)), (5, vI rc4), (6, vI rc5), (7, vI 1), (8, vI x68_8_18633)]) (by intro q hq; simp only [List.mem_cons, List.not_mem_nil, or_false] at hq ⊢; rcases hq with rfl | rfl | rfl | rfl | rfl | rfl | rfl | rfl | rfl <;> simp) ?_
                    exact J176_31651 _ hB116_31655 (FrX.c FrX.rf hE116_31655 rfl)
                  · refine g_iload dX6_fillCase_131 rfl ?_
                    have J170_31960 : ∀ (H170_31960 : PH) (hB170_31960 : BdX H170_31960) (hE170_31960 : FrX ([], [50]) H116_31655 H170_31960), Go WSX G 3 iX6_fillCase 170 [(0, vR 110), (1, vI a1), (2, vI a2), (3, vI a3), (4, vR (crX (P 110 2).toNat 0)), (5, vI rc4), (6, vI rc5), (7, vI 1), (8, vI x68_8_18633), (9, vI r31655), (10, vI x116_10_31655)] [] H170_31960 Q := by
                      intro H170_31960 hB170_31960 hE170_31960
                      refine g_iinc (l1 := [(10, vI (x116_10_31655 + 1)), (0, vR 110), (1, vI a1), (2, vI a2), (3, vI a3), (4, vR (crX (P 110 2).toNat 0)), (5, vI rc4), (6, vI rc5), (7, vI 1), (8, vI x68_8_18633), (9, vI r31655)]) dX6_fillCase_170 rfl (by decide) rfl ?_
                      refine g_goto (tgt := 116) dX6_fillCase_173 (by decide) ?_
                      refine g_forget (l1 := [(0, vR 110), (1, vI a1), (2, vI a2), (3, vI a3), (4, vR (crX (P 110 2).toNat 0)), (5, vI rc4), (6, vI rc5), (7, vI 1), (8, vI x68_8_18633), (9, vI r31655), (10, vI (x116_10_31655 + 1))]) (by intro q hq; simp only [List.mem_cons, List.not_mem_nil, or_false] at hq ⊢; rcases hq with rfl | rfl | rfl | rfl | rfl | rfl | rfl | rfl | rfl | rfl | rfl <;> simp) ?_
                      exact ih116_31655 (x116_10_31655 + 1) ⟨by omega, by omega⟩ _ hB170_31960 (FrX.c (FrX.c FrX.rf hE116_31655 rfl) hE170_31960 rfl) (by omega)
                    have J150_31961 : ∀ (_ : True), Go WSX G 3 iX6_fillCase 150 [(0, vR 110), (1, vI a1), (2, vI a2), (3, vI a3), (4, vR (crX (P 110 2).toNat 0)), (5, vI rc4), (6, vI rc5), (7, vI 1), (8, vI x68_8_18633), (9, vI r31655), (10, vI x116_10_31655)] [] H116_31655 Q := by
                      intro _
                      refine g_aload_n dX6_fillCase_150 rfl ?_
                      refine x_g45_1 (n := 114) (⟨by decide, rfl⟩ : kx 110 45) ffX6_20 dX6_fillCase_151 rfl ?_
                      refine g_iload_n dX6_fillCase_154 rfl ?_
                      refine x_l49 (n := (crX 114 a2.toNat)) (⟨by decide, rfl⟩ : kx 114 49) dX6_fillCase_155 ⟨by omega, by omega⟩ rfl ?_
                      have kk31963 := (ce_49 (j := a2.toNat) (⟨by decide, rfl⟩ : kx 114 49) (by omega))
                      refine g_iload dX6_fillCase_156 rfl ?_
                      refine g_iload dX6_fillCase_158 rfl ?_
                      refine g_iadd dX6_fillCase_160 ?_
                      refine g_norm (fun r31964 h_r31964 e_r31964 => ?_)
                      refine g_iload dX6_fillCase_161 rfl ?_
                      refine g_iload dX6_fillCase_163 rfl ?_
                      refine g_iadd dX6_fillCase_165 ?_
                      refine g_norm (fun r31965 h_r31965 e_r31965 => ?_)
                      refine g_iconst dX6_fillCase_166 ?_
                      refine g_sV (av := [vR (crX 114 a2.toNat), vI r31964, vI r31965, vI 1]) (st := []) (m_X6_fill G H116_31655 (crX 114 a2.toNat) r31964 r31965 1 kk31963 ⟨by omega, by omega⟩ ⟨by omega, by omega⟩ (by decide) hB116_31655  _ (fun Pc31966 hBc31966 hFc31966 => ⟨rfl, ?_⟩)) cf_X6_fill t_808 rfl (Nat.le_of_ble_eq_true rfl) (by decide) rfl dX6_fillCase_167
                      refine g_forget (l1 := [(0, vR 110), (1, vI a1), (2, vI a2), (3, vI a3), (4, vR (crX (P 110 2).toNat 0)), (5, vI rc4), (6, vI rc5), (7, vI 1), (8, vI x68_8_18633), (9, vI r31655), (10, vI x116_10_31655)]) (by intro q hq; simp only [List.mem_cons, List.not_mem_nil, or_false] at hq ⊢; rcases hq with rfl | rfl | rfl | rfl | rfl | rfl | rfl | rfl | rfl | rfl | rfl <;> simp) ?_
                      exact J170_31960 _ hBc31966 (FrX.c FrX.rf hFc31966 rfl)
                    refine g_if_ne (tgt := 150) dX6_fillCase_133 (by decide) (by decide) (fun k31967 => ?_) (fun k31967 => by exfalso; omega)
                    refine g_forget (l1 := [(0, vR 110), (1, vI a1), (2, vI a2), (3, vI a3), (4, vR (crX (P 110 2).toNat 0)), (5, vI rc4), (6, vI rc5), (7, vI 1), (8, vI x68_8_18633), (9, vI r31655), (10, vI x116_10_31655)]) (by intro q hq; simp only [List.mem_cons, List.not_mem_nil, or_false] at hq ⊢; rcases hq with rfl | rfl | rfl | rfl | rfl | rfl | rfl | rfl | rfl | rfl | rfl <;> simp) ?_
                    exact J150_31961 trivial
              refine g_forget (l1 := [(0, vR 110), (1, vI a1), (2, vI a2), (3, vI a3), (4, vR (crX (P 110 2).toNat 0)), (5, vI rc4), (6, vI rc5), (7, vI 1), (8, vI x68_8_18633), (9, vI r31655), (10, vI 0)]) (by intro q hq; simp only [List.mem_cons, List.not_mem_nil, or_false] at hq ⊢; rcases hq with rfl | rfl | rfl | rfl | rfl | rfl | rfl | rfl | rfl | rfl | rfl <;> simp) ?_
              exact L116_31655 _ 0 (by decide) _ hB68_18633 FrX.rf (Nat.lt_succ_self _)
            · refine g_goto (tgt := 176) dX6_fillCase_95 (by decide) ?_
              refine g_forget (l1 := [(0, vR 110), (1, vI a1), (2, vI a2), (3, vI a3), (4, vR (crX (P 110 2).toNat 0)), (5, vI rc4), (6, vI rc5), (7, vI 1), (8, vI x68_8_18633)]) (by intro q hq; simp only [List.mem_cons, List.not_mem_nil, or_false] at hq ⊢; rcases hq with rfl | rfl | rfl | rfl | rfl | rfl | rfl | rfl | rfl <;> simp) ?_
              exact J176_31651 _ hB68_18633 FrX.rf
      refine g_forget (l1 := [(0, vR 110), (1, vI a1), (2, vI a2), (3, vI a3), (4, vR (crX (P 110 2).toNat 0)), (5, vI rc4), (6, vI rc5), (7, vI 1), (8, vI 0)]) (by intro q hq; simp only [List.mem_cons, List.not_mem_nil, or_false] at hq ⊢; rcases hq with rfl | rfl | rfl | rfl | rfl | rfl | rfl | rfl | rfl <;> simp) ?_
      exact L68_18633 _ 0 (by decide) _ hB FrX.rf (Nat.lt_succ_self _)
  · exact g_retV dX6_fillCase_15 rfl (hQ _ hB FrX.rf )
def st_X6_readValue (G : GT) (n : Nat) : Prop := ∀ (P : PH) (a1 : Int) (a2 : Int) (h_a1 : (-2147483648) ≤ a1 ∧ a1 ≤ 2147483647) (h_a2 : (-2147483648) ≤ a2 ∧ a2 ≤ 2147483647) (hB : BdX P) (p_dp : 0 ≤ a2) (v_TX : TX P) (hm : (6 - a2 : Int).toNat < n) (Q : Option PV → PH → Prop) (hQ : ∀ (r : Int) (_ : (-2147483648) ≤ r ∧ r ≤ 2147483647) (P1 : PH) (_ : BdX P1) (_ : FrX ([(45, 3), (45, 4), (46, 3), (46, 4), (46, 5), (46, 6), (46, 7), (46, 8)], []) P P1), Q (some (vI r)) P1), Ct WSX G (4 + 1 * n) iX6_readValue [vR 110, vI a1, vI a2] P Q
set_option maxRecDepth 100000 in
set_option maxHeartbeats 4000000 in
theorem mr_X6_readValue (G : GT) (n : Nat) : st_X6_readValue G n := by
  induction n with
  | zero => intro P a1 a2 h_a1 h_a2 hB p_dp v_TX hm; exact absurd hm (Nat.not_lt_zero _)
  | succ n ih =>
    intro P a1 a2 h_a1 h_a2 hB p_dp v_TX hm Q hQ
    refine Ct.of (by decide) (l0 := [(0, vR 110), (1, vI a1), (2, vI a2)]) rfl (Nat.le_of_ble_eq_true rfl) ?_
    refine g_iload_n dX6_readValue_0 rfl ?_
    refine g_iconst dX6_readValue_1 ?_
    refine g_icmp_ne (tgt := 13) dX6_readValue_2 (by decide) ⟨by omega, by omega⟩ (by decide) (fun k1 => ?_) (fun k1 => ?_)
    · refine g_iload_n dX6_readValue_13 rfl ?_
      refine g_iconst dX6_readValue_14 ?_
      refine g_icmp_le (tgt := 22) dX6_readValue_15 (by decide) ⟨by omega, by omega⟩ (by decide) (fun k2 => ?_) (fun k2 => ?_)
      · refine g_aload_n dX6_readValue_22 rfl ?_
        refine g_iload_n dX6_readValue_23 rfl ?_
        refine g_vI (av := [vI a1]) (o := 110) (st := []) (m_X6_readConName G P a1 ⟨by omega, by omega⟩ hB v_TX _ (fun rc3 hc3 Pc3 hBc3 hFc3 => ⟨rc3, rfl, ?_⟩)) cf_X6_readConName t_823 rfl (show kx 110 45 from (⟨by decide, rfl⟩ : kx 110 45)).1 ((show kx 110 45 from (⟨by decide, rfl⟩ : kx 110 45)).sh rfl) rfl rfl (Nat.le_of_ble_eq_true rfl) (by omega) rfl dX6_readValue_24
        refine g_istore_n (l1 := [(3, vI rc3), (0, vR 110), (1, vI a1), (2, vI a2)]) dX6_readValue_27 (by decide) rfl ?_
        refine g_iload_n dX6_readValue_28 rfl ?_
        refine g_iconst dX6_readValue_29 ?_
        refine g_icmp_ne (tgt := 35) dX6_readValue_30 (by decide) ⟨by omega, by omega⟩ (by decide) (fun k4 => ?_) (fun k4 => ?_)
        · refine g_aload_n dX6_readValue_35 rfl ?_
          refine x_g45_2 (n := (P 110 2).toNat) (⟨by decide, rfl⟩ : kx 110 45) ffX6_27 dX6_readValue_36 ((FrX.g hFc3 (⟨by decide, rfl⟩ : kx 110 45) rfl).trans (br_110_2 hB)) ?_
          refine x_g28_0 (n := (crX (P 110 2).toNat 0)) (bk_110_2 hB) ffX6_108 dX6_readValue_39 rfl ?_
          refine g_astore (l1 := [(4, vR (crX (P 110 2).toNat 0)), (3, vI rc3), (0, vR 110), (1, vI a1), (2, vI a2)]) dX6_readValue_42 (by decide) rfl ?_
          refine g_aload dX6_readValue_44 rfl ?_
          refine x_g29_6 (n := (crX (crX (P 110 2).toNat 0) 6)) (ck_28_0 (bk_110_2 hB)) ffX6_187 dX6_readValue_46 rfl ?_
          refine g_iload_n dX6_readValue_49 rfl ?_
          refine x_l36 (z := (P (crX (crX (P 110 2).toNat 0) 6) rc3)) (ck_29_6 (ck_28_0 (bk_110_2 hB))) dX6_readValue_50 ⟨by omega, by omega⟩ ((FrX.g hFc3 (ck_29_6 (ck_28_0 (bk_110_2 hB))) rfl).trans rfl) ?_
          have f5 := bx_36 (o := (crX (crX (P 110 2).toNat 0) 6)) (k := rc3) hB (ck_29_6 (ck_28_0 (bk_110_2 hB)))
          refine g_if_ne (tgt := 62) dX6_readValue_51 (by decide) ⟨by have q0 := bx_36 (o := (crX (crX (P 110 2).toNat 0) 6)) (k := rc3) hB (ck_29_6 (ck_28_0 (bk_110_2 hB))); omega, by have q0 := bx_36 (o := (crX (crX (P 110 2).toNat 0) 6)) (k := rc3) hB (ck_29_6 (ck_28_0 (bk_110_2 hB))); omega⟩ (fun k6 => ?_) (fun k6 => ?_)
          · refine g_aload_n dX6_readValue_62 rfl ?_
            refine g_bipush dX6_readValue_63 (by decide) ?_
            refine g_vI (av := [vI 40]) (o := 110) (st := []) (m_X6_readSign G Pc3 40 (by decide) hBc3 (TX.fr (F := ([(45, 3), (45, 4), (46, 3), (46, 4), (46, 5), (46, 6), (46, 7), (46, 8)], [])) v_TX (FrX.c FrX.rf hFc3 rfl) rfl) _ (fun rc7 hc7 Pc7 hBc7 hFc7 => ⟨rc7, rfl, ?_⟩)) cf_X6_readSign t_797 rfl (show kx 110 45 from (⟨by decide, rfl⟩ : kx 110 45)).1 ((show kx 110 45 from (⟨by decide, rfl⟩ : kx 110 45)).sh rfl) rfl rfl (Nat.le_of_ble_eq_true rfl) (by omega) rfl dX6_readValue_65
            refine g_if_eq (tgt := 88) dX6_readValue_68 (by decide) ⟨by omega, by omega⟩ (fun k8 => ?_) (fun k8 => ?_)
            · refine g_iconst dX6_readValue_88 ?_
              refine g_istore (l1 := [(5, vI (-1)), (4, vR (crX (P 110 2).toNat 0)), (3, vI rc3), (0, vR 110), (1, vI a1), (2, vI a2)]) dX6_readValue_89 (by decide) rfl ?_
              refine g_iload dX6_readValue_91 rfl ?_
              refine g_iconst dX6_readValue_93 ?_
              refine g_icmp_ne (tgt := 99) dX6_readValue_94 (by decide) (by decide) (by decide) (fun k9 => by exfalso; omega) (fun k9 => ?_)
              refine g_iconst dX6_readValue_97 ?_
              exact g_retI dX6_readValue_98 rfl (hQ (-1) (by decide) _ hBc7 (FrX.c (FrX.c FrX.rf hFc3 rfl) hFc7 rfl) )
            · refine g_aload_n dX6_readValue_71 rfl ?_
              refine g_aload dX6_readValue_72 rfl ?_
              refine x_g29_7 (n := (crX (crX (P 110 2).toNat 0) 7)) (ck_28_0 (bk_110_2 hB)) ffX6_193 dX6_readValue_74 rfl ?_
              refine g_iload_n dX6_readValue_77 rfl ?_
              refine x_l37 (z := (P (crX (crX (P 110 2).toNat 0) 7) rc3)) (ck_29_7 (ck_28_0 (bk_110_2 hB))) dX6_readValue_78 ⟨by omega, by omega⟩ ((FrX.g hFc7 (ck_29_7 (ck_28_0 (bk_110_2 hB))) rfl).trans ((FrX.g hFc3 (ck_29_7 (ck_28_0 (bk_110_2 hB))) rfl).trans rfl)) ?_
              refine g_iload_n dX6_readValue_79 rfl ?_
              refine g_iconst dX6_readValue_80 ?_
              refine g_iadd dX6_readValue_81 ?_
              have f10 := bx_37 (o := (crX (crX (P 110 2).toNat 0) 7)) (k := rc3) hB (ck_29_7 (ck_28_0 (bk_110_2 hB)))
              refine g_sI (av := [vR 110, vI (P (crX (crX (P 110 2).toNat 0) 7) rc3), vI (a2 + 1)]) (st := []) (ih Pc7 (P (crX (crX (P 110 2).toNat 0) 7) rc3) (a2 + 1) ⟨by have q0 := bx_37 (o := (crX (crX (P 110 2).toNat 0) 7)) (k := rc3) hB (ck_29_7 (ck_28_0 (bk_110_2 hB))); omega, by have q0 := bx_37 (o := (crX (crX (P 110 2).toNat 0) 7)) (k := rc3) hB (ck_29_7 (ck_28_0 (bk_110_2 hB))); omega⟩ ⟨by omega, by omega⟩ hBc7 (by have q0 := bx_37 (o := (crX (crX (P 110 2).toNat 0) 7)) (k := rc3) hB (ck_29_7 (ck_28_0 (bk_110_2 hB))); omega) (TX.fr (F := ([(45, 3), (45, 4), (46, 3), (46, 4), (46, 5), (46, 6), (46, 7), (46, 8)], [])) v_TX (FrX.c (FrX.c FrX.rf hFc3 rfl) hFc7 rfl) rfl) (by omega) _ (fun rc11 hc11 Pc11 hBc11 hFc11 => ⟨rc11, rfl, ?_⟩)) cf_X6_readValue t_1026 rfl (Nat.le_of_ble_eq_true rfl) (by omega) rfl dX6_readValue_82
              refine g_goto (tgt := 89) dX6_readValue_85 (by decide) ?_
              refine g_istore (l1 := [(5, vI rc11), (4, vR (crX (P 110 2).toNat 0)), (3, vI rc3), (0, vR 110), (1, vI a1), (2, vI a2)]) dX6_readValue_89 (by decide) rfl ?_
              refine g_iload dX6_readValue_91 rfl ?_
              refine g_iconst dX6_readValue_93 ?_
              refine g_icmp_ne (tgt := 99) dX6_readValue_94 (by decide) ⟨by omega, by omega⟩ (by decide) (fun k12 => ?_) (fun k12 => ?_)
              · refine g_iconst dX6_readValue_99 ?_
                refine g_istore (l1 := [(6, vI 0), (5, vI rc11), (4, vR (crX (P 110 2).toNat 0)), (3, vI rc3), (0, vR 110), (1, vI a1), (2, vI a2)]) dX6_readValue_100 (by decide) rfl ?_
                refine g_aload dX6_readValue_102 rfl ?_
                refine x_g29_6 (n := (crX (crX (P 110 2).toNat 0) 6)) (ck_28_0 (bk_110_2 hB)) ffX6_187 dX6_readValue_104 rfl ?_
                refine g_iload_n dX6_readValue_107 rfl ?_
                refine x_l36 (z := (P (crX (crX (P 110 2).toNat 0) 6) rc3)) (ck_29_6 (ck_28_0 (bk_110_2 hB))) dX6_readValue_108 ⟨by omega, by omega⟩ ((FrX.g hFc11 (ck_29_6 (ck_28_0 (bk_110_2 hB))) rfl).trans ((FrX.g hFc7 (ck_29_6 (ck_28_0 (bk_110_2 hB))) rfl).trans ((FrX.g hFc3 (ck_29_6 (ck_28_0 (bk_110_2 hB))) rfl).trans rfl))) ?_
                refine g_iconst dX6_readValue_109 ?_
                have J142_24 : ∀ (x142_6_24 : Int) (h_x142_6_24 : (-2147483648) ≤ x142_6_24 ∧ x142_6_24 ≤ 2147483647) (H142_24 : PH) (hB142_24 : BdX H142_24) (hE142_24 : FrX ([(45, 3), (45, 4), (46, 3), (46, 4), (46, 5), (46, 6), (46, 7), (46, 8)], []) Pc11 H142_24), Go WSX G (4 + 1 * (n + 1)) iX6_readValue 142 [(0, vR 110), (3, vI rc3), (4, vR (crX (P 110 2).toNat 0)), (5, vI rc11), (6, vI x142_6_24)] [] H142_24 Q := by
                  intro x142_6_24 h_x142_6_24 H142_24 hB142_24 hE142_24
                  refine g_iload dX6_readValue_142 rfl ?_
                  refine g_iconst dX6_readValue_144 ?_
                  refine g_icmp_eq (tgt := 157) dX6_readValue_145 (by decide) ⟨by omega, by omega⟩ (by decide) (fun k26 => ?_) (fun k26 => ?_)
                  · refine g_iconst dX6_readValue_157 ?_
                    exact g_retI dX6_readValue_158 rfl (hQ (-1) (by decide) _ hB142_24 (FrX.c (FrX.c (FrX.c (FrX.c FrX.rf hFc3 rfl) hFc7 rfl) hFc11 rfl) hE142_24 rfl) )
                  · refine g_aload_n dX6_readValue_148 rfl ?_
                    refine g_bipush dX6_readValue_149 (by decide) ?_
                    refine g_vI (av := [vI 41]) (o := 110) (st := []) (m_X6_readSign G H142_24 41 (by decide) hB142_24 (TX.fr (F := ([(45, 3), (45, 4), (46, 3), (46, 4), (46, 5), (46, 6), (46, 7), (46, 8)], [])) v_TX (FrX.c (FrX.c (FrX.c (FrX.c FrX.rf hFc3 rfl) hFc7 rfl) hFc11 rfl) hE142_24 rfl) rfl) _ (fun rc27 hc27 Pc27 hBc27 hFc27 => ⟨rc27, rfl, ?_⟩)) cf_X6_readSign t_797 rfl (show kx 110 45 from (⟨by decide, rfl⟩ : kx 110 45)).1 ((show kx 110 45 from (⟨by decide, rfl⟩ : kx 110 45)).sh rfl) rfl rfl (Nat.le_of_ble_eq_true rfl) (by omega) rfl dX6_readValue_151
                    refine g_if_ne (tgt := 159) dX6_readValue_154 (by decide) ⟨by omega, by omega⟩ (fun k28 => ?_) (fun k28 => ?_)
                    · refine g_aload dX6_readValue_159 rfl ?_
                      refine x_g29_5 (n := (crX (crX (P 110 2).toNat 0) 5)) (ck_28_0 (bk_110_2 hB)) ffX6_190 dX6_readValue_161 rfl ?_
                      refine g_iload_n dX6_readValue_164 rfl ?_
                      refine x_l35 (z := (P (crX (crX (P 110 2).toNat 0) 5) rc3)) (ck_29_5 (ck_28_0 (bk_110_2 hB))) dX6_readValue_165 ⟨by omega, by omega⟩ ((FrX.g hFc27 (ck_29_5 (ck_28_0 (bk_110_2 hB))) rfl).trans ((FrX.g hE142_24 (ck_29_5 (ck_28_0 (bk_110_2 hB))) rfl).trans ((FrX.g hFc11 (ck_29_5 (ck_28_0 (bk_110_2 hB))) rfl).trans ((FrX.g hFc7 (ck_29_5 (ck_28_0 (bk_110_2 hB))) rfl).trans ((FrX.g hFc3 (ck_29_5 (ck_28_0 (bk_110_2 hB))) rfl).trans rfl))))) ?_
                      refine g_iload dX6_readValue_166 rfl ?_
                      refine g_aload dX6_readValue_168 rfl ?_
                      refine g_iload_n dX6_readValue_170 rfl ?_
                      refine g_vI (av := [vI rc3]) (o := (crX (P 110 2).toNat 0)) (st := [vI rc11, vI (P (crX (crX (P 110 2).toNat 0) 5) rc3)]) (m_X3_secondSize G Pc27 (crX (P 110 2).toNat 0) rc3 (ck_28_0 (bk_110_2 hB)) ⟨by omega, by omega⟩ hBc27  _ (fun rc29 hc29 => ⟨rc29, rfl, ?_⟩)) cf_X3_secondSize t_836 rfl (show kx (crX (P 110 2).toNat 0) 29 from (ck_28_0 (bk_110_2 hB))).1 ((show kx (crX (P 110 2).toNat 0) 29 from (ck_28_0 (bk_110_2 hB))).sh rfl) rfl rfl (Nat.le_of_ble_eq_true rfl) (by omega) rfl dX6_readValue_171
                      refine g_imul dX6_readValue_174 ?_
                      refine g_norm (fun r30 h_r30 e_r30 => ?_)
                      refine g_iadd dX6_readValue_175 ?_
                      refine g_norm (fun r31 h_r31 e_r31 => ?_)
                      refine g_iload dX6_readValue_176 rfl ?_
                      refine g_iadd dX6_readValue_178 ?_
                      refine g_norm (fun r32 h_r32 e_r32 => ?_)
                      exact g_retI dX6_readValue_179 rfl (hQ r32 ⟨by omega, by omega⟩ _ hBc27 (FrX.c (FrX.c (FrX.c (FrX.c (FrX.c FrX.rf hFc3 rfl) hFc7 rfl) hFc11 rfl) hE142_24 rfl) hFc27 rfl) )
                    · refine g_iconst dX6_readValue_157 ?_
                      exact g_retI dX6_readValue_158 rfl (hQ (-1) (by decide) _ hBc27 (FrX.c (FrX.c (FrX.c (FrX.c (FrX.c FrX.rf hFc3 rfl) hFc7 rfl) hFc11 rfl) hE142_24 rfl) hFc27 rfl) )
                refine g_icmp_ne (tgt := 142) dX6_readValue_110 (by decide) ⟨by have q0 := bx_36 (o := (crX (crX (P 110 2).toNat 0) 6)) (k := rc3) hB (ck_29_6 (ck_28_0 (bk_110_2 hB))); omega, by have q0 := bx_36 (o := (crX (crX (P 110 2).toNat 0) 6)) (k := rc3) hB (ck_29_6 (ck_28_0 (bk_110_2 hB))); omega⟩ (by decide) (fun k33 => ?_) (fun k33 => ?_)
                · refine g_forget (l1 := [(0, vR 110), (3, vI rc3), (4, vR (crX (P 110 2).toNat 0)), (5, vI rc11), (6, vI 0)]) (by intro q hq; simp only [List.mem_cons, List.not_mem_nil, or_false] at hq ⊢; rcases hq with rfl | rfl | rfl | rfl | rfl <;> simp) ?_
                  exact J142_24 0 (by decide) _ hBc11 FrX.rf
                · refine g_aload_n dX6_readValue_113 rfl ?_
                  refine g_bipush dX6_readValue_114 (by decide) ?_
                  refine g_vI (av := [vI 44]) (o := 110) (st := []) (m_X6_readSign G Pc11 44 (by decide) hBc11 (TX.fr (F := ([(45, 3), (45, 4), (46, 3), (46, 4), (46, 5), (46, 6), (46, 7), (46, 8)], [])) v_TX (FrX.c (FrX.c (FrX.c FrX.rf hFc3 rfl) hFc7 rfl) hFc11 rfl) rfl) _ (fun rc34 hc34 Pc34 hBc34 hFc34 => ⟨rc34, rfl, ?_⟩)) cf_X6_readSign t_797 rfl (show kx 110 45 from (⟨by decide, rfl⟩ : kx 110 45)).1 ((show kx 110 45 from (⟨by decide, rfl⟩ : kx 110 45)).sh rfl) rfl rfl (Nat.le_of_ble_eq_true rfl) (by omega) rfl dX6_readValue_116
                  refine g_if_eq (tgt := 139) dX6_readValue_119 (by decide) ⟨by omega, by omega⟩ (fun k35 => ?_) (fun k35 => ?_)
                  · refine g_iconst dX6_readValue_139 ?_
                    refine g_istore (l1 := [(6, vI (-1)), (5, vI rc11), (4, vR (crX (P 110 2).toNat 0)), (3, vI rc3), (0, vR 110), (1, vI a1), (2, vI a2)]) dX6_readValue_140 (by decide) rfl ?_
                    refine g_forget (l1 := [(0, vR 110), (3, vI rc3), (4, vR (crX (P 110 2).toNat 0)), (5, vI rc11), (6, vI (-1))]) (by intro q hq; simp only [List.mem_cons, List.not_mem_nil, or_false] at hq ⊢; rcases hq with rfl | rfl | rfl | rfl | rfl <;> simp) ?_
                    exact J142_24 (-1) (by decide) _ hBc34 (FrX.c FrX.rf hFc34 rfl)
                  · refine g_aload_n dX6_readValue_122 rfl ?_
                    refine g_aload dX6_readValue_123 rfl ?_
                    refine x_g29_8 (n := (crX (crX (P 110 2).toNat 0) 8)) (ck_28_0 (bk_110_2 hB)) ffX6_196 dX6_readValue_125 rfl ?_
                    refine g_iload_n dX6_readValue_128 rfl ?_
                    refine x_l38 (z := (P (crX (crX (P 110 2).toNat 0) 8) rc3)) (ck_29_8 (ck_28_0 (bk_110_2 hB))) dX6_readValue_129 ⟨by omega, by omega⟩ ((FrX.g hFc34 (ck_29_8 (ck_28_0 (bk_110_2 hB))) rfl).trans ((FrX.g hFc11 (ck_29_8 (ck_28_0 (bk_110_2 hB))) rfl).trans ((FrX.g hFc7 (ck_29_8 (ck_28_0 (bk_110_2 hB))) rfl).trans ((FrX.g hFc3 (ck_29_8 (ck_28_0 (bk_110_2 hB))) rfl).trans rfl)))) ?_
                    refine g_iload_n dX6_readValue_130 rfl ?_
                    refine g_iconst dX6_readValue_131 ?_
                    refine g_iadd dX6_readValue_132 ?_
                    have f36 := bx_38 (o := (crX (crX (P 110 2).toNat 0) 8)) (k := rc3) hB (ck_29_8 (ck_28_0 (bk_110_2 hB)))
                    refine g_sI (av := [vR 110, vI (P (crX (crX (P 110 2).toNat 0) 8) rc3), vI (a2 + 1)]) (st := []) (ih Pc34 (P (crX (crX (P 110 2).toNat 0) 8) rc3) (a2 + 1) ⟨by have q0 := bx_38 (o := (crX (crX (P 110 2).toNat 0) 8)) (k := rc3) hB (ck_29_8 (ck_28_0 (bk_110_2 hB))); omega, by have q0 := bx_38 (o := (crX (crX (P 110 2).toNat 0) 8)) (k := rc3) hB (ck_29_8 (ck_28_0 (bk_110_2 hB))); omega⟩ ⟨by omega, by omega⟩ hBc34 (by have q0 := bx_38 (o := (crX (crX (P 110 2).toNat 0) 8)) (k := rc3) hB (ck_29_8 (ck_28_0 (bk_110_2 hB))); omega) (TX.fr (F := ([(45, 3), (45, 4), (46, 3), (46, 4), (46, 5), (46, 6), (46, 7), (46, 8)], [])) v_TX (FrX.c (FrX.c (FrX.c (FrX.c FrX.rf hFc3 rfl) hFc7 rfl) hFc11 rfl) hFc34 rfl) rfl) (by omega) _ (fun rc37 hc37 Pc37 hBc37 hFc37 => ⟨rc37, rfl, ?_⟩)) cf_X6_readValue t_1026 rfl (Nat.le_of_ble_eq_true rfl) (by omega) rfl dX6_readValue_133
                    refine g_goto (tgt := 140) dX6_readValue_136 (by decide) ?_
                    refine g_istore (l1 := [(6, vI rc37), (5, vI rc11), (4, vR (crX (P 110 2).toNat 0)), (3, vI rc3), (0, vR 110), (1, vI a1), (2, vI a2)]) dX6_readValue_140 (by decide) rfl ?_
                    refine g_forget (l1 := [(0, vR 110), (3, vI rc3), (4, vR (crX (P 110 2).toNat 0)), (5, vI rc11), (6, vI rc37)]) (by intro q hq; simp only [List.mem_cons, List.not_mem_nil, or_false] at hq ⊢; rcases hq with rfl | rfl | rfl | rfl | rfl <;> simp) ?_
                    exact J142_24 rc37 ⟨by omega, by omega⟩ _ hBc37 (FrX.c (FrX.c FrX.rf hFc34 rfl) hFc37 rfl)
              · refine g_iconst dX6_readValue_97 ?_
                exact g_retI dX6_readValue_98 rfl (hQ (-1) (by decide) _ hBc11 (FrX.c (FrX.c (FrX.c FrX.rf hFc3 rfl) hFc7 rfl) hFc11 rfl) )
          · refine g_aload dX6_readValue_54 rfl ?_
            refine x_g29_5 (n := (crX (crX (P 110 2).toNat 0) 5)) (ck_28_0 (bk_110_2 hB)) ffX6_190 dX6_readValue_56 rfl ?_
            refine g_iload_n dX6_readValue_59 rfl ?_
            refine x_l35 (z := (P (crX (crX (P 110 2).toNat 0) 5) rc3)) (ck_29_5 (ck_28_0 (bk_110_2 hB))) dX6_readValue_60 ⟨by omega, by omega⟩ ((FrX.g hFc3 (ck_29_5 (ck_28_0 (bk_110_2 hB))) rfl).trans rfl) ?_
            exact g_retI dX6_readValue_61 rfl (hQ (P (crX (crX (P 110 2).toNat 0) 5) rc3) ⟨by have q0 := bx_35 (o := (crX (crX (P 110 2).toNat 0) 5)) (k := rc3) hB (ck_29_5 (ck_28_0 (bk_110_2 hB))); omega, by have q0 := bx_35 (o := (crX (crX (P 110 2).toNat 0) 5)) (k := rc3) hB (ck_29_5 (ck_28_0 (bk_110_2 hB))); omega⟩ _ hBc3 (FrX.c FrX.rf hFc3 rfl) )
        · refine g_iconst dX6_readValue_33 ?_
          exact g_retI dX6_readValue_34 rfl (hQ (-1) (by decide) _ hBc3 (FrX.c FrX.rf hFc3 rfl) )
      · refine g_iconst dX6_readValue_18 ?_
        refine g_goto (tgt := 27) dX6_readValue_19 (by decide) ?_
        refine g_istore_n (l1 := [(3, vI (-1)), (0, vR 110), (1, vI a1), (2, vI a2)]) dX6_readValue_27 (by decide) rfl ?_
        refine g_iload_n dX6_readValue_28 rfl ?_
        refine g_iconst dX6_readValue_29 ?_
        refine g_icmp_ne (tgt := 35) dX6_readValue_30 (by decide) (by decide) (by decide) (fun k38 => by exfalso; omega) (fun k38 => ?_)
        refine g_iconst dX6_readValue_33 ?_
        exact g_retI dX6_readValue_34 rfl (hQ (-1) (by decide) _ hB FrX.rf )
    · refine g_aload_n dX6_readValue_5 rfl ?_
      refine g_iconst dX6_readValue_6 ?_
      refine g_bipush dX6_readValue_7 (by decide) ?_
      refine g_vI (av := [vI 0, vI 19]) (o := 110) (st := []) (m_X6_readNumber G P 0 19 (by decide) (by decide) hB v_TX _ (fun rc39 hc39 Pc39 hBc39 hFc39 => ⟨rc39, rfl, ?_⟩)) cf_X6_readNumber t_816 rfl (show kx 110 45 from (⟨by decide, rfl⟩ : kx 110 45)).1 ((show kx 110 45 from (⟨by decide, rfl⟩ : kx 110 45)).sh rfl) rfl rfl (Nat.le_of_ble_eq_true rfl) (by omega) rfl dX6_readValue_9
      exact g_retI dX6_readValue_12 rfl (hQ rc39 ⟨by omega, by omega⟩ _ hBc39 (FrX.c FrX.rf hFc39 rfl) )
theorem m_X6_readValue (G : GT) (P : PH) (a1 : Int) (a2 : Int) (h_a1 : (-2147483648) ≤ a1 ∧ a1 ≤ 2147483647) (h_a2 : (-2147483648) ≤ a2 ∧ a2 ≤ 2147483647) (hB : BdX P) (p_dp : 0 ≤ a2) (v_TX : TX P) (hm : (6 - a2 : Int).toNat < 7) (Q : Option PV → PH → Prop) (hQ : ∀ (r : Int) (_ : (-2147483648) ≤ r ∧ r ≤ 2147483647) (P1 : PH) (_ : BdX P1) (_ : FrX ([(45, 3), (45, 4), (46, 3), (46, 4), (46, 5), (46, 6), (46, 7), (46, 8)], []) P P1), Q (some (vI r)) P1) : Ct WSX G 11 iX6_readValue [vR 110, vI a1, vI a2] P Q := mr_X6_readValue G 7 P a1 a2 h_a1 h_a2 hB p_dp v_TX hm Q hQ
set_option maxRecDepth 100000 in
set_option maxHeartbeats 4000000 in
theorem m_X6_readRow_B16 (G : GT) (P : PH) (o1 : Nat) (k_o1 : kx o1 28) (hB : BdX P) (Q : Option PV → PH → Prop) (hQ : ∀ (r : Int) (_ : (-2147483648) ≤ r ∧ r ≤ 2147483647) (P1 : PH) (_ : BdX P1) (_ : FrX ([(45, 2), (45, 3), (45, 4), (46, 1), (46, 2), (46, 3), (46, 4), (46, 5), (46, 6), (46, 7), (46, 8)], []) P P1) (_ : TX P1), Q (some (vI r)) P1) : Ct WSX G 12 iX6_readRow [vR 110, vR 1, vR o1] P Q := by
  refine Ct.of (by decide) (l0 := [(0, vR 110), (1, vR 1), (2, vR o1)]) rfl (Nat.le_of_ble_eq_true rfl) ?_
  refine g_aload_n dX6_readRow_0 rfl ?_
  refine g_aload_n dX6_readRow_1 rfl ?_
  refine x_p45_2 (⟨by decide, rfl⟩ : kx 110 45) pfX6_27 dX6_readRow_2 ?_
  have hB1 := bw_110_2 (x := o1) hB k_o1
  refine g_aload_n dX6_readRow_5 rfl ?_
  refine g_aload_n dX6_readRow_6 rfl ?_
  refine g_vV (av := [vR 1]) (o := 110) (st := []) (m_X6_begin_B16 G (up P 110 2 ((o1 : Nat) : Int))  hB1  _ (fun Pc2 hBc2 hFc2 vc2_TX => ⟨rfl, ?_⟩)) cf_X6_begin t_695 rfl (show kx 110 45 from (⟨by decide, rfl⟩ : kx 110 45)).1 ((show kx 110 45 from (⟨by decide, rfl⟩ : kx 110 45)).sh rfl) rfl rfl (Nat.le_of_ble_eq_true rfl) (by decide) rfl dX6_readRow_7
  refine g_aload_n dX6_readRow_10 rfl ?_
  refine x_g45_2 (n := o1) (⟨by decide, rfl⟩ : kx 110 45) ffX6_27 dX6_readRow_11 ((FrX.g hFc2 (⟨by decide, rfl⟩ : kx 110 45) rfl).trans up_same) ?_
  refine x_g28_6 (z := (P o1 6)) k_o1 ffX6_79 dX6_readRow_14 ((FrX.g hFc2 k_o1 rfl).trans ((up_o (kx.ne k_o1 (⟨by decide, rfl⟩ : kx 110 45) rfl)).trans rfl)) ?_
  have f3 := bx_28_6 (o := o1) hB k_o1
  refine g_if_ne (tgt := 29) dX6_readRow_17 (by decide) ⟨by have q0 := bx_28_6 (o := o1) hB k_o1; omega, by have q0 := bx_28_6 (o := o1) hB k_o1; omega⟩ (fun k4 => ?_) (fun k4 => ?_)
  · refine g_iconst dX6_readRow_29 ?_
    refine g_istore_n (l1 := [(3, vI 0), (0, vR 110), (1, vR 1), (2, vR o1)]) dX6_readRow_30 (by decide) rfl ?_
    refine g_iconst dX6_readRow_31 ?_
    refine g_istore (l1 := [(4, vI 0), (3, vI 0), (0, vR 110), (1, vR 1), (2, vR o1)]) dX6_readRow_32 (by decide) rfl ?_
    have L34_4 : ∀ (n34_4 : Nat) (x34_4_4 : Int) (h_x34_4_4 : 0 ≤ x34_4_4 ∧ x34_4_4 ≤ 4) (x34_3_4 : Int) (h_x34_3_4 : (-2147483648) ≤ x34_3_4 ∧ x34_3_4 ≤ 2147483647) (H34_4 : PH) (hB34_4 : BdX H34_4) (hE34_4 : FrX ([(45, 3), (45, 4), (46, 3), (46, 4), (46, 5), (46, 6), (46, 7), (46, 8)], []) Pc2 H34_4) (hm34_4 : ((5 - x34_4_4) : Int).toNat < n34_4), Go WSX G 12 iX6_readRow 34 [(0, vR 110), (3, vI x34_3_4), (4, vI x34_4_4)] [] H34_4 Q := by
      intro n34_4
      induction n34_4 with
      | zero => intro x34_4_4 h_x34_4_4 x34_3_4 h_x34_3_4 H34_4 hB34_4 hE34_4 hm34_4; exact absurd hm34_4 (Nat.not_lt_zero _)
      | succ n34_4 ih34_4 =>
      intro x34_4_4 h_x34_4_4 x34_3_4 h_x34_3_4 H34_4 hB34_4 hE34_4 hm34_4
      refine g_iload dX6_readRow_34 rfl ?_
      refine g_aload_n dX6_readRow_36 rfl ?_
      refine x_g45_2 (n := o1) (⟨by decide, rfl⟩ : kx 110 45) ffX6_27 dX6_readRow_37 ((FrX.g hE34_4 (⟨by decide, rfl⟩ : kx 110 45) rfl).trans ((FrX.g hFc2 (⟨by decide, rfl⟩ : kx 110 45) rfl).trans up_same)) ?_
      refine x_g28_6 (z := (P o1 6)) k_o1 ffX6_79 dX6_readRow_40 ((FrX.g hE34_4 k_o1 rfl).trans ((FrX.g hFc2 k_o1 rfl).trans ((up_o (kx.ne k_o1 (⟨by decide, rfl⟩ : kx 110 45) rfl)).trans rfl))) ?_
      refine g_icmp_ge (tgt := 109) dX6_readRow_43 (by decide) ⟨by omega, by omega⟩ ⟨by have q0 := bx_28_6 (o := o1) hB k_o1; omega, by have q0 := bx_28_6 (o := o1) hB k_o1; omega⟩ (fun k142 => ?_) (fun k142 => ?_)
      · refine g_aload_n dX6_readRow_109 rfl ?_
        refine x_g45_0 (n := 111) (⟨by decide, rfl⟩ : kx 110 45) ffX6_12 dX6_readRow_110 rfl ?_
        refine x_g46_4 (z := (H34_4 111 4)) (⟨by decide, rfl⟩ : kx 111 46) ffX6_40 dX6_readRow_113 rfl ?_
        have f143 := bx_46_4 (o := 111) hB34_4 (⟨by decide, rfl⟩ : kx 111 46)
        refine g_if_eq (tgt := 126) dX6_readRow_116 (by decide) ⟨by have q0 := bx_46_4 (o := 111) hB34_4 (⟨by decide, rfl⟩ : kx 111 46); omega, by have q0 := bx_46_4 (o := 111) hB34_4 (⟨by decide, rfl⟩ : kx 111 46); omega⟩ (fun k144 => ?_) (fun k144 => ?_)
        · refine g_iload_n dX6_readRow_126 rfl ?_
          exact g_retI dX6_readRow_127 rfl (hQ x34_3_4 ⟨by omega, by omega⟩ _ hB34_4 (FrX.c (FrX.c (FrX.s FrX.rf (⟨by decide, rfl⟩ : kx 110 45) rfl) hFc2 rfl) hE34_4 rfl) (TX.fr (F := ([(45, 3), (45, 4), (46, 3), (46, 4), (46, 5), (46, 6), (46, 7), (46, 8)], [])) vc2_TX (FrX.c FrX.rf hE34_4 rfl) rfl))
        · refine g_aload_n dX6_readRow_119 rfl ?_
          refine g_vI (av := []) (o := 110) (st := []) (m_X6_failHere G H34_4  hB34_4  _ (fun rc145 hc145 Pc145 hBc145 hFc145 => ⟨rc145, rfl, ?_⟩)) cf_X6_failHere t_723 rfl (show kx 110 45 from (⟨by decide, rfl⟩ : kx 110 45)).1 ((show kx 110 45 from (⟨by decide, rfl⟩ : kx 110 45)).sh rfl) rfl rfl (Nat.le_of_ble_eq_true rfl) (by decide) rfl dX6_readRow_120
          refine g_pop dX6_readRow_123 rfl ?_
          refine g_iconst dX6_readRow_124 ?_
          exact g_retI dX6_readRow_125 rfl (hQ (-1) (by decide) _ hBc145 (FrX.c (FrX.c (FrX.c (FrX.s FrX.rf (⟨by decide, rfl⟩ : kx 110 45) rfl) hFc2 rfl) hE34_4 rfl) hFc145 rfl) (TX.fr (F := ([(45, 3), (45, 4), (46, 3), (46, 4), (46, 5), (46, 6), (46, 7), (46, 8)], [])) vc2_TX (FrX.c (FrX.c FrX.rf hE34_4 rfl) hFc145 rfl) rfl))
      · refine g_iload dX6_readRow_46 rfl ?_
        have J62_153 : ∀ (H62_153 : PH) (hB62_153 : BdX H62_153) (hE62_153 : FrX ([(45, 3), (45, 4), (46, 3), (46, 4), (46, 5), (46, 6), (46, 7), (46, 8)], []) H34_4 H62_153), Go WSX G 12 iX6_readRow 62 [(0, vR 110), (3, vI x34_3_4), (4, vI x34_4_4)] [] H62_153 Q := by
          intro H62_153 hB62_153 hE62_153
          refine g_aload_n dX6_readRow_62 rfl ?_
          refine g_aload_n dX6_readRow_63 rfl ?_
          refine x_g45_2 (n := o1) (⟨by decide, rfl⟩ : kx 110 45) ffX6_27 dX6_readRow_64 ((FrX.g hE62_153 (⟨by decide, rfl⟩ : kx 110 45) rfl).trans ((FrX.g hE34_4 (⟨by decide, rfl⟩ : kx 110 45) rfl).trans ((FrX.g hFc2 (⟨by decide, rfl⟩ : kx 110 45) rfl).trans up_same))) ?_
          refine x_g28_1 (n := (crX o1 1)) k_o1 ffX6_159 dX6_readRow_67 rfl ?_
          refine g_iload dX6_readRow_70 rfl ?_
          refine x_l39 (z := (P (crX o1 1) x34_4_4)) (ck_28_1 k_o1) dX6_readRow_72 ⟨by omega, by omega⟩ ((FrX.g hE62_153 (ck_28_1 k_o1) rfl).trans ((FrX.g hE34_4 (ck_28_1 k_o1) rfl).trans ((FrX.g hFc2 (ck_28_1 k_o1) rfl).trans ((up_o (kx.ne (ck_28_1 k_o1) (⟨by decide, rfl⟩ : kx 110 45) rfl)).trans rfl)))) ?_
          refine g_iconst dX6_readRow_73 ?_
          have f155 := bx_39 (o := (crX o1 1)) (k := x34_4_4) hB (ck_28_1 k_o1)
          refine g_sI (av := [vR 110, vI (P (crX o1 1) x34_4_4), vI 0]) (st := []) (m_X6_readValue G H62_153 (P (crX o1 1) x34_4_4) 0 ⟨by have q0 := bx_39 (o := (crX o1 1)) (k := x34_4_4) hB (ck_28_1 k_o1); omega, by have q0 := bx_39 (o := (crX o1 1)) (k := x34_4_4) hB (ck_28_1 k_o1); omega⟩ (by decide) hB62_153 (by have q0 := bx_39 (o := (crX o1 1)) (k := x34_4_4) hB (ck_28_1 k_o1); omega) (TX.fr (F := ([(45, 3), (45, 4), (46, 3), (46, 4), (46, 5), (46, 6), (46, 7), (46, 8)], [])) vc2_TX (FrX.c (FrX.c FrX.rf hE34_4 rfl) hE62_153 rfl) rfl) (by omega) _ (fun rc156 hc156 Pc156 hBc156 hFc156 => ⟨rc156, rfl, ?_⟩)) cf_X6_readValue t_1026 rfl (Nat.le_of_ble_eq_true rfl) (by decide) rfl dX6_readRow_74
          refine g_istore (l1 := [(5, vI rc156), (0, vR 110), (3, vI x34_3_4), (4, vI x34_4_4)]) dX6_readRow_77 (by decide) rfl ?_
          refine g_iload dX6_readRow_79 rfl ?_
          refine g_iconst dX6_readRow_81 ?_
          refine g_icmp_ne (tgt := 87) dX6_readRow_82 (by decide) ⟨by omega, by omega⟩ (by decide) (fun k157 => ?_) (fun k157 => ?_)
          · refine g_iload_n dX6_readRow_87 rfl ?_
            refine g_aload_n dX6_readRow_88 rfl ?_
            refine x_g45_2 (n := o1) (⟨by decide, rfl⟩ : kx 110 45) ffX6_27 dX6_readRow_89 ((FrX.g hFc156 (⟨by decide, rfl⟩ : kx 110 45) rfl).trans ((FrX.g hE62_153 (⟨by decide, rfl⟩ : kx 110 45) rfl).trans ((FrX.g hE34_4 (⟨by decide, rfl⟩ : kx 110 45) rfl).trans ((FrX.g hFc2 (⟨by decide, rfl⟩ : kx 110 45) rfl).trans up_same)))) ?_
            refine x_g28_2 (n := (crX o1 2)) k_o1 ffX6_218 dX6_readRow_92 rfl ?_
            refine g_iload dX6_readRow_95 rfl ?_
            refine x_l40 (z := (P (crX o1 2) x34_4_4)) (ck_28_2 k_o1) dX6_readRow_97 ⟨by omega, by omega⟩ ((FrX.g hFc156 (ck_28_2 k_o1) rfl).trans ((FrX.g hE62_153 (ck_28_2 k_o1) rfl).trans ((FrX.g hE34_4 (ck_28_2 k_o1) rfl).trans ((FrX.g hFc2 (ck_28_2 k_o1) rfl).trans ((up_o (kx.ne (ck_28_2 k_o1) (⟨by decide, rfl⟩ : kx 110 45) rfl)).trans rfl))))) ?_
            refine g_imul dX6_readRow_98 ?_
            refine g_norm (fun r158 h_r158 e_r158 => ?_)
            refine g_iload dX6_readRow_99 rfl ?_
            refine g_iadd dX6_readRow_101 ?_
            refine g_norm (fun r159 h_r159 e_r159 => ?_)
            refine g_istore_n (l1 := [(3, vI r159), (5, vI rc156), (0, vR 110), (4, vI x34_4_4)]) dX6_readRow_102 (by decide) rfl ?_
            refine g_iinc (l1 := [(4, vI (x34_4_4 + 1)), (3, vI r159), (5, vI rc156), (0, vR 110)]) dX6_readRow_103 rfl (by decide) rfl ?_
            refine g_goto (tgt := 34) dX6_readRow_106 (by decide) ?_
            refine g_forget (l1 := [(0, vR 110), (3, vI r159), (4, vI (x34_4_4 + 1))]) (by intro q hq; simp only [List.mem_cons, List.not_mem_nil, or_false] at hq ⊢; rcases hq with rfl | rfl | rfl <;> simp) ?_
            exact ih34_4 (x34_4_4 + 1) ⟨by omega, by omega⟩ r159 ⟨by omega, by omega⟩ _ hBc156 (FrX.c (FrX.c (FrX.c FrX.rf hE34_4 rfl) hE62_153 rfl) hFc156 rfl) (by omega)
          · refine g_iconst dX6_readRow_85 ?_
            exact g_retI dX6_readRow_86 rfl (hQ (-1) (by decide) _ hBc156 (FrX.c (FrX.c (FrX.c (FrX.c (FrX.s FrX.rf (⟨by decide, rfl⟩ : kx 110 45) rfl) hFc2 rfl) hE34_4 rfl) hE62_153 rfl) hFc156 rfl) (TX.fr (F := ([(45, 3), (45, 4), (46, 3), (46, 4), (46, 5), (46, 6), (46, 7), (46, 8)], [])) vc2_TX (FrX.c (FrX.c (FrX.c FrX.rf hE34_4 rfl) hE62_153 rfl) hFc156 rfl) rfl))
        refine g_if_le (tgt := 62) dX6_readRow_48 (by decide) ⟨by omega, by omega⟩ (fun k160 => ?_) (fun k160 => ?_)
        · refine g_forget (l1 := [(0, vR 110), (3, vI x34_3_4), (4, vI x34_4_4)]) (by intro q hq; simp only [List.mem_cons, List.not_mem_nil, or_false] at hq ⊢; rcases hq with rfl | rfl | rfl <;> simp) ?_
          exact J62_153 _ hB34_4 FrX.rf
        · refine g_aload_n dX6_readRow_51 rfl ?_
          refine g_bipush dX6_readRow_52 (by decide) ?_
          refine g_vI (av := [vI 44]) (o := 110) (st := []) (m_X6_readSign G H34_4 44 (by decide) hB34_4 (TX.fr (F := ([(45, 3), (45, 4), (46, 3), (46, 4), (46, 5), (46, 6), (46, 7), (46, 8)], [])) vc2_TX (FrX.c FrX.rf hE34_4 rfl) rfl) _ (fun rc161 hc161 Pc161 hBc161 hFc161 => ⟨rc161, rfl, ?_⟩)) cf_X6_readSign t_797 rfl (show kx 110 45 from (⟨by decide, rfl⟩ : kx 110 45)).1 ((show kx 110 45 from (⟨by decide, rfl⟩ : kx 110 45)).sh rfl) rfl rfl (Nat.le_of_ble_eq_true rfl) (by decide) rfl dX6_readRow_54
          refine g_if_ne (tgt := 62) dX6_readRow_57 (by decide) ⟨by omega, by omega⟩ (fun k162 => ?_) (fun k162 => ?_)
          · refine g_forget (l1 := [(0, vR 110), (3, vI x34_3_4), (4, vI x34_4_4)]) (by intro q hq; simp only [List.mem_cons, List.not_mem_nil, or_false] at hq ⊢; rcases hq with rfl | rfl | rfl <;> simp) ?_
            exact J62_153 _ hBc161 (FrX.c FrX.rf hFc161 rfl)
          · refine g_iconst dX6_readRow_60 ?_
            exact g_retI dX6_readRow_61 rfl (hQ (-1) (by decide) _ hBc161 (FrX.c (FrX.c (FrX.c (FrX.s FrX.rf (⟨by decide, rfl⟩ : kx 110 45) rfl) hFc2 rfl) hE34_4 rfl) hFc161 rfl) (TX.fr (F := ([(45, 3), (45, 4), (46, 3), (46, 4), (46, 5), (46, 6), (46, 7), (46, 8)], [])) vc2_TX (FrX.c (FrX.c FrX.rf hE34_4 rfl) hFc161 rfl) rfl))
    refine g_forget (l1 := [(0, vR 110), (3, vI 0), (4, vI 0)]) (by intro q hq; simp only [List.mem_cons, List.not_mem_nil, or_false] at hq ⊢; rcases hq with rfl | rfl | rfl <;> simp) ?_
    exact L34_4 _ 0 (by decide) 0 (by decide) _ hBc2 FrX.rf (Nat.lt_succ_self _)
  · refine g_aload_n dX6_readRow_20 rfl ?_
    refine g_iconst dX6_readRow_21 ?_
    refine g_iconst dX6_readRow_22 ?_
    refine g_vI (av := [vI 1, vI 0]) (o := 110) (st := []) (m_X6_fail G Pc2 1 0 (by decide) (by decide) hBc2  _ (fun rc163 hc163 Pc163 hBc163 hFc163 => ⟨rc163, rfl, ?_⟩)) cf_X6_fail t_727 rfl (show kx 110 45 from (⟨by decide, rfl⟩ : kx 110 45)).1 ((show kx 110 45 from (⟨by decide, rfl⟩ : kx 110 45)).sh rfl) rfl rfl (Nat.le_of_ble_eq_true rfl) (by decide) rfl dX6_readRow_23
    refine g_pop dX6_readRow_26 rfl ?_
    refine g_iconst dX6_readRow_27 ?_
    exact g_retI dX6_readRow_28 rfl (hQ (-1) (by decide) _ hBc163 (FrX.c (FrX.c (FrX.s FrX.rf (⟨by decide, rfl⟩ : kx 110 45) rfl) hFc2 rfl) hFc163 rfl) (TX.fr (F := ([(45, 3), (45, 4)], [])) vc2_TX (FrX.c FrX.rf hFc163 rfl) rfl))
end
