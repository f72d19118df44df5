/-! Contracts of the class: x1. -/
set_option maxRecDepth 100000 in
set_option maxHeartbeats 4000000 in
theorem m_J9_max_7cf53 (G : GT) (P : PH) (a1 : Int) (a2 : Int) (h_a1 : (-2147483648) ≤ a1 ∧ a1 ≤ 2147483647) (h_a2 : (-2147483648) ≤ a2 ∧ a2 ≤ 2147483647) (hB : BdX P) (Q : Option PV → PH → Prop) (hQ : ∀ (r : Int) (_ : (-2147483648) ≤ r ∧ r ≤ 2147483647) (_ : (a1 < a2 ∧ r = a2) ∨ (a2 ≤ a1 ∧ r = a1)), Q (some (vI r)) P) : Ct WSX G 1 iJ9_max_7cf53 [vI a1, vI a2] P Q := by
  refine Ct.ofF (by decide +kernel) (l0 := [(0, vI a1), (1, vI a2)]) rfl (Nat.le_of_ble_eq_true rfl) ?_
  refine g_iload_n dJ9_max_7cf53_0 rfl ?_
  refine g_iload_n dJ9_max_7cf53_1 rfl ?_
  refine g_icmp_lt (tgt := 9) dJ9_max_7cf53_2 (by decide) ⟨by omega, by omega⟩ ⟨by omega, by omega⟩ (fun k1 => ?_) (fun k1 => ?_)
  · refine g_iload_n dJ9_max_7cf53_9 rfl ?_
    exact g_retI dJ9_max_7cf53_10 rfl (hQ a2 ⟨by omega, by omega⟩ (by omega))
  · refine g_iload_n dJ9_max_7cf53_5 rfl ?_
    refine g_goto (tgt := 10) dJ9_max_7cf53_6 (by decide) ?_
    exact g_retI dJ9_max_7cf53_10 rfl (hQ a1 ⟨by omega, by omega⟩ (by omega))
set_option maxRecDepth 100000 in
set_option maxHeartbeats 4000000 in
theorem m_J9_min_7cf53 (G : GT) (P : PH) (a1 : Int) (a2 : Int) (h_a1 : (-2147483648) ≤ a1 ∧ a1 ≤ 2147483647) (h_a2 : (-2147483648) ≤ a2 ∧ a2 ≤ 2147483647) (hB : BdX P) (Q : Option PV → PH → Prop) (hQ : ∀ (r : Int) (_ : (-2147483648) ≤ r ∧ r ≤ 2147483647) (_ : (a2 < a1 ∧ r = a2) ∨ (a1 ≤ a2 ∧ r = a1)), Q (some (vI r)) P) : Ct WSX G 1 iJ9_min_7cf53 [vI a1, vI a2] P Q := by
  refine Ct.ofF (by decide +kernel) (l0 := [(0, vI a1), (1, vI a2)]) rfl (Nat.le_of_ble_eq_true rfl) ?_
  refine g_iload_n dJ9_min_7cf53_0 rfl ?_
  refine g_iload_n dJ9_min_7cf53_1 rfl ?_
  refine g_icmp_gt (tgt := 9) dJ9_min_7cf53_2 (by decide) ⟨by omega, by omega⟩ ⟨by omega, by omega⟩ (fun k1 => ?_) (fun k1 => ?_)
  · refine g_iload_n dJ9_min_7cf53_9 rfl ?_
    exact g_retI dJ9_min_7cf53_10 rfl (hQ a2 ⟨by omega, by omega⟩ (by omega))
  · refine g_iload_n dJ9_min_7cf53_5 rfl ?_
    refine g_goto (tgt := 10) dJ9_min_7cf53_6 (by decide) ?_
    exact g_retI dJ9_min_7cf53_10 rfl (hQ a1 ⟨by omega, by omega⟩ (by omega))
set_option maxRecDepth 100000 in
set_option maxHeartbeats 4000000 in
theorem m_J9_floorMod_7cf53 (G : GT) (P : PH) (a1 : Int) (a2 : Int) (h_a1 : (-2147483648) ≤ a1 ∧ a1 ≤ 2147483647) (h_a2 : (-2147483648) ≤ a2 ∧ a2 ≤ 2147483647) (hB : BdX P) (p_p : 0 < a2) (Q : Option PV → PH → Prop) (hQ : ∀ (r : Int) (_ : (-2147483648) ≤ r ∧ r ≤ 2147483647) (_ : 0 ≤ r ∧ r < a2), Q (some (vI r)) P) : Ct WSX G 1 iJ9_floorMod_7cf53 [vI a1, vI a2] P Q := by
  refine Ct.ofF (by decide +kernel) (l0 := [(0, vI a1), (1, vI a2)]) rfl (Nat.le_of_ble_eq_true rfl) ?_
  have hs := irem_sgn (x := a1) (y := a2) h_a1 ⟨p_p, by omega⟩
  have hr := irem_any (x := a1) (y := a2) h_a1 ⟨p_p, by omega⟩
  have hxs := ixor_sgn (x := a1) (y := a2) h_a1 ⟨by omega, by omega⟩
  refine g_iload_n dJ9_floorMod_7cf53_0 rfl ?_
  refine g_iload_n dJ9_floorMod_7cf53_1 rfl ?_
  refine g_irem dJ9_floorMod_7cf53_2 ⟨⟨by omega, by omega⟩, by omega⟩ ?_
  refine g_nm (fun b1 e_b1 => ?_)
  have h_b1 := irem_ir a1 a2
  rw [← e_b1] at h_b1
  refine g_istore_n (l1 := [(2, vI b1), (0, vI a1), (1, vI a2)]) dJ9_floorMod_7cf53_3 (by decide) rfl ?_
  refine g_iload_n dJ9_floorMod_7cf53_4 rfl ?_
  refine g_iload_n dJ9_floorMod_7cf53_5 rfl ?_
  refine g_ixor dJ9_floorMod_7cf53_6 ?_
  refine g_nm (fun b2 e_b2 => ?_)
  have h_b2 := ixor_ir a1 a2
  rw [← e_b2] at h_b2
  refine g_if_ge (tgt := 18) dJ9_floorMod_7cf53_7 (by decide) ⟨by omega, by omega⟩ (fun k3 => ?_) (fun k3 => ?_)
  · refine g_iload_n dJ9_floorMod_7cf53_18 rfl ?_
    exact g_retI dJ9_floorMod_7cf53_19 rfl (hQ b1 ⟨by omega, by omega⟩ (by omega))
  · refine g_iload_n dJ9_floorMod_7cf53_10 rfl ?_
    refine g_if_eq (tgt := 18) dJ9_floorMod_7cf53_11 (by decide) ⟨by omega, by omega⟩ (fun k4 => ?_) (fun k4 => ?_)
    · refine g_iload_n dJ9_floorMod_7cf53_18 rfl ?_
      exact g_retI dJ9_floorMod_7cf53_19 rfl (hQ b1 ⟨by omega, by omega⟩ (by omega))
    · refine g_iload_n dJ9_floorMod_7cf53_14 rfl ?_
      refine g_iload_n dJ9_floorMod_7cf53_15 rfl ?_
      refine g_iadd dJ9_floorMod_7cf53_16 ?_
      exact g_retI dJ9_floorMod_7cf53_17 rfl (hQ (b1 + a2) ⟨by omega, by omega⟩ (by omega))
set_option maxRecDepth 100000 in
set_option maxHeartbeats 4000000 in
theorem m_J6_bitCount_0f7a4 (G : GT) (P : PH) (a1 : Int) (h_a1 : (-2147483648) ≤ a1 ∧ a1 ≤ 2147483647) (hB : BdX P) (Q : Option PV → PH → Prop) (hQ : ∀ (r : Int) (_ : (-2147483648) ≤ r ∧ r ≤ 2147483647), Q (some (vI r)) P) : Ct WSX G 1 iJ6_bitCount_0f7a4 [vI a1] P Q := by
  refine Ct.ofF (by decide +kernel) (l0 := [(0, vI a1)]) rfl (Nat.le_of_ble_eq_true rfl) ?_
  refine g_iload_n dJ6_bitCount_0f7a4_0 rfl ?_
  refine g_iload_n dJ6_bitCount_0f7a4_1 rfl ?_
  refine g_iconst dJ6_bitCount_0f7a4_2 ?_
  refine g_iushr dJ6_bitCount_0f7a4_3 ?_
  refine g_nm (fun b1 e_b1 => ?_)
  have h_b1 := iushr_ir a1 1
  rw [← e_b1] at h_b1
  refine g_ldcw (z := 1431655765) dJ6_bitCount_0f7a4_4 t_1115 (by decide) ?_
  refine g_iand dJ6_bitCount_0f7a4_7 ?_
  refine g_nm (fun b2 e_b2 => ?_)
  have h_b2 := iand_r (x := b1) (y := 1431655765) ⟨by omega, by omega⟩
  rw [← e_b2] at h_b2
  refine g_isub dJ6_bitCount_0f7a4_8 ?_
  refine g_norm (fun r3 h_r3 e_r3 => ?_)
  refine g_istore_n (l1 := [(0, vI r3)]) dJ6_bitCount_0f7a4_9 (by decide) rfl ?_
  refine g_iload_n dJ6_bitCount_0f7a4_10 rfl ?_
  refine g_ldcw (z := 858993459) dJ6_bitCount_0f7a4_11 t_1116 (by decide) ?_
  refine g_iand dJ6_bitCount_0f7a4_14 ?_
  refine g_nm (fun b4 e_b4 => ?_)
  have h_b4 := iand_r (x := r3) (y := 858993459) ⟨by omega, by omega⟩
  rw [← e_b4] at h_b4
  refine g_iload_n dJ6_bitCount_0f7a4_15 rfl ?_
  refine g_iconst dJ6_bitCount_0f7a4_16 ?_
  refine g_iushr dJ6_bitCount_0f7a4_17 ?_
  refine g_nm (fun b5 e_b5 => ?_)
  have h_b5 := iushr_ir r3 2
  rw [← e_b5] at h_b5
  refine g_ldcw (z := 858993459) dJ6_bitCount_0f7a4_18 t_1116 (by decide) ?_
  refine g_iand dJ6_bitCount_0f7a4_21 ?_
  refine g_nm (fun b6 e_b6 => ?_)
  have h_b6 := iand_r (x := b5) (y := 858993459) ⟨by omega, by omega⟩
  rw [← e_b6] at h_b6
  refine g_iadd dJ6_bitCount_0f7a4_22 ?_
  refine g_istore_n (l1 := [(0, vI (b4 + b6))]) dJ6_bitCount_0f7a4_23 (by decide) rfl ?_
  refine g_iload_n dJ6_bitCount_0f7a4_24 rfl ?_
  refine g_iload_n dJ6_bitCount_0f7a4_25 rfl ?_
  refine g_iconst dJ6_bitCount_0f7a4_26 ?_
  refine g_iushr dJ6_bitCount_0f7a4_27 ?_
  refine g_nm (fun b7 e_b7 => ?_)
  have h_b7 := iushr_ir (b4 + b6) 4
  rw [← e_b7] at h_b7
  refine g_iadd dJ6_bitCount_0f7a4_28 ?_
  refine g_norm (fun r8 h_r8 e_r8 => ?_)
  refine g_ldcw (z := 252645135) dJ6_bitCount_0f7a4_29 t_1117 (by decide) ?_
  refine g_iand dJ6_bitCount_0f7a4_32 ?_
  refine g_nm (fun b9 e_b9 => ?_)
  have h_b9 := iand_r (x := r8) (y := 252645135) ⟨by omega, by omega⟩
  rw [← e_b9] at h_b9
  refine g_istore_n (l1 := [(0, vI b9)]) dJ6_bitCount_0f7a4_33 (by decide) rfl ?_
  refine g_iload_n dJ6_bitCount_0f7a4_34 rfl ?_
  refine g_iload_n dJ6_bitCount_0f7a4_35 rfl ?_
  refine g_bipush dJ6_bitCount_0f7a4_36 (by decide) ?_
  refine g_iushr dJ6_bitCount_0f7a4_38 ?_
  refine g_nm (fun b10 e_b10 => ?_)
  have h_b10 := iushr_ir b9 8
  rw [← e_b10] at h_b10
  refine g_iadd dJ6_bitCount_0f7a4_39 ?_
  refine g_norm (fun r11 h_r11 e_r11 => ?_)
  refine g_istore_n (l1 := [(0, vI r11)]) dJ6_bitCount_0f7a4_40 (by decide) rfl ?_
  refine g_iload_n dJ6_bitCount_0f7a4_41 rfl ?_
  refine g_iload_n dJ6_bitCount_0f7a4_42 rfl ?_
  refine g_bipush dJ6_bitCount_0f7a4_43 (by decide) ?_
  refine g_iushr dJ6_bitCount_0f7a4_45 ?_
  refine g_nm (fun b12 e_b12 => ?_)
  have h_b12 := iushr_ir r11 16
  rw [← e_b12] at h_b12
  refine g_iadd dJ6_bitCount_0f7a4_46 ?_
  refine g_norm (fun r13 h_r13 e_r13 => ?_)
  refine g_istore_n (l1 := [(0, vI r13)]) dJ6_bitCount_0f7a4_47 (by decide) rfl ?_
  refine g_iload_n dJ6_bitCount_0f7a4_48 rfl ?_
  refine g_bipush dJ6_bitCount_0f7a4_49 (by decide) ?_
  refine g_iand dJ6_bitCount_0f7a4_51 ?_
  refine g_nm (fun b14 e_b14 => ?_)
  have h_b14 := iand_r (x := r13) (y := 63) ⟨by omega, by omega⟩
  rw [← e_b14] at h_b14
  exact g_retI dJ6_bitCount_0f7a4_52 rfl (hQ b14 ⟨by omega, by omega⟩ )
set_option maxRecDepth 100000 in
set_option maxHeartbeats 4000000 in
theorem m_X1_add_B10 (G : GT) (P : PH) (a1 : Int) (h_a1 : (-2147483648) ≤ a1 ∧ a1 ≤ 2147483647) (hB : BdX P) (Q : Option PV → PH → Prop) (hQ : ∀ (P1 : PH) (_ : BdX P1) (_ : FrX ([(3, 1)], [4]) P P1), Q none P1) : Ct WSX G 1 iX1_add [vR 3, vI a1] P Q := by
  refine Ct.of (by decide) (l0 := [(0, vR 3), (1, vI a1)]) rfl (Nat.le_of_ble_eq_true rfl) ?_
  refine g_aload_n dX1_add_0 rfl ?_
  refine x_g3_1 (z := (P 3 1)) (⟨by decide, rfl⟩ : kx 3 3) ffX1_21 dX1_add_1 rfl ?_
  have f1 := bx_3_1 (o := 3) hB (⟨by decide, rfl⟩ : kx 3 3)
  refine g_if_lt (tgt := 43) dX1_add_4 (by decide) ⟨by have q0 := bx_3_1 (o := 3) hB (⟨by decide, rfl⟩ : kx 3 3); omega, by have q0 := bx_3_1 (o := 3) hB (⟨by decide, rfl⟩ : kx 3 3); omega⟩ (fun k2 => by exfalso; have q0 := bx_3_1 (o := 3) hB (⟨by decide, rfl⟩ : kx 3 3); omega) (fun k2 => ?_)
  refine g_aload_n dX1_add_7 rfl ?_
  refine x_g3_1 (z := (P 3 1)) (⟨by decide, rfl⟩ : kx 3 3) ffX1_21 dX1_add_8 rfl ?_
  refine g_aload_n dX1_add_11 rfl ?_
  refine x_g3_0 (n := 4) (⟨by decide, rfl⟩ : kx 3 3) ffX1_15 dX1_add_12 rfl ?_
  refine x_n4 (⟨by decide, rfl⟩ : kx 4 4) dX1_add_15 ?_
  refine g_icmp_ge (tgt := 43) dX1_add_16 (by decide) ⟨by have q0 := bx_3_1 (o := 3) hB (⟨by decide, rfl⟩ : kx 3 3); omega, by have q0 := bx_3_1 (o := 3) hB (⟨by decide, rfl⟩ : kx 3 3); omega⟩ (by decide) (fun k3 => ?_) (fun k3 => ?_)
  · exact g_retV dX1_add_43 rfl (hQ _ hB FrX.rf )
  · refine g_aload_n dX1_add_19 rfl ?_
    refine x_g3_0 (n := 4) (⟨by decide, rfl⟩ : kx 3 3) ffX1_15 dX1_add_20 rfl ?_
    refine g_aload_n dX1_add_23 rfl ?_
    refine x_g3_1 (z := (P 3 1)) (⟨by decide, rfl⟩ : kx 3 3) ffX1_21 dX1_add_24 rfl ?_
    refine g_iload_n dX1_add_27 rfl ?_
    refine g_sipush dX1_add_28 (by decide) ?_
    refine g_iand dX1_add_31 ?_
    refine g_nm (fun b4 e_b4 => ?_)
    have h_b4 := iand_r (x := a1) (y := 255) ⟨by omega, by omega⟩
    rw [← e_b4] at h_b4
    refine x_s4 (⟨by decide, rfl⟩ : kx 4 4) dX1_add_32 ⟨by have q0 := bx_3_1 (o := 3) hB (⟨by decide, rfl⟩ : kx 3 3); omega, by have q0 := bx_3_1 (o := 3) hB (⟨by decide, rfl⟩ : kx 3 3); omega⟩ ?_
    have hB5 := by_4 (z := b4) (k := (P 3 1)) hB (⟨by decide, rfl⟩ : kx 4 4) ⟨by omega, by omega⟩
    refine g_aload_n dX1_add_33 rfl ?_
    refine g_dup dX1_add_34 rfl ?_
    refine x_g3_1 (z := (P 3 1)) (⟨by decide, rfl⟩ : kx 3 3) ffX1_21 dX1_add_35 ((up_o (kx.ne (⟨by decide, rfl⟩ : kx 3 3) (⟨by decide, rfl⟩ : kx 4 4) rfl)).trans rfl) ?_
    refine g_iconst dX1_add_38 ?_
    refine g_iadd dX1_add_39 ?_
    refine x_p3_1 (⟨by decide, rfl⟩ : kx 3 3) pfX1_21 dX1_add_40 ?_
    have hB6 := by_3_1 (z := ((P 3 1) + 1)) hB5 (⟨by decide, rfl⟩ : kx 3 3) ⟨by have q0 := bx_3_1 (o := 3) hB (⟨by decide, rfl⟩ : kx 3 3); omega, by have q0 := bx_3_1 (o := 3) hB (⟨by decide, rfl⟩ : kx 3 3); omega⟩
    exact g_retV dX1_add_43 rfl (hQ _ hB6 (FrX.s (FrX.s FrX.rf (⟨by decide, rfl⟩ : kx 4 4) rfl) (⟨by decide, rfl⟩ : kx 3 3) rfl) )
set_option maxRecDepth 100000 in
set_option maxHeartbeats 4000000 in
theorem m_X11_letterOf (G : GT) (P : PH) (a1 : Int) (a2 : Int) (h_a1 : (-2147483648) ≤ a1 ∧ a1 ≤ 2147483647) (h_a2 : (-2147483648) ≤ a2 ∧ a2 ≤ 2147483647) (hB : BdX P) (Q : Option PV → PH → Prop) (hQ : ∀ (r : Int) (_ : (-2147483648) ≤ r ∧ r ≤ 2147483647), Q (some (vI r)) P) : Ct WSX G 1 iX11_letterOf [vI a1, vI a2] P Q := by
  refine Ct.of (by decide) (l0 := [(0, vI a1), (1, vI a2)]) rfl (Nat.le_of_ble_eq_true rfl) ?_
  refine g_iload_n dX11_letterOf_0 rfl ?_
  refine g_istore_n (l1 := [(2, vI a1), (0, vI a1), (1, vI a2)]) dX11_letterOf_1 (by decide) rfl ?_
  refine g_iconst dX11_letterOf_2 ?_
  refine g_istore_n (l1 := [(3, vI 5), (2, vI a1), (0, vI a1), (1, vI a2)]) dX11_letterOf_3 (by decide) rfl ?_
  have L4_0 : ∀ (n4_0 : Nat) (x4_3_0 : Int) (h_x4_3_0 : (-2147483648) ≤ x4_3_0 ∧ x4_3_0 ≤ 5) (x4_2_0 : Int) (h_x4_2_0 : (-2147483648) ≤ x4_2_0 ∧ x4_2_0 ≤ 2147483647) (hm4_0 : ((x4_3_0 - (-2147483649)) : Int).toNat < n4_0), Go WSX G 1 iX11_letterOf 4 [(1, vI a2), (2, vI x4_2_0), (3, vI x4_3_0)] [] P Q := by
    intro n4_0
    induction n4_0 with
    | zero => intro x4_3_0 h_x4_3_0 x4_2_0 h_x4_2_0 hm4_0; exact absurd hm4_0 (Nat.not_lt_zero _)
    | succ n4_0 ih4_0 =>
    intro x4_3_0 h_x4_3_0 x4_2_0 h_x4_2_0 hm4_0
    refine g_iload_n dX11_letterOf_4 rfl ?_
    refine g_iload_n dX11_letterOf_5 rfl ?_
    refine g_icmp_le (tgt := 20) dX11_letterOf_6 (by decide) ⟨by omega, by omega⟩ ⟨by omega, by omega⟩ (fun k35 => ?_) (fun k35 => ?_)
    · refine g_iload_n dX11_letterOf_20 rfl ?_
      refine g_bipush dX11_letterOf_21 (by decide) ?_
      refine g_irem dX11_letterOf_23 ⟨(by decide), by decide⟩ ?_
      refine g_nm (fun b36 e_b36 => ?_)
      have h_b36 := irem_any (x := x4_2_0) (y := 27) ⟨by omega, by omega⟩ ⟨by omega, by omega⟩
      rw [← e_b36] at h_b36
      exact g_retI dX11_letterOf_24 rfl (hQ b36 ⟨by omega, by omega⟩ )
    · refine g_iload_n dX11_letterOf_9 rfl ?_
      refine g_bipush dX11_letterOf_10 (by decide) ?_
      refine g_idiv dX11_letterOf_12 ⟨(by decide), by decide⟩ ?_
      refine g_nm (fun b37 e_b37 => ?_)
      have h_b37 := idiv_ir x4_2_0 27
      rw [← e_b37] at h_b37
      refine g_istore_n (l1 := [(2, vI b37), (1, vI a2), (3, vI x4_3_0)]) dX11_letterOf_13 (by decide) rfl ?_
      refine g_iinc (l1 := [(3, vI (x4_3_0 + (-1))), (2, vI b37), (1, vI a2)]) dX11_letterOf_14 rfl (by decide) rfl ?_
      refine g_goto (tgt := 4) dX11_letterOf_17 (by decide) ?_
      refine g_forget (l1 := [(1, vI a2), (2, vI b37), (3, vI (x4_3_0 + (-1)))]) (by intro q hq; simp only [List.mem_cons, List.not_mem_nil, or_false] at hq ⊢; rcases hq with rfl | rfl | rfl <;> simp) ?_
      exact ih4_0 (x4_3_0 + (-1)) ⟨by omega, by omega⟩ b37 ⟨by omega, by omega⟩ (by omega)
  refine g_forget (l1 := [(1, vI a2), (2, vI a1), (3, vI 5)]) (by intro q hq; simp only [List.mem_cons, List.not_mem_nil, or_false] at hq ⊢; rcases hq with rfl | rfl | rfl <;> simp) ?_
  exact L4_0 _ 5 (by decide) a1 ⟨by omega, by omega⟩ (Nat.lt_succ_self _)
set_option maxRecDepth 100000 in
set_option maxHeartbeats 4000000 in
theorem m_X1_addNumber_B10 (G : GT) (P : PH) (a1 : Int) (h_a1 : (-2147483648) ≤ a1 ∧ a1 ≤ 2147483647) (hB : BdX P) (Q : Option PV → PH → Prop) (hQ : ∀ (P1 : PH) (_ : BdX P1) (_ : FrX ([(3, 1)], [4]) P P1), Q none P1) : Ct WSX G 2 iX1_addNumber [vR 3, vI a1] P Q := by
  refine Ct.of (by decide) (l0 := [(0, vR 3), (1, vI a1)]) rfl (Nat.le_of_ble_eq_true rfl) ?_
  refine g_iload_n dX1_addNumber_0 rfl ?_
  refine g_bipush dX1_addNumber_1 (by decide) ?_
  refine g_icmp_lt (tgt := 20) dX1_addNumber_3 (by decide) ⟨by omega, by omega⟩ (by decide) (fun k1 => ?_) (fun k1 => ?_)
  · refine g_aload_n dX1_addNumber_20 rfl ?_
    refine g_bipush dX1_addNumber_21 (by decide) ?_
    refine g_iload_n dX1_addNumber_23 rfl ?_
    refine g_bipush dX1_addNumber_24 (by decide) ?_
    refine g_irem dX1_addNumber_26 ⟨(by decide), by decide⟩ ?_
    refine g_nm (fun b2 e_b2 => ?_)
    have h_b2 := irem_any (x := a1) (y := 10) ⟨by omega, by omega⟩ ⟨by omega, by omega⟩
    rw [← e_b2] at h_b2
    refine g_iadd dX1_addNumber_27 ?_
    refine g_vV (av := [vI (48 + b2)]) (o := 3) (st := []) (m_X1_add_B10 G P (48 + b2) ⟨by omega, by omega⟩ hB  _ (fun Pc3 hBc3 hFc3 => ⟨rfl, ?_⟩)) cf_X1_add t_671 rfl (show kx 3 3 from (⟨by decide, rfl⟩ : kx 3 3)).1 ((show kx 3 3 from (⟨by decide, rfl⟩ : kx 3 3)).sh rfl) rfl rfl (Nat.le_of_ble_eq_true rfl) (by decide) rfl dX1_addNumber_28
    exact g_retV dX1_addNumber_31 rfl (hQ _ hBc3 (FrX.c FrX.rf hFc3 rfl) )
  · refine g_aload_n dX1_addNumber_6 rfl ?_
    refine g_bipush dX1_addNumber_7 (by decide) ?_
    refine g_iload_n dX1_addNumber_9 rfl ?_
    refine g_bipush dX1_addNumber_10 (by decide) ?_
    refine g_idiv dX1_addNumber_12 ⟨(by decide), by decide⟩ ?_
    refine g_nm (fun b4 e_b4 => ?_)
    have h_b4 := idiv_p (x := a1) (y := 10) ⟨by omega, by omega⟩ ⟨by omega, by omega⟩
    rw [← e_b4] at h_b4
    refine g_bipush dX1_addNumber_13 (by decide) ?_
    refine g_irem dX1_addNumber_15 ⟨(by decide), by decide⟩ ?_
    refine g_nm (fun b5 e_b5 => ?_)
    have h_b5 := irem_b (x := b4) (y := 10) ⟨by omega, by omega⟩ ⟨by omega, by omega⟩
    rw [← e_b5] at h_b5
    refine g_iadd dX1_addNumber_16 ?_
    refine g_vV (av := [vI (48 + b5)]) (o := 3) (st := []) (m_X1_add_B10 G P (48 + b5) ⟨by omega, by omega⟩ hB  _ (fun Pc6 hBc6 hFc6 => ⟨rfl, ?_⟩)) cf_X1_add t_671 rfl (show kx 3 3 from (⟨by decide, rfl⟩ : kx 3 3)).1 ((show kx 3 3 from (⟨by decide, rfl⟩ : kx 3 3)).sh rfl) rfl rfl (Nat.le_of_ble_eq_true rfl) (by decide) rfl dX1_addNumber_17
    refine g_aload_n dX1_addNumber_20 rfl ?_
    refine g_bipush dX1_addNumber_21 (by decide) ?_
    refine g_iload_n dX1_addNumber_23 rfl ?_
    refine g_bipush dX1_addNumber_24 (by decide) ?_
    refine g_irem dX1_addNumber_26 ⟨(by decide), by decide⟩ ?_
    refine g_nm (fun b7 e_b7 => ?_)
    have h_b7 := irem_b (x := a1) (y := 10) ⟨by omega, by omega⟩ ⟨by omega, by omega⟩
    rw [← e_b7] at h_b7
    refine g_iadd dX1_addNumber_27 ?_
    refine g_vV (av := [vI (48 + b7)]) (o := 3) (st := []) (m_X1_add_B10 G Pc6 (48 + b7) ⟨by omega, by omega⟩ hBc6  _ (fun Pc8 hBc8 hFc8 => ⟨rfl, ?_⟩)) cf_X1_add t_671 rfl (show kx 3 3 from (⟨by decide, rfl⟩ : kx 3 3)).1 ((show kx 3 3 from (⟨by decide, rfl⟩ : kx 3 3)).sh rfl) rfl rfl (Nat.le_of_ble_eq_true rfl) (by decide) rfl dX1_addNumber_28
    exact g_retV dX1_addNumber_31 rfl (hQ _ hBc8 (FrX.c (FrX.c FrX.rf hFc6 rfl) hFc8 rfl) )
set_option maxRecDepth 100000 in
set_option maxHeartbeats 4000000 in
theorem m_X1_addName_B10 (G : GT) (P : PH) (a1 : Int) (h_a1 : (-2147483648) ≤ a1 ∧ a1 ≤ 2147483647) (hB : BdX P) (Q : Option PV → PH → Prop) (hQ : ∀ (P1 : PH) (_ : BdX P1) (_ : FrX ([(3, 1)], [4]) P P1), Q none P1) : Ct WSX G 2 iX1_addName [vR 3, vI a1] P Q := by
  refine Ct.of (by decide) (l0 := [(0, vR 3), (1, vI a1)]) rfl (Nat.le_of_ble_eq_true rfl) ?_
  refine g_iconst dX1_addName_0 ?_
  refine g_istore_n (l1 := [(2, vI 0), (0, vR 3), (1, vI a1)]) dX1_addName_1 (by decide) rfl ?_
  have L2_0 : ∀ (n2_0 : Nat) (x2_2_0 : Int) (h_x2_2_0 : 0 ≤ x2_2_0 ∧ x2_2_0 ≤ 6) (H2_0 : PH) (hB2_0 : BdX H2_0) (hE2_0 : FrX ([(3, 1)], [4]) P H2_0) (hm2_0 : ((7 - x2_2_0) : Int).toNat < n2_0), Go WSX G 2 iX1_addName 2 [(0, vR 3), (1, vI a1), (2, vI x2_2_0)] [] H2_0 Q := by
    intro n2_0
    induction n2_0 with
    | zero => intro x2_2_0 h_x2_2_0 H2_0 hB2_0 hE2_0 hm2_0; exact absurd hm2_0 (Nat.not_lt_zero _)
    | succ n2_0 ih2_0 =>
    intro x2_2_0 h_x2_2_0 H2_0 hB2_0 hE2_0 hm2_0
    refine g_iload_n dX1_addName_2 rfl ?_
    refine g_bipush dX1_addName_3 (by decide) ?_
    refine g_icmp_ge (tgt := 32) dX1_addName_5 (by decide) ⟨by omega, by omega⟩ (by decide) (fun k42 => ?_) (fun k42 => ?_)
    · exact g_retV dX1_addName_32 rfl (hQ _ hB2_0 (FrX.c FrX.rf hE2_0 rfl) )
    · refine g_iload_n dX1_addName_8 rfl ?_
      refine g_iload_n dX1_addName_9 rfl ?_
      refine g_nI (av := [vI a1, vI x2_2_0]) (st := []) (m_X11_letterOf G H2_0 a1 x2_2_0 ⟨by omega, by omega⟩ ⟨by omega, by omega⟩ hB2_0  _ (fun rc43 hc43 => ⟨rc43, rfl, ?_⟩)) cf_X11_letterOf (fun U h => h.1) rfl (Nat.le_of_ble_eq_true rfl) (by decide) rfl dX1_addName_10
      refine g_istore_n (l1 := [(3, vI rc43), (0, vR 3), (1, vI a1), (2, vI x2_2_0)]) dX1_addName_13 (by decide) rfl ?_
      refine g_iload_n dX1_addName_14 rfl ?_
      refine g_if_le (tgt := 26) dX1_addName_15 (by decide) ⟨by omega, by omega⟩ (fun k44 => ?_) (fun k44 => ?_)
      · refine g_iinc (l1 := [(2, vI (x2_2_0 + 1)), (3, vI rc43), (0, vR 3), (1, vI a1)]) dX1_addName_26 rfl (by decide) rfl ?_
        refine g_goto (tgt := 2) dX1_addName_29 (by decide) ?_
        refine g_forget (l1 := [(0, vR 3), (1, vI a1), (2, vI (x2_2_0 + 1))]) (by intro q hq; simp only [List.mem_cons, List.not_mem_nil, or_false] at hq ⊢; rcases hq with rfl | rfl | rfl <;> simp) ?_
        exact ih2_0 (x2_2_0 + 1) ⟨by omega, by omega⟩ _ hB2_0 (FrX.c FrX.rf hE2_0 rfl) (by omega)
      · refine g_aload_n dX1_addName_18 rfl ?_
        refine g_bipush dX1_addName_19 (by decide) ?_
        refine g_iload_n dX1_addName_21 rfl ?_
        refine g_iadd dX1_addName_22 ?_
        refine g_norm (fun r45 h_r45 e_r45 => ?_)
        refine g_vV (av := [vI r45]) (o := 3) (st := []) (m_X1_add_B10 G H2_0 r45 ⟨by omega, by omega⟩ hB2_0  _ (fun Pc46 hBc46 hFc46 => ⟨rfl, ?_⟩)) cf_X1_add t_671 rfl (show kx 3 3 from (⟨by decide, rfl⟩ : kx 3 3)).1 ((show kx 3 3 from (⟨by decide, rfl⟩ : kx 3 3)).sh rfl) rfl rfl (Nat.le_of_ble_eq_true rfl) (by decide) rfl dX1_addName_23
        refine g_iinc (l1 := [(2, vI (x2_2_0 + 1)), (3, vI rc43), (0, vR 3), (1, vI a1)]) dX1_addName_26 rfl (by decide) rfl ?_
        refine g_goto (tgt := 2) dX1_addName_29 (by decide) ?_
        refine g_forget (l1 := [(0, vR 3), (1, vI a1), (2, vI (x2_2_0 + 1))]) (by intro q hq; simp only [List.mem_cons, List.not_mem_nil, or_false] at hq ⊢; rcases hq with rfl | rfl | rfl <;> simp) ?_
        exact ih2_0 (x2_2_0 + 1) ⟨by omega, by omega⟩ _ hBc46 (FrX.c (FrX.c FrX.rf hE2_0 rfl) hFc46 rfl) (by omega)
  refine g_forget (l1 := [(0, vR 3), (1, vI a1), (2, vI 0)]) (by intro q hq; simp only [List.mem_cons, List.not_mem_nil, or_false] at hq ⊢; rcases hq with rfl | rfl | rfl <;> simp) ?_
  exact L2_0 _ 0 (by decide) _ hB FrX.rf (Nat.lt_succ_self _)
set_option maxRecDepth 100000 in
set_option maxHeartbeats 4000000 in
theorem m_X1_byteAt_B16 (G : GT) (P : PH) (a1 : Int) (h_a1 : (-2147483648) ≤ a1 ∧ a1 ≤ 2147483647) (hB : BdX P) (Q : Option PV → PH → Prop) (hQ : ∀ (r : Int) (_ : (-1) ≤ r ∧ r ≤ 255), Q (some (vI r)) P) : Ct WSX G 1 iX1_byteAt [vR 1, vI a1] P Q := by
  refine Ct.of (by decide) (l0 := [(0, vR 1), (1, vI a1)]) rfl (Nat.le_of_ble_eq_true rfl) ?_
  refine g_iload_n dX1_byteAt_0 rfl ?_
  refine g_if_lt (tgt := 30) dX1_byteAt_1 (by decide) ⟨by omega, by omega⟩ (fun k1 => ?_) (fun k1 => ?_)
  · refine g_iconst dX1_byteAt_30 ?_
    exact g_retI dX1_byteAt_31 rfl (hQ (-1) (by decide) )
  · refine g_iload_n dX1_byteAt_4 rfl ?_
    refine g_aload_n dX1_byteAt_5 rfl ?_
    refine x_g1_1 (z := (P 1 1)) (⟨by decide, rfl⟩ : kx 1 1) ffX1_21 dX1_byteAt_6 rfl ?_
    have f2 := bx_1_1 (o := 1) hB (⟨by decide, rfl⟩ : kx 1 1)
    refine g_icmp_ge (tgt := 30) dX1_byteAt_9 (by decide) ⟨by omega, by omega⟩ ⟨by have q0 := bx_1_1 (o := 1) hB (⟨by decide, rfl⟩ : kx 1 1); omega, by have q0 := bx_1_1 (o := 1) hB (⟨by decide, rfl⟩ : kx 1 1); omega⟩ (fun k3 => ?_) (fun k3 => ?_)
    · refine g_iconst dX1_byteAt_30 ?_
      exact g_retI dX1_byteAt_31 rfl (hQ (-1) (by decide) )
    · refine g_iload_n dX1_byteAt_12 rfl ?_
      refine g_aload_n dX1_byteAt_13 rfl ?_
      refine x_g1_0 (n := 2) (⟨by decide, rfl⟩ : kx 1 1) ffX1_15 dX1_byteAt_14 rfl ?_
      refine x_n2 (⟨by decide, rfl⟩ : kx 2 2) dX1_byteAt_17 ?_
      refine g_icmp_ge (tgt := 30) dX1_byteAt_18 (by decide) ⟨by omega, by omega⟩ (by decide) (fun k4 => by exfalso; omega) (fun k4 => ?_)
      refine g_aload_n dX1_byteAt_21 rfl ?_
      refine x_g1_0 (n := 2) (⟨by decide, rfl⟩ : kx 1 1) ffX1_15 dX1_byteAt_22 rfl ?_
      refine g_iload_n dX1_byteAt_25 rfl ?_
      refine x_l2 (z := (P 2 a1)) (⟨by decide, rfl⟩ : kx 2 2) dX1_byteAt_26 ⟨by omega, by omega⟩ rfl ?_
      refine g_goto (tgt := 31) dX1_byteAt_27 (by decide) ?_
      exact g_retI dX1_byteAt_31 rfl (hQ (P 2 a1) ⟨by have q0 := bx_2 (o := 2) (k := a1) hB (⟨by decide, rfl⟩ : kx 2 2); omega, by have q0 := bx_2 (o := 2) (k := a1) hB (⟨by decide, rfl⟩ : kx 2 2); omega⟩ )
set_option maxRecDepth 100000 in
set_option maxHeartbeats 4000000 in
theorem m_X1_checkByte_B16 (G : GT) (P : PH) (a1 : Int) (h_a1 : (-2147483648) ≤ a1 ∧ a1 ≤ 2147483647) (hB : BdX P) (Q : Option PV → PH → Prop) (hQ : ∀ (r : Int) (_ : (-2147483648) ≤ r ∧ r ≤ 2147483647), Q (some (vI r)) P) : Ct WSX G 1 iX1_checkByte [vR 1, vI a1] P Q := by
  refine Ct.of (by decide) (l0 := [(0, vR 1), (1, vI a1)]) rfl (Nat.le_of_ble_eq_true rfl) ?_
  refine g_sipush dX1_checkByte_0 (by decide) ?_
  refine g_istore_n (l1 := [(2, vI 199), (0, vR 1), (1, vI a1)]) dX1_checkByte_3 (by decide) rfl ?_
  refine g_iconst dX1_checkByte_4 ?_
  refine g_istore_n (l1 := [(3, vI 0), (2, vI 199), (0, vR 1), (1, vI a1)]) dX1_checkByte_5 (by decide) rfl ?_
  have L6_0 : ∀ (n6_0 : Nat) (x6_3_0 : Int) (h_x6_3_0 : 0 ≤ x6_3_0 ∧ x6_3_0 ≤ 1600) (x6_2_0 : Int) (h_x6_2_0 : 0 ≤ x6_2_0 ∧ x6_2_0 ≤ 250) (hm6_0 : ((1601 - x6_3_0) : Int).toNat < n6_0), Go WSX G 1 iX1_checkByte 6 [(0, vR 1), (1, vI a1), (2, vI x6_2_0), (3, vI x6_3_0)] [] P Q := by
    intro n6_0
    induction n6_0 with
    | zero => intro x6_3_0 h_x6_3_0 x6_2_0 h_x6_2_0 hm6_0; exact absurd hm6_0 (Nat.not_lt_zero _)
    | succ n6_0 ih6_0 =>
    intro x6_3_0 h_x6_3_0 x6_2_0 h_x6_2_0 hm6_0
    refine g_iload_n dX1_checkByte_6 rfl ?_
    refine g_iload_n dX1_checkByte_7 rfl ?_
    refine g_icmp_ge (tgt := 41) dX1_checkByte_8 (by decide) ⟨by omega, by omega⟩ ⟨by omega, by omega⟩ (fun k50 => ?_) (fun k50 => ?_)
    · refine g_iload_n dX1_checkByte_41 rfl ?_
      exact g_retI dX1_checkByte_42 rfl (hQ x6_2_0 ⟨by omega, by omega⟩ )
    · refine g_iload_n dX1_checkByte_11 rfl ?_
      refine g_aload_n dX1_checkByte_12 rfl ?_
      refine x_g1_0 (n := 2) (⟨by decide, rfl⟩ : kx 1 1) ffX1_15 dX1_checkByte_13 rfl ?_
      refine x_n2 (⟨by decide, rfl⟩ : kx 2 2) dX1_checkByte_16 ?_
      refine g_icmp_ge (tgt := 41) dX1_checkByte_17 (by decide) ⟨by omega, by omega⟩ (by decide) (fun k51 => ?_) (fun k51 => ?_)
      · refine g_iload_n dX1_checkByte_41 rfl ?_
        exact g_retI dX1_checkByte_42 rfl (hQ x6_2_0 ⟨by omega, by omega⟩ )
      · refine g_iconst dX1_checkByte_20 ?_
        refine g_iload_n dX1_checkByte_21 rfl ?_
        refine g_imul dX1_checkByte_22 ?_
        refine g_aload_n dX1_checkByte_23 rfl ?_
        refine x_g1_0 (n := 2) (⟨by decide, rfl⟩ : kx 1 1) ffX1_15 dX1_checkByte_24 rfl ?_
        refine g_iload_n dX1_checkByte_27 rfl ?_
        refine x_l2 (z := (P 2 x6_3_0)) (⟨by decide, rfl⟩ : kx 2 2) dX1_checkByte_28 ⟨by omega, by omega⟩ rfl ?_
        refine g_iadd dX1_checkByte_29 ?_
        refine g_sipush dX1_checkByte_30 (by decide) ?_
        refine g_irem dX1_checkByte_33 ⟨(by decide), by decide⟩ ?_
        refine g_nm (fun b52 e_b52 => ?_)
        have h_b52 := irem_b (x := ((5 * x6_2_0) + (P 2 x6_3_0))) (y := 251) ⟨by have q0 := bx_2 (o := 2) (k := x6_3_0) hB (⟨by decide, rfl⟩ : kx 2 2); omega, by have q0 := bx_2 (o := 2) (k := x6_3_0) hB (⟨by decide, rfl⟩ : kx 2 2); omega⟩ ⟨by omega, by omega⟩
        rw [← e_b52] at h_b52
        have f_b52_0 := bx_2 (o := 2) (k := x6_3_0) hB (⟨by decide, rfl⟩ : kx 2 2)
        refine g_istore_n (l1 := [(2, vI b52), (0, vR 1), (1, vI a1), (3, vI x6_3_0)]) dX1_checkByte_34 (by decide) rfl ?_
        refine g_iinc (l1 := [(3, vI (x6_3_0 + 1)), (2, vI b52), (0, vR 1), (1, vI a1)]) dX1_checkByte_35 rfl (by decide) rfl ?_
        refine g_goto (tgt := 6) dX1_checkByte_38 (by decide) ?_
        refine g_forget (l1 := [(0, vR 1), (1, vI a1), (2, vI b52), (3, vI (x6_3_0 + 1))]) (by intro q hq; simp only [List.mem_cons, List.not_mem_nil, or_false] at hq ⊢; rcases hq with rfl | rfl | rfl | rfl <;> simp) ?_
        exact ih6_0 (x6_3_0 + 1) ⟨by omega, by omega⟩ b52 ⟨by omega, by omega⟩ (by omega)
  refine g_forget (l1 := [(0, vR 1), (1, vI a1), (2, vI 199), (3, vI 0)]) (by intro q hq; simp only [List.mem_cons, List.not_mem_nil, or_false] at hq ⊢; rcases hq with rfl | rfl | rfl | rfl <;> simp) ?_
  exact L6_0 _ 0 (by decide) 199 (by decide) (Nat.lt_succ_self _)
set_option maxRecDepth 100000 in
set_option maxHeartbeats 4000000 in
theorem m_X1_byteAt_B10 (G : GT) (P : PH) (a1 : Int) (h_a1 : (-2147483648) ≤ a1 ∧ a1 ≤ 2147483647) (hB : BdX P) (Q : Option PV → PH → Prop) (hQ : ∀ (r : Int) (_ : (-1) ≤ r ∧ r ≤ 255), Q (some (vI r)) P) : Ct WSX G 1 iX1_byteAt [vR 3, vI a1] P Q := by
  refine Ct.of (by decide) (l0 := [(0, vR 3), (1, vI a1)]) rfl (Nat.le_of_ble_eq_true rfl) ?_
  refine g_iload_n dX1_byteAt_0 rfl ?_
  refine g_if_lt (tgt := 30) dX1_byteAt_1 (by decide) ⟨by omega, by omega⟩ (fun k1 => ?_) (fun k1 => ?_)
  · refine g_iconst dX1_byteAt_30 ?_
    exact g_retI dX1_byteAt_31 rfl (hQ (-1) (by decide) )
  · refine g_iload_n dX1_byteAt_4 rfl ?_
    refine g_aload_n dX1_byteAt_5 rfl ?_
    refine x_g3_1 (z := (P 3 1)) (⟨by decide, rfl⟩ : kx 3 3) ffX1_21 dX1_byteAt_6 rfl ?_
    have f2 := bx_3_1 (o := 3) hB (⟨by decide, rfl⟩ : kx 3 3)
    refine g_icmp_ge (tgt := 30) dX1_byteAt_9 (by decide) ⟨by omega, by omega⟩ ⟨by have q0 := bx_3_1 (o := 3) hB (⟨by decide, rfl⟩ : kx 3 3); omega, by have q0 := bx_3_1 (o := 3) hB (⟨by decide, rfl⟩ : kx 3 3); omega⟩ (fun k3 => ?_) (fun k3 => ?_)
    · refine g_iconst dX1_byteAt_30 ?_
      exact g_retI dX1_byteAt_31 rfl (hQ (-1) (by decide) )
    · refine g_iload_n dX1_byteAt_12 rfl ?_
      refine g_aload_n dX1_byteAt_13 rfl ?_
      refine x_g3_0 (n := 4) (⟨by decide, rfl⟩ : kx 3 3) ffX1_15 dX1_byteAt_14 rfl ?_
      refine x_n4 (⟨by decide, rfl⟩ : kx 4 4) dX1_byteAt_17 ?_
      refine g_icmp_ge (tgt := 30) dX1_byteAt_18 (by decide) ⟨by omega, by omega⟩ (by decide) (fun k4 => by exfalso; omega) (fun k4 => ?_)
      refine g_aload_n dX1_byteAt_21 rfl ?_
      refine x_g3_0 (n := 4) (⟨by decide, rfl⟩ : kx 3 3) ffX1_15 dX1_byteAt_22 rfl ?_
      refine g_iload_n dX1_byteAt_25 rfl ?_
      refine x_l4 (z := (P 4 a1)) (⟨by decide, rfl⟩ : kx 4 4) dX1_byteAt_26 ⟨by omega, by omega⟩ rfl ?_
      refine g_goto (tgt := 31) dX1_byteAt_27 (by decide) ?_
      exact g_retI dX1_byteAt_31 rfl (hQ (P 4 a1) ⟨by have q0 := bx_4 (o := 4) (k := a1) hB (⟨by decide, rfl⟩ : kx 4 4); omega, by have q0 := bx_4 (o := 4) (k := a1) hB (⟨by decide, rfl⟩ : kx 4 4); omega⟩ )
set_option maxRecDepth 100000 in
set_option maxHeartbeats 4000000 in
theorem m_X1_checkByte_B10 (G : GT) (P : PH) (a1 : Int) (h_a1 : (-2147483648) ≤ a1 ∧ a1 ≤ 2147483647) (hB : BdX P) (Q : Option PV → PH → Prop) (hQ : ∀ (r : Int) (_ : (-2147483648) ≤ r ∧ r ≤ 2147483647), Q (some (vI r)) P) : Ct WSX G 1 iX1_checkByte [vR 3, vI a1] P Q := by
  refine Ct.of (by decide) (l0 := [(0, vR 3), (1, vI a1)]) rfl (Nat.le_of_ble_eq_true rfl) ?_
  refine g_sipush dX1_checkByte_0 (by decide) ?_
  refine g_istore_n (l1 := [(2, vI 199), (0, vR 3), (1, vI a1)]) dX1_checkByte_3 (by decide) rfl ?_
  refine g_iconst dX1_checkByte_4 ?_
  refine g_istore_n (l1 := [(3, vI 0), (2, vI 199), (0, vR 3), (1, vI a1)]) dX1_checkByte_5 (by decide) rfl ?_
  have L6_0 : ∀ (n6_0 : Nat) (x6_3_0 : Int) (h_x6_3_0 : 0 ≤ x6_3_0 ∧ x6_3_0 ≤ 1024) (x6_2_0 : Int) (h_x6_2_0 : 0 ≤ x6_2_0 ∧ x6_2_0 ≤ 250) (hm6_0 : ((1025 - x6_3_0) : Int).toNat < n6_0), Go WSX G 1 iX1_checkByte 6 [(0, vR 3), (1, vI a1), (2, vI x6_2_0), (3, vI x6_3_0)] [] P Q := by
    intro n6_0
    induction n6_0 with
    | zero => intro x6_3_0 h_x6_3_0 x6_2_0 h_x6_2_0 hm6_0; exact absurd hm6_0 (Nat.not_lt_zero _)
    | succ n6_0 ih6_0 =>
    intro x6_3_0 h_x6_3_0 x6_2_0 h_x6_2_0 hm6_0
    refine g_iload_n dX1_checkByte_6 rfl ?_
    refine g_iload_n dX1_checkByte_7 rfl ?_
    refine g_icmp_ge (tgt := 41) dX1_checkByte_8 (by decide) ⟨by omega, by omega⟩ ⟨by omega, by omega⟩ (fun k47 => ?_) (fun k47 => ?_)
    · refine g_iload_n dX1_checkByte_41 rfl ?_
      exact g_retI dX1_checkByte_42 rfl (hQ x6_2_0 ⟨by omega, by omega⟩ )
    · refine g_iload_n dX1_checkByte_11 rfl ?_
      refine g_aload_n dX1_checkByte_12 rfl ?_
      refine x_g3_0 (n := 4) (⟨by decide, rfl⟩ : kx 3 3) ffX1_15 dX1_checkByte_13 rfl ?_
      refine x_n4 (⟨by decide, rfl⟩ : kx 4 4) dX1_checkByte_16 ?_
      refine g_icmp_ge (tgt := 41) dX1_checkByte_17 (by decide) ⟨by omega, by omega⟩ (by decide) (fun k48 => ?_) (fun k48 => ?_)
      · refine g_iload_n dX1_checkByte_41 rfl ?_
        exact g_retI dX1_checkByte_42 rfl (hQ x6_2_0 ⟨by omega, by omega⟩ )
      · refine g_iconst dX1_checkByte_20 ?_
        refine g_iload_n dX1_checkByte_21 rfl ?_
        refine g_imul dX1_checkByte_22 ?_
        refine g_aload_n dX1_checkByte_23 rfl ?_
        refine x_g3_0 (n := 4) (⟨by decide, rfl⟩ : kx 3 3) ffX1_15 dX1_checkByte_24 rfl ?_
        refine g_iload_n dX1_checkByte_27 rfl ?_
        refine x_l4 (z := (P 4 x6_3_0)) (⟨by decide, rfl⟩ : kx 4 4) dX1_checkByte_28 ⟨by omega, by omega⟩ rfl ?_
        refine g_iadd dX1_checkByte_29 ?_
        refine g_sipush dX1_checkByte_30 (by decide) ?_
        refine g_irem dX1_checkByte_33 ⟨(by decide), by decide⟩ ?_
        refine g_nm (fun b49 e_b49 => ?_)
        have h_b49 := irem_b (x := ((5 * x6_2_0) + (P 4 x6_3_0))) (y := 251) ⟨by have q0 := bx_4 (o := 4) (k := x6_3_0) hB (⟨by decide, rfl⟩ : kx 4 4); omega, by have q0 := bx_4 (o := 4) (k := x6_3_0) hB (⟨by decide, rfl⟩ : kx 4 4); omega⟩ ⟨by omega, by omega⟩
        rw [← e_b49] at h_b49
        have f_b49_0 := bx_4 (o := 4) (k := x6_3_0) hB (⟨by decide, rfl⟩ : kx 4 4)
        refine g_istore_n (l1 := [(2, vI b49), (0, vR 3), (1, vI a1), (3, vI x6_3_0)]) dX1_checkByte_34 (by decide) rfl ?_
        refine g_iinc (l1 := [(3, vI (x6_3_0 + 1)), (2, vI b49), (0, vR 3), (1, vI a1)]) dX1_checkByte_35 rfl (by decide) rfl ?_
        refine g_goto (tgt := 6) dX1_checkByte_38 (by decide) ?_
        refine g_forget (l1 := [(0, vR 3), (1, vI a1), (2, vI b49), (3, vI (x6_3_0 + 1))]) (by intro q hq; simp only [List.mem_cons, List.not_mem_nil, or_false] at hq ⊢; rcases hq with rfl | rfl | rfl | rfl <;> simp) ?_
        exact ih6_0 (x6_3_0 + 1) ⟨by omega, by omega⟩ b49 ⟨by omega, by omega⟩ (by omega)
  refine g_forget (l1 := [(0, vR 3), (1, vI a1), (2, vI 199), (3, vI 0)]) (by intro q hq; simp only [List.mem_cons, List.not_mem_nil, or_false] at hq ⊢; rcases hq with rfl | rfl | rfl | rfl <;> simp) ?_
  exact L6_0 _ 0 (by decide) 199 (by decide) (Nat.lt_succ_self _)
set_option maxRecDepth 100000 in
set_option maxHeartbeats 4000000 in
theorem m_X4_renew (G : GT) (P : PH) (hB : BdX P) (Q : Option PV → PH → Prop) (hQ : ∀ (P1 : PH) (_ : BdX P1) (_ : FrX ([(5, 2)], []) P P1), Q none P1) : Ct WSX G 1 iX4_renew [vR 5] P Q := by
  refine Ct.of (by decide) (l0 := [(0, vR 5)]) rfl (Nat.le_of_ble_eq_true rfl) ?_
  refine g_aload_n dX4_renew_0 rfl ?_
  refine g_dup dX4_renew_1 rfl ?_
  refine x_g5_2 (z := (P 5 2)) (⟨by decide, rfl⟩ : kx 5 5) ffX4_18 dX4_renew_2 rfl ?_
  refine g_iconst dX4_renew_5 ?_
  refine g_iadd dX4_renew_6 ?_
  refine g_norm (fun r1 h_r1 e_r1 => ?_)
  refine x_p5_2 (⟨by decide, rfl⟩ : kx 5 5) pfX4_18 dX4_renew_7 ?_
  have hB2 := by_5_2 (z := r1) hB (⟨by decide, rfl⟩ : kx 5 5) ⟨by omega, by omega⟩
  exact g_retV dX4_renew_10 rfl (hQ _ hB2 (FrX.s FrX.rf (⟨by decide, rfl⟩ : kx 5 5) rfl) )
set_option maxRecDepth 100000 in
set_option maxHeartbeats 4000000 in
theorem m_X4_isNew (G : GT) (P : PH) (a1 : Int) (h_a1 : (-2147483648) ≤ a1 ∧ a1 ≤ 2147483647) (hB : BdX P) (Q : Option PV → PH → Prop) (hQ : ∀ (r : Int) (_ : 0 ≤ r ∧ r ≤ 1) (P1 : PH) (_ : BdX P1) (_ : FrX ([], [6]) P P1) (_ : r = 0 ∨ (0 ≤ a1 ∧ a1 ≤ 4095)), Q (some (vI r)) P1) : Ct WSX G 1 iX4_isNew [vR 5, vI a1] P Q := by
  refine Ct.of (by decide) (l0 := [(0, vR 5), (1, vI a1)]) rfl (Nat.le_of_ble_eq_true rfl) ?_
  refine g_iload_n dX4_isNew_0 rfl ?_
  refine g_if_lt (tgt := 24) dX4_isNew_1 (by decide) ⟨by omega, by omega⟩ (fun k1 => ?_) (fun k1 => ?_)
  · refine g_iconst dX4_isNew_24 ?_
    exact g_retZ dX4_isNew_25 rfl (by decide) (hQ 0 (by decide) _ hB FrX.rf (by omega))
  · refine g_iload_n dX4_isNew_4 rfl ?_
    refine g_sipush dX4_isNew_5 (by decide) ?_
    refine g_icmp_ge (tgt := 24) dX4_isNew_8 (by decide) ⟨by omega, by omega⟩ (by decide) (fun k2 => ?_) (fun k2 => ?_)
    · refine g_iconst dX4_isNew_24 ?_
      exact g_retZ dX4_isNew_25 rfl (by decide) (hQ 0 (by decide) _ hB FrX.rf (by omega))
    · refine g_aload_n dX4_isNew_11 rfl ?_
      refine x_g5_0 (n := 6) (⟨by decide, rfl⟩ : kx 5 5) ffX4_9 dX4_isNew_12 rfl ?_
      refine g_iload_n dX4_isNew_15 rfl ?_
      refine x_l6 (z := (P 6 a1)) (⟨by decide, rfl⟩ : kx 6 6) dX4_isNew_16 ⟨by omega, by omega⟩ rfl ?_
      refine g_aload_n dX4_isNew_17 rfl ?_
      refine x_g5_2 (z := (P 5 2)) (⟨by decide, rfl⟩ : kx 5 5) ffX4_18 dX4_isNew_18 rfl ?_
      have f3 := bx_6 (o := 6) (k := a1) hB (⟨by decide, rfl⟩ : kx 6 6)
      have f4 := bx_5_2 (o := 5) hB (⟨by decide, rfl⟩ : kx 5 5)
      refine g_icmp_ne (tgt := 26) dX4_isNew_21 (by decide) ⟨by have q0 := bx_6 (o := 6) (k := a1) hB (⟨by decide, rfl⟩ : kx 6 6); omega, by have q0 := bx_6 (o := 6) (k := a1) hB (⟨by decide, rfl⟩ : kx 6 6); omega⟩ ⟨by have q0 := bx_5_2 (o := 5) hB (⟨by decide, rfl⟩ : kx 5 5); omega, by have q0 := bx_5_2 (o := 5) hB (⟨by decide, rfl⟩ : kx 5 5); omega⟩ (fun k5 => ?_) (fun k5 => ?_)
      · refine g_aload_n dX4_isNew_26 rfl ?_
        refine x_g5_0 (n := 6) (⟨by decide, rfl⟩ : kx 5 5) ffX4_9 dX4_isNew_27 rfl ?_
        refine g_iload_n dX4_isNew_30 rfl ?_
        refine g_aload_n dX4_isNew_31 rfl ?_
        refine x_g5_2 (z := (P 5 2)) (⟨by decide, rfl⟩ : kx 5 5) ffX4_18 dX4_isNew_32 rfl ?_
        refine x_s6 (⟨by decide, rfl⟩ : kx 6 6) dX4_isNew_35 ⟨by omega, by omega⟩ ?_
        have hB6 := by_6 (z := (P 5 2)) (k := a1) hB (⟨by decide, rfl⟩ : kx 6 6) ⟨by have q0 := bx_5_2 (o := 5) hB (⟨by decide, rfl⟩ : kx 5 5); omega, by have q0 := bx_5_2 (o := 5) hB (⟨by decide, rfl⟩ : kx 5 5); omega⟩
        refine g_iconst dX4_isNew_36 ?_
        exact g_retZ dX4_isNew_37 rfl (by decide) (hQ 1 (by decide) _ hB6 (FrX.s FrX.rf (⟨by decide, rfl⟩ : kx 6 6) rfl) (by omega))
      · refine g_iconst dX4_isNew_24 ?_
        exact g_retZ dX4_isNew_25 rfl (by decide) (hQ 0 (by decide) _ hB FrX.rf (by omega))
set_option maxRecDepth 100000 in
set_option maxHeartbeats 4000000 in
theorem m_X2_begin_G4 (G : GT) (P : PH) (o0 : Nat) (k_o0 : kx o0 8) (hB : BdX P) (Q : Option PV → PH → Prop) (hQ : ∀ (P1 : PH) (_ : BdX P1) (_ : FrX ([(5, 2), (8, 3)], []) P P1), Q none P1) : Ct WSX G 2 iX2_begin [vR o0] P Q := by
  refine Ct.of (by decide) (l0 := [(0, vR o0)]) rfl (Nat.le_of_ble_eq_true rfl) ?_
  refine g_aload_n dX2_begin_0 rfl ?_
  refine g_iconst dX2_begin_1 ?_
  refine x_p8_3 k_o0 pfX2_28 dX2_begin_2 ?_
  have hB1 := by_8_3 (z := 0) hB k_o0 (by decide)
  refine g_aload_n dX2_begin_5 rfl ?_
  refine x_g8_2 (n := 5) k_o0 ffX2_24 dX2_begin_6 (cq_8_2 k_o0) ?_
  refine g_vV (av := []) (o := 5) (st := []) (m_X4_renew G (up P o0 3 0)  hB1  _ (fun Pc2 hBc2 hFc2 => ⟨rfl, ?_⟩)) cf_X4_renew t_873 rfl (show kx 5 5 from (⟨by decide, rfl⟩ : kx 5 5)).1 ((show kx 5 5 from (⟨by decide, rfl⟩ : kx 5 5)).sh rfl) rfl rfl (Nat.le_of_ble_eq_true rfl) (by decide) rfl dX2_begin_9
  exact g_retV dX2_begin_12 rfl (hQ _ hBc2 (FrX.c (FrX.s FrX.rf k_o0 rfl) hFc2 rfl) )
set_option maxRecDepth 100000 in
set_option maxHeartbeats 4000000 in
theorem m_X2_add_G4 (G : GT) (P : PH) (o0 : Nat) (a1 : Int) (a2 : Int) (k_o0 : kx o0 8) (h_a1 : (-2147483648) ≤ a1 ∧ a1 ≤ 2147483647) (h_a2 : (-2147483648) ≤ a2 ∧ a2 ≤ 2147483647) (hB : BdX P) (Q : Option PV → PH → Prop) (hQ : ∀ (P1 : PH) (_ : BdX P1) (_ : FrX ([(8, 3)], [6, 7, 9, 10]) P P1), Q none P1) : Ct WSX G 2 iX2_add [vR o0, vI a1, vI a2] P Q := by
  refine Ct.of (by decide) (l0 := [(0, vR o0), (1, vI a1), (2, vI a2)]) rfl (Nat.le_of_ble_eq_true rfl) ?_
  refine g_iload_n dX2_add_0 rfl ?_
  refine g_if_lt (tgt := 11) dX2_add_1 (by decide) ⟨by omega, by omega⟩ (fun k1 => ?_) (fun k1 => ?_)
  · exact g_retV dX2_add_11 rfl (hQ _ hB FrX.rf )
  · refine g_iload_n dX2_add_4 rfl ?_
    refine g_sipush dX2_add_5 (by decide) ?_
    refine g_icmp_lt (tgt := 12) dX2_add_8 (by decide) ⟨by omega, by omega⟩ (by decide) (fun k2 => ?_) (fun k2 => ?_)
    · refine g_aload_n dX2_add_12 rfl ?_
      refine x_g8_2 (n := 5) k_o0 ffX2_24 dX2_add_13 (cq_8_2 k_o0) ?_
      refine g_iload_n dX2_add_16 rfl ?_
      refine g_vI (av := [vI a1]) (o := 5) (st := []) (m_X4_isNew G P a1 ⟨by omega, by omega⟩ hB  _ (fun rc3 hc3 Pc3 hBc3 hFc3 gc3_n => ⟨rc3, rfl, ?_⟩)) cf_X4_isNew t_885 rfl (show kx 5 5 from (⟨by decide, rfl⟩ : kx 5 5)).1 ((show kx 5 5 from (⟨by decide, rfl⟩ : kx 5 5)).sh rfl) rfl rfl (Nat.le_of_ble_eq_true rfl) (by decide) rfl dX2_add_17
      refine g_if_eq (tgt := 79) dX2_add_20 (by decide) ⟨by omega, by omega⟩ (fun k4 => ?_) (fun k4 => ?_)
      · refine g_aload_n dX2_add_79 rfl ?_
        refine x_g8_2 (n := 5) k_o0 ffX2_24 dX2_add_80 (cq_8_2 k_o0) ?_
        refine x_g5_1 (n := 7) (⟨by decide, rfl⟩ : kx 5 5) ffX2_41 dX2_add_83 rfl ?_
        refine g_iload_n dX2_add_86 rfl ?_
        refine x_l7 (z := (P 7 a1)) (⟨by decide, rfl⟩ : kx 7 7) dX2_add_87 ⟨by omega, by omega⟩ ((FrX.g hFc3 (⟨by decide, rfl⟩ : kx 7 7) rfl).trans rfl) ?_
        refine g_istore_n (l1 := [(3, vI (P 7 a1)), (0, vR o0), (1, vI a1), (2, vI a2)]) dX2_add_88 (by decide) rfl ?_
        refine g_iload_n dX2_add_89 rfl ?_
        have f5 := bx_7 (o := 7) (k := a1) hB (⟨by decide, rfl⟩ : kx 7 7)
        refine g_if_lt (tgt := 111) dX2_add_90 (by decide) ⟨by have q0 := bx_7 (o := 7) (k := a1) hB (⟨by decide, rfl⟩ : kx 7 7); omega, by have q0 := bx_7 (o := 7) (k := a1) hB (⟨by decide, rfl⟩ : kx 7 7); omega⟩ (fun k6 => ?_) (fun k6 => ?_)
        · exact g_retV dX2_add_111 rfl (hQ _ hBc3 (FrX.c FrX.rf hFc3 rfl) )
        · refine g_iload_n dX2_add_93 rfl ?_
          refine g_aload_n dX2_add_94 rfl ?_
          refine x_g8_3 (z := (P o0 3)) k_o0 ffX2_28 dX2_add_95 ((FrX.g hFc3 k_o0 rfl).trans rfl) ?_
          have f7 := bx_8_3 (o := o0) hB k_o0
          refine g_icmp_ge (tgt := 111) dX2_add_98 (by decide) ⟨by have q0 := bx_7 (o := 7) (k := a1) hB (⟨by decide, rfl⟩ : kx 7 7); omega, by have q0 := bx_7 (o := 7) (k := a1) hB (⟨by decide, rfl⟩ : kx 7 7); omega⟩ ⟨by have q0 := bx_8_3 (o := o0) hB k_o0; omega, by have q0 := bx_8_3 (o := o0) hB k_o0; omega⟩ (fun k8 => ?_) (fun k8 => ?_)
          · exact g_retV dX2_add_111 rfl (hQ _ hBc3 (FrX.c FrX.rf hFc3 rfl) )
          · refine g_aload_n dX2_add_101 rfl ?_
            refine x_g8_1 (n := (crX o0 1)) k_o0 ffX2_21 dX2_add_102 rfl ?_
            refine g_iload_n dX2_add_105 rfl ?_
            refine g_dup2 dX2_add_106 rfl rfl ?_
            refine x_l10 (z := (P (crX o0 1) (P 7 a1))) (ck_8_1 k_o0) dX2_add_107 ⟨by have q0 := bx_7 (o := 7) (k := a1) hB (⟨by decide, rfl⟩ : kx 7 7); omega, by have q0 := bx_7 (o := 7) (k := a1) hB (⟨by decide, rfl⟩ : kx 7 7); omega⟩ ((FrX.g hFc3 (ck_8_1 k_o0) rfl).trans rfl) ?_
            refine g_iload_n dX2_add_108 rfl ?_
            refine g_iadd dX2_add_109 ?_
            refine g_norm (fun r9 h_r9 e_r9 => ?_)
            refine x_s10 (ck_8_1 k_o0) dX2_add_110 ⟨by have q0 := bx_7 (o := 7) (k := a1) hB (⟨by decide, rfl⟩ : kx 7 7); omega, by have q0 := bx_7 (o := 7) (k := a1) hB (⟨by decide, rfl⟩ : kx 7 7); omega⟩ ?_
            have hB10 := by_10 (z := r9) (k := (P 7 a1)) hBc3 (ck_8_1 k_o0) ⟨by omega, by omega⟩
            exact g_retV dX2_add_111 rfl (hQ _ hB10 (FrX.s (FrX.c FrX.rf hFc3 rfl) (ck_8_1 k_o0) rfl) )
      · refine g_aload_n dX2_add_23 rfl ?_
        refine x_g8_3 (z := (P o0 3)) k_o0 ffX2_28 dX2_add_24 ((FrX.g hFc3 k_o0 rfl).trans rfl) ?_
        refine g_aload_n dX2_add_27 rfl ?_
        refine x_g8_0 (n := (crX o0 0)) k_o0 ffX2_15 dX2_add_28 rfl ?_
        refine x_n9 (ck_8_0 k_o0) dX2_add_31 ?_
        have f11 := bx_8_3 (o := o0) hB k_o0
        refine g_icmp_ge (tgt := 78) dX2_add_32 (by decide) ⟨by have q0 := bx_8_3 (o := o0) hB k_o0; omega, by have q0 := bx_8_3 (o := o0) hB k_o0; omega⟩ (by decide) (fun k12 => ?_) (fun k12 => ?_)
        · exact g_retV dX2_add_78 rfl (hQ _ hBc3 (FrX.c FrX.rf hFc3 rfl) )
        · refine g_aload_n dX2_add_35 rfl ?_
          refine x_g8_2 (n := 5) k_o0 ffX2_24 dX2_add_36 (cq_8_2 k_o0) ?_
          refine x_g5_1 (n := 7) (⟨by decide, rfl⟩ : kx 5 5) ffX2_41 dX2_add_39 rfl ?_
          refine g_iload_n dX2_add_42 rfl ?_
          refine g_aload_n dX2_add_43 rfl ?_
          refine x_g8_3 (z := (P o0 3)) k_o0 ffX2_28 dX2_add_44 ((FrX.g hFc3 k_o0 rfl).trans rfl) ?_
          refine x_s7 (⟨by decide, rfl⟩ : kx 7 7) dX2_add_47 ⟨by omega, by omega⟩ ?_
          have hB13 := by_7 (z := (P o0 3)) (k := a1) hBc3 (⟨by decide, rfl⟩ : kx 7 7) ⟨by have q0 := bx_8_3 (o := o0) hB k_o0; omega, by have q0 := bx_8_3 (o := o0) hB k_o0; omega⟩
          refine g_aload_n dX2_add_48 rfl ?_
          refine x_g8_0 (n := (crX o0 0)) k_o0 ffX2_15 dX2_add_49 rfl ?_
          refine g_aload_n dX2_add_52 rfl ?_
          refine x_g8_3 (z := (P o0 3)) k_o0 ffX2_28 dX2_add_53 ((up_o (kx.ne k_o0 (⟨by decide, rfl⟩ : kx 7 7) rfl)).trans ((FrX.g hFc3 k_o0 rfl).trans rfl)) ?_
          refine g_iload_n dX2_add_56 rfl ?_
          refine x_s9 (ck_8_0 k_o0) dX2_add_57 ⟨by have q0 := bx_8_3 (o := o0) hB k_o0; omega, by have q0 := bx_8_3 (o := o0) hB k_o0; omega⟩ ?_
          have hB14 := by_9 (z := a1) (k := (P o0 3)) hB13 (ck_8_0 k_o0) ⟨by omega, by omega⟩
          refine g_aload_n dX2_add_58 rfl ?_
          refine x_g8_1 (n := (crX o0 1)) k_o0 ffX2_21 dX2_add_59 rfl ?_
          refine g_aload_n dX2_add_62 rfl ?_
          refine x_g8_3 (z := (P o0 3)) k_o0 ffX2_28 dX2_add_63 ((up_o (kx.ne k_o0 (ck_8_0 k_o0) rfl)).trans ((up_o (kx.ne k_o0 (⟨by decide, rfl⟩ : kx 7 7) rfl)).trans ((FrX.g hFc3 k_o0 rfl).trans rfl))) ?_
          refine g_iload_n dX2_add_66 rfl ?_
          refine x_s10 (ck_8_1 k_o0) dX2_add_67 ⟨by have q0 := bx_8_3 (o := o0) hB k_o0; omega, by have q0 := bx_8_3 (o := o0) hB k_o0; omega⟩ ?_
          have hB15 := by_10 (z := a2) (k := (P o0 3)) hB14 (ck_8_1 k_o0) ⟨by omega, by omega⟩
          refine g_aload_n dX2_add_68 rfl ?_
          refine g_dup dX2_add_69 rfl ?_
          refine x_g8_3 (z := (P o0 3)) k_o0 ffX2_28 dX2_add_70 ((up_o (kx.ne k_o0 (ck_8_1 k_o0) rfl)).trans ((up_o (kx.ne k_o0 (ck_8_0 k_o0) rfl)).trans ((up_o (kx.ne k_o0 (⟨by decide, rfl⟩ : kx 7 7) rfl)).trans ((FrX.g hFc3 k_o0 rfl).trans rfl)))) ?_
          refine g_iconst dX2_add_73 ?_
          refine g_iadd dX2_add_74 ?_
          refine x_p8_3 k_o0 pfX2_28 dX2_add_75 ?_
          have hB16 := by_8_3 (z := ((P o0 3) + 1)) hB15 k_o0 ⟨by have q0 := bx_8_3 (o := o0) hB k_o0; omega, by have q0 := bx_8_3 (o := o0) hB k_o0; omega⟩
          exact g_retV dX2_add_78 rfl (hQ _ hB16 (FrX.s (FrX.s (FrX.s (FrX.s (FrX.c FrX.rf hFc3 rfl) (⟨by decide, rfl⟩ : kx 7 7) rfl) (ck_8_0 k_o0) rfl) (ck_8_1 k_o0) rfl) k_o0 rfl) )
    · exact g_retV dX2_add_11 rfl (hQ _ hB FrX.rf )
set_option maxRecDepth 100000 in
set_option maxHeartbeats 4000000 in
theorem m_X2_begin_G2 (G : GT) (P : PH) (o0 : Nat) (k_o0 : kx o0 11) (hB : BdX P) (Q : Option PV → PH → Prop) (hQ : ∀ (P1 : PH) (_ : BdX P1) (_ : FrX ([(5, 2), (11, 3)], []) P P1), Q none P1) : Ct WSX G 2 iX2_begin [vR o0] P Q := by
  refine Ct.of (by decide) (l0 := [(0, vR o0)]) rfl (Nat.le_of_ble_eq_true rfl) ?_
  refine g_aload_n dX2_begin_0 rfl ?_
  refine g_iconst dX2_begin_1 ?_
  refine x_p11_3 k_o0 pfX2_28 dX2_begin_2 ?_
  have hB1 := by_11_3 (z := 0) hB k_o0 (by decide)
  refine g_aload_n dX2_begin_5 rfl ?_
  refine x_g11_2 (n := 5) k_o0 ffX2_24 dX2_begin_6 (cq_11_2 k_o0) ?_
  refine g_vV (av := []) (o := 5) (st := []) (m_X4_renew G (up P o0 3 0)  hB1  _ (fun Pc2 hBc2 hFc2 => ⟨rfl, ?_⟩)) cf_X4_renew t_873 rfl (show kx 5 5 from (⟨by decide, rfl⟩ : kx 5 5)).1 ((show kx 5 5 from (⟨by decide, rfl⟩ : kx 5 5)).sh rfl) rfl rfl (Nat.le_of_ble_eq_true rfl) (by decide) rfl dX2_begin_9
  exact g_retV dX2_begin_12 rfl (hQ _ hBc2 (FrX.c (FrX.s FrX.rf k_o0 rfl) hFc2 rfl) )
set_option maxRecDepth 100000 in
set_option maxHeartbeats 4000000 in
theorem m_X2_add_G2 (G : GT) (P : PH) (o0 : Nat) (a1 : Int) (a2 : Int) (k_o0 : kx o0 11) (h_a1 : (-2147483648) ≤ a1 ∧ a1 ≤ 2147483647) (h_a2 : (-2147483648) ≤ a2 ∧ a2 ≤ 2147483647) (hB : BdX P) (Q : Option PV → PH → Prop) (hQ : ∀ (P1 : PH) (_ : BdX P1) (_ : FrX ([(11, 3)], [6, 7, 12, 13]) P P1), Q none P1) : Ct WSX G 2 iX2_add [vR o0, vI a1, vI a2] P Q := by
  refine Ct.of (by decide) (l0 := [(0, vR o0), (1, vI a1), (2, vI a2)]) rfl (Nat.le_of_ble_eq_true rfl) ?_
  refine g_iload_n dX2_add_0 rfl ?_
  refine g_if_lt (tgt := 11) dX2_add_1 (by decide) ⟨by omega, by omega⟩ (fun k1 => ?_) (fun k1 => ?_)
  · exact g_retV dX2_add_11 rfl (hQ _ hB FrX.rf )
  · refine g_iload_n dX2_add_4 rfl ?_
    refine g_sipush dX2_add_5 (by decide) ?_
    refine g_icmp_lt (tgt := 12) dX2_add_8 (by decide) ⟨by omega, by omega⟩ (by decide) (fun k2 => ?_) (fun k2 => ?_)
    · refine g_aload_n dX2_add_12 rfl ?_
      refine x_g11_2 (n := 5) k_o0 ffX2_24 dX2_add_13 (cq_11_2 k_o0) ?_
      refine g_iload_n dX2_add_16 rfl ?_
      refine g_vI (av := [vI a1]) (o := 5) (st := []) (m_X4_isNew G P a1 ⟨by omega, by omega⟩ hB  _ (fun rc3 hc3 Pc3 hBc3 hFc3 gc3_n => ⟨rc3, rfl, ?_⟩)) cf_X4_isNew t_885 rfl (show kx 5 5 from (⟨by decide, rfl⟩ : kx 5 5)).1 ((show kx 5 5 from (⟨by decide, rfl⟩ : kx 5 5)).sh rfl) rfl rfl (Nat.le_of_ble_eq_true rfl) (by decide) rfl dX2_add_17
      refine g_if_eq (tgt := 79) dX2_add_20 (by decide) ⟨by omega, by omega⟩ (fun k4 => ?_) (fun k4 => ?_)
      · refine g_aload_n dX2_add_79 rfl ?_
        refine x_g11_2 (n := 5) k_o0 ffX2_24 dX2_add_80 (cq_11_2 k_o0) ?_
        refine x_g5_1 (n := 7) (⟨by decide, rfl⟩ : kx 5 5) ffX2_41 dX2_add_83 rfl ?_
        refine g_iload_n dX2_add_86 rfl ?_
        refine x_l7 (z := (P 7 a1)) (⟨by decide, rfl⟩ : kx 7 7) dX2_add_87 ⟨by omega, by omega⟩ ((FrX.g hFc3 (⟨by decide, rfl⟩ : kx 7 7) rfl).trans rfl) ?_
        refine g_istore_n (l1 := [(3, vI (P 7 a1)), (0, vR o0), (1, vI a1), (2, vI a2)]) dX2_add_88 (by decide) rfl ?_
        refine g_iload_n dX2_add_89 rfl ?_
        have f5 := bx_7 (o := 7) (k := a1) hB (⟨by decide, rfl⟩ : kx 7 7)
        refine g_if_lt (tgt := 111) dX2_add_90 (by decide) ⟨by have q0 := bx_7 (o := 7) (k := a1) hB (⟨by decide, rfl⟩ : kx 7 7); omega, by have q0 := bx_7 (o := 7) (k := a1) hB (⟨by decide, rfl⟩ : kx 7 7); omega⟩ (fun k6 => ?_) (fun k6 => ?_)
        · exact g_retV dX2_add_111 rfl (hQ _ hBc3 (FrX.c FrX.rf hFc3 rfl) )
        · refine g_iload_n dX2_add_93 rfl ?_
          refine g_aload_n dX2_add_94 rfl ?_
          refine x_g11_3 (z := (P o0 3)) k_o0 ffX2_28 dX2_add_95 ((FrX.g hFc3 k_o0 rfl).trans rfl) ?_
          have f7 := bx_11_3 (o := o0) hB k_o0
          refine g_icmp_ge (tgt := 111) dX2_add_98 (by decide) ⟨by have q0 := bx_7 (o := 7) (k := a1) hB (⟨by decide, rfl⟩ : kx 7 7); omega, by have q0 := bx_7 (o := 7) (k := a1) hB (⟨by decide, rfl⟩ : kx 7 7); omega⟩ ⟨by have q0 := bx_11_3 (o := o0) hB k_o0; omega, by have q0 := bx_11_3 (o := o0) hB k_o0; omega⟩ (fun k8 => ?_) (fun k8 => ?_)
          · exact g_retV dX2_add_111 rfl (hQ _ hBc3 (FrX.c FrX.rf hFc3 rfl) )
          · refine g_aload_n dX2_add_101 rfl ?_
            refine x_g11_1 (n := (crX o0 1)) k_o0 ffX2_21 dX2_add_102 rfl ?_
            refine g_iload_n dX2_add_105 rfl ?_
            refine g_dup2 dX2_add_106 rfl rfl ?_
            refine x_l13 (z := (P (crX o0 1) (P 7 a1))) (ck_11_1 k_o0) dX2_add_107 ⟨by have q0 := bx_7 (o := 7) (k := a1) hB (⟨by decide, rfl⟩ : kx 7 7); omega, by have q0 := bx_7 (o := 7) (k := a1) hB (⟨by decide, rfl⟩ : kx 7 7); omega⟩ ((FrX.g hFc3 (ck_11_1 k_o0) rfl).trans rfl) ?_
            refine g_iload_n dX2_add_108 rfl ?_
            refine g_iadd dX2_add_109 ?_
            refine g_norm (fun r9 h_r9 e_r9 => ?_)
            refine x_s13 (ck_11_1 k_o0) dX2_add_110 ⟨by have q0 := bx_7 (o := 7) (k := a1) hB (⟨by decide, rfl⟩ : kx 7 7); omega, by have q0 := bx_7 (o := 7) (k := a1) hB (⟨by decide, rfl⟩ : kx 7 7); omega⟩ ?_
            have hB10 := by_13 (z := r9) (k := (P 7 a1)) hBc3 (ck_11_1 k_o0) ⟨by omega, by omega⟩
            exact g_retV dX2_add_111 rfl (hQ _ hB10 (FrX.s (FrX.c FrX.rf hFc3 rfl) (ck_11_1 k_o0) rfl) )
      · refine g_aload_n dX2_add_23 rfl ?_
        refine x_g11_3 (z := (P o0 3)) k_o0 ffX2_28 dX2_add_24 ((FrX.g hFc3 k_o0 rfl).trans rfl) ?_
        refine g_aload_n dX2_add_27 rfl ?_
        refine x_g11_0 (n := (crX o0 0)) k_o0 ffX2_15 dX2_add_28 rfl ?_
        refine x_n12 (ck_11_0 k_o0) dX2_add_31 ?_
        have f11 := bx_11_3 (o := o0) hB k_o0
        refine g_icmp_ge (tgt := 78) dX2_add_32 (by decide) ⟨by have q0 := bx_11_3 (o := o0) hB k_o0; omega, by have q0 := bx_11_3 (o := o0) hB k_o0; omega⟩ (by decide) (fun k12 => ?_) (fun k12 => ?_)
        · exact g_retV dX2_add_78 rfl (hQ _ hBc3 (FrX.c FrX.rf hFc3 rfl) )
        · refine g_aload_n dX2_add_35 rfl ?_
          refine x_g11_2 (n := 5) k_o0 ffX2_24 dX2_add_36 (cq_11_2 k_o0) ?_
          refine x_g5_1 (n := 7) (⟨by decide, rfl⟩ : kx 5 5) ffX2_41 dX2_add_39 rfl ?_
          refine g_iload_n dX2_add_42 rfl ?_
          refine g_aload_n dX2_add_43 rfl ?_
          refine x_g11_3 (z := (P o0 3)) k_o0 ffX2_28 dX2_add_44 ((FrX.g hFc3 k_o0 rfl).trans rfl) ?_
          refine x_s7 (⟨by decide, rfl⟩ : kx 7 7) dX2_add_47 ⟨by omega, by omega⟩ ?_
          have hB13 := by_7 (z := (P o0 3)) (k := a1) hBc3 (⟨by decide, rfl⟩ : kx 7 7) ⟨by have q0 := bx_11_3 (o := o0) hB k_o0; omega, by have q0 := bx_11_3 (o := o0) hB k_o0; omega⟩
          refine g_aload_n dX2_add_48 rfl ?_
          refine x_g11_0 (n := (crX o0 0)) k_o0 ffX2_15 dX2_add_49 rfl ?_
          refine g_aload_n dX2_add_52 rfl ?_
          refine x_g11_3 (z := (P o0 3)) k_o0 ffX2_28 dX2_add_53 ((up_o (kx.ne k_o0 (⟨by decide, rfl⟩ : kx 7 7) rfl)).trans ((FrX.g hFc3 k_o0 rfl).trans rfl)) ?_
          refine g_iload_n dX2_add_56 rfl ?_
          refine x_s12 (ck_11_0 k_o0) dX2_add_57 ⟨by have q0 := bx_11_3 (o := o0) hB k_o0; omega, by have q0 := bx_11_3 (o := o0) hB k_o0; omega⟩ ?_
          have hB14 := by_12 (z := a1) (k := (P o0 3)) hB13 (ck_11_0 k_o0) ⟨by omega, by omega⟩
          refine g_aload_n dX2_add_58 rfl ?_
          refine x_g11_1 (n := (crX o0 1)) k_o0 ffX2_21 dX2_add_59 rfl ?_
          refine g_aload_n dX2_add_62 rfl ?_
          refine x_g11_3 (z := (P o0 3)) k_o0 ffX2_28 dX2_add_63 ((up_o (kx.ne k_o0 (ck_11_0 k_o0) rfl)).trans ((up_o (kx.ne k_o0 (⟨by decide, rfl⟩ : kx 7 7) rfl)).trans ((FrX.g hFc3 k_o0 rfl).trans rfl))) ?_
          refine g_iload_n dX2_add_66 rfl ?_
          refine x_s13 (ck_11_1 k_o0) dX2_add_67 ⟨by have q0 := bx_11_3 (o := o0) hB k_o0; omega, by have q0 := bx_11_3 (o := o0) hB k_o0; omega⟩ ?_
          have hB15 := by_13 (z := a2) (k := (P o0 3)) hB14 (ck_11_1 k_o0) ⟨by omega, by omega⟩
          refine g_aload_n dX2_add_68 rfl ?_
          refine g_dup dX2_add_69 rfl ?_
          refine x_g11_3 (z := (P o0 3)) k_o0 ffX2_28 dX2_add_70 ((up_o (kx.ne k_o0 (ck_11_1 k_o0) rfl)).trans ((up_o (kx.ne k_o0 (ck_11_0 k_o0) rfl)).trans ((up_o (kx.ne k_o0 (⟨by decide, rfl⟩ : kx 7 7) rfl)).trans ((FrX.g hFc3 k_o0 rfl).trans rfl)))) ?_
          refine g_iconst dX2_add_73 ?_
          refine g_iadd dX2_add_74 ?_
          refine x_p11_3 k_o0 pfX2_28 dX2_add_75 ?_
          have hB16 := by_11_3 (z := ((P o0 3) + 1)) hB15 k_o0 ⟨by have q0 := bx_11_3 (o := o0) hB k_o0; omega, by have q0 := bx_11_3 (o := o0) hB k_o0; omega⟩
          exact g_retV dX2_add_78 rfl (hQ _ hB16 (FrX.s (FrX.s (FrX.s (FrX.s (FrX.c FrX.rf hFc3 rfl) (⟨by decide, rfl⟩ : kx 7 7) rfl) (ck_11_0 k_o0) rfl) (ck_11_1 k_o0) rfl) k_o0 rfl) )
    · exact g_retV dX2_add_11 rfl (hQ _ hB FrX.rf )
set_option maxRecDepth 100000 in
set_option maxHeartbeats 4000000 in
theorem m_X2_addParts_G2_G2 (G : GT) (P : PH) (o0 : Nat) (o1 : Nat) (a1 : Int) (k_o0 : kx o0 11) (k_o1 : kx o1 11) (h_a1 : (-2147483648) ≤ a1 ∧ a1 ≤ 2147483647) (hB : BdX P) (Q : Option PV → PH → Prop) (hQ : ∀ (P1 : PH) (_ : BdX P1) (_ : FrX ([(11, 3)], [6, 7, 12, 13]) P P1), Q none P1) : Ct WSX G 3 iX2_addParts [vR o0, vR o1, vI a1] P Q := by
  refine Ct.of (by decide) (l0 := [(0, vR o0), (1, vR o1), (2, vI a1)]) rfl (Nat.le_of_ble_eq_true rfl) ?_
  refine g_iconst dX2_addParts_0 ?_
  refine g_istore_n (l1 := [(3, vI 0), (0, vR o0), (1, vR o1), (2, vI a1)]) dX2_addParts_1 (by decide) rfl ?_
  have L2_0 : ∀ (n2_0 : Nat) (x2_3_0 : Int) (h_x2_3_0 : 0 ≤ x2_3_0 ∧ x2_3_0 ≤ 2048) (H2_0 : PH) (hB2_0 : BdX H2_0) (hE2_0 : FrX ([(11, 3)], [6, 7, 12, 13]) P H2_0) (hm2_0 : ((2049 - x2_3_0) : Int).toNat < n2_0), Go WSX G 3 iX2_addParts 2 [(0, vR o0), (1, vR o1), (2, vI a1), (3, vI x2_3_0)] [] H2_0 Q := by
    intro n2_0
    induction n2_0 with
    | zero => intro x2_3_0 h_x2_3_0 H2_0 hB2_0 hE2_0 hm2_0; exact absurd hm2_0 (Nat.not_lt_zero _)
    | succ n2_0 ih2_0 =>
    intro x2_3_0 h_x2_3_0 H2_0 hB2_0 hE2_0 hm2_0
    refine g_iload_n dX2_addParts_2 rfl ?_
    refine g_aload_n dX2_addParts_3 rfl ?_
    refine x_g11_3 (z := (H2_0 o1 3)) k_o1 ffX2_28 dX2_addParts_4 rfl ?_
    have f82 := bx_11_3 (o := o1) hB2_0 k_o1
    refine g_icmp_ge (tgt := 34) dX2_addParts_7 (by decide) ⟨by omega, by omega⟩ ⟨by have q0 := bx_11_3 (o := o1) hB2_0 k_o1; omega, by have q0 := bx_11_3 (o := o1) hB2_0 k_o1; omega⟩ (fun k83 => ?_) (fun k83 => ?_)
    · exact g_retV dX2_addParts_34 rfl (hQ _ hB2_0 (FrX.c FrX.rf hE2_0 rfl) )
    · refine g_aload_n dX2_addParts_10 rfl ?_
      refine g_aload_n dX2_addParts_11 rfl ?_
      refine x_g11_0 (n := (crX o1 0)) k_o1 ffX2_15 dX2_addParts_12 rfl ?_
      refine g_iload_n dX2_addParts_15 rfl ?_
      refine x_l12 (z := (H2_0 (crX o1 0) x2_3_0)) (ck_11_0 k_o1) dX2_addParts_16 ⟨by omega, by omega⟩ rfl ?_
      refine g_iload_n dX2_addParts_17 rfl ?_
      refine g_iand dX2_addParts_18 ?_
      refine g_nm (fun b84 e_b84 => ?_)
      have h_b84 := iand_ir (H2_0 (crX o1 0) x2_3_0) a1
      rw [← e_b84] at h_b84
      refine g_aload_n dX2_addParts_19 rfl ?_
      refine x_g11_1 (n := (crX o1 1)) k_o1 ffX2_21 dX2_addParts_20 rfl ?_
      refine g_iload_n dX2_addParts_23 rfl ?_
      refine x_l13 (z := (H2_0 (crX o1 1) x2_3_0)) (ck_11_1 k_o1) dX2_addParts_24 ⟨by omega, by omega⟩ rfl ?_
      have f85 := bx_13 (o := (crX o1 1)) (k := x2_3_0) hB2_0 (ck_11_1 k_o1)
      refine g_vV (av := [vI b84, vI (H2_0 (crX o1 1) x2_3_0)]) (o := o0) (st := []) (m_X2_add_G2 G H2_0 o0 b84 (H2_0 (crX o1 1) x2_3_0) k_o0 ⟨by omega, by omega⟩ ⟨by have q0 := bx_13 (o := (crX o1 1)) (k := x2_3_0) hB2_0 (ck_11_1 k_o1); omega, by have q0 := bx_13 (o := (crX o1 1)) (k := x2_3_0) hB2_0 (ck_11_1 k_o1); omega⟩ hB2_0  _ (fun Pc86 hBc86 hFc86 => ⟨rfl, ?_⟩)) cf_X2_add t_900 rfl (show kx o0 11 from k_o0).1 ((show kx o0 11 from k_o0).sh rfl) rfl rfl (Nat.le_of_ble_eq_true rfl) (by decide) rfl dX2_addParts_25
      refine g_iinc (l1 := [(3, vI (x2_3_0 + 1)), (0, vR o0), (1, vR o1), (2, vI a1)]) dX2_addParts_28 rfl (by decide) rfl ?_
      refine g_goto (tgt := 2) dX2_addParts_31 (by decide) ?_
      refine g_forget (l1 := [(0, vR o0), (1, vR o1), (2, vI a1), (3, vI (x2_3_0 + 1))]) (by intro q hq; simp only [List.mem_cons, List.not_mem_nil, or_false] at hq ⊢; rcases hq with rfl | rfl | rfl | rfl <;> simp) ?_
      exact ih2_0 (x2_3_0 + 1) ⟨by omega, by omega⟩ _ hBc86 (FrX.c (FrX.c FrX.rf hE2_0 rfl) hFc86 rfl) (by omega)
  refine g_forget (l1 := [(0, vR o0), (1, vR o1), (2, vI a1), (3, vI 0)]) (by intro q hq; simp only [List.mem_cons, List.not_mem_nil, or_false] at hq ⊢; rcases hq with rfl | rfl | rfl | rfl <;> simp) ?_
  exact L2_0 _ 0 (by decide) _ hB FrX.rf (Nat.lt_succ_self _)
set_option maxRecDepth 100000 in
set_option maxHeartbeats 4000000 in
theorem m_X2_addProducts_G4_G4_G2 (G : GT) (P : PH) (o0 : Nat) (o1 : Nat) (o2 : Nat) (k_o0 : kx o0 8) (k_o1 : kx o1 8) (k_o2 : kx o2 11) (hB : BdX P) (Q : Option PV → PH → Prop) (hQ : ∀ (P1 : PH) (_ : BdX P1) (_ : FrX ([(8, 3)], [6, 7, 9, 10]) P P1), Q none P1) : Ct WSX G 3 iX2_addProducts [vR o0, vR o1, vR o2] P Q := by
  refine Ct.of (by decide) (l0 := [(0, vR o0), (1, vR o1), (2, vR o2)]) rfl (Nat.le_of_ble_eq_true rfl) ?_
  refine g_iconst dX2_addProducts_0 ?_
  refine g_istore_n (l1 := [(3, vI 0), (0, vR o0), (1, vR o1), (2, vR o2)]) dX2_addProducts_1 (by decide) rfl ?_
  have L2_0 : ∀ (n2_0 : Nat) (x2_3_0 : Int) (h_x2_3_0 : 0 ≤ x2_3_0 ∧ x2_3_0 ≤ 4096) (H2_0 : PH) (hB2_0 : BdX H2_0) (hE2_0 : FrX ([(8, 3)], [6, 7, 9, 10]) P H2_0) (hm2_0 : ((4097 - x2_3_0) : Int).toNat < n2_0), Go WSX G 3 iX2_addProducts 2 [(0, vR o0), (1, vR o1), (2, vR o2), (3, vI x2_3_0)] [] H2_0 Q := by
    intro n2_0
    induction n2_0 with
    | zero => intro x2_3_0 h_x2_3_0 H2_0 hB2_0 hE2_0 hm2_0; exact absurd hm2_0 (Nat.not_lt_zero _)
    | succ n2_0 ih2_0 =>
    intro x2_3_0 h_x2_3_0 H2_0 hB2_0 hE2_0 hm2_0
    refine g_iload_n dX2_addProducts_2 rfl ?_
    refine g_aload_n dX2_addProducts_3 rfl ?_
    refine x_g8_3 (z := (H2_0 o1 3)) k_o1 ffX2_28 dX2_addProducts_4 rfl ?_
    have f1674 := bx_8_3 (o := o1) hB2_0 k_o1
    refine g_icmp_ge (tgt := 66) dX2_addProducts_7 (by decide) ⟨by omega, by omega⟩ ⟨by have q0 := bx_8_3 (o := o1) hB2_0 k_o1; omega, by have q0 := bx_8_3 (o := o1) hB2_0 k_o1; omega⟩ (fun k1675 => ?_) (fun k1675 => ?_)
    · exact g_retV dX2_addProducts_66 rfl (hQ _ hB2_0 (FrX.c FrX.rf hE2_0 rfl) )
    · refine g_iconst dX2_addProducts_10 ?_
      refine g_istore (l1 := [(4, vI 0), (0, vR o0), (1, vR o1), (2, vR o2), (3, vI x2_3_0)]) dX2_addProducts_11 (by decide) rfl ?_
      have L13_1675 : ∀ (n13_1675 : Nat) (x13_4_1675 : Int) (h_x13_4_1675 : 0 ≤ x13_4_1675 ∧ x13_4_1675 ≤ 2048) (H13_1675 : PH) (hB13_1675 : BdX H13_1675) (hE13_1675 : FrX ([(8, 3)], [6, 7, 9, 10]) H2_0 H13_1675) (hm13_1675 : ((2049 - x13_4_1675) : Int).toNat < n13_1675), Go WSX G 3 iX2_addProducts 13 [(0, vR o0), (1, vR o1), (2, vR o2), (3, vI x2_3_0), (4, vI x13_4_1675)] [] H13_1675 Q := by
        intro n13_1675
        induction n13_1675 with
        | zero => intro x13_4_1675 h_x13_4_1675 H13_1675 hB13_1675 hE13_1675 hm13_1675; exact absurd hm13_1675 (Nat.not_lt_zero _)
        | succ n13_1675 ih13_1675 =>
        intro x13_4_1675 h_x13_4_1675 H13_1675 hB13_1675 hE13_1675 hm13_1675
        refine g_iload dX2_addProducts_13 rfl ?_
        refine g_aload_n dX2_addProducts_15 rfl ?_
        refine x_g11_3 (z := (P o2 3)) k_o2 ffX2_28 dX2_addProducts_16 ((FrX.g hE13_1675 k_o2 rfl).trans ((FrX.g hE2_0 k_o2 rfl).trans rfl)) ?_
        have f1757 := bx_11_3 (o := o2) hB k_o2
        refine g_icmp_ge (tgt := 60) dX2_addProducts_19 (by decide) ⟨by omega, by omega⟩ ⟨by have q0 := bx_11_3 (o := o2) hB k_o2; omega, by have q0 := bx_11_3 (o := o2) hB k_o2; omega⟩ (fun k1758 => ?_) (fun k1758 => ?_)
        · refine g_iinc (l1 := [(3, vI (x2_3_0 + 1)), (0, vR o0), (1, vR o1), (2, vR o2), (4, vI x13_4_1675)]) dX2_addProducts_60 rfl (by decide) rfl ?_
          refine g_goto (tgt := 2) dX2_addProducts_63 (by decide) ?_
          refine g_forget (l1 := [(0, vR o0), (1, vR o1), (2, vR o2), (3, vI (x2_3_0 + 1))]) (by intro q hq; simp only [List.mem_cons, List.not_mem_nil, or_false] at hq ⊢; rcases hq with rfl | rfl | rfl | rfl <;> simp) ?_
          exact ih2_0 (x2_3_0 + 1) ⟨by omega, by omega⟩ _ hB13_1675 (FrX.c (FrX.c FrX.rf hE2_0 rfl) hE13_1675 rfl) (by omega)
        · refine g_aload_n dX2_addProducts_22 rfl ?_
          refine g_aload_n dX2_addProducts_23 rfl ?_
          refine x_g8_0 (n := (crX o1 0)) k_o1 ffX2_15 dX2_addProducts_24 rfl ?_
          refine g_iload_n dX2_addProducts_27 rfl ?_
          refine x_l9 (z := (H13_1675 (crX o1 0) x2_3_0)) (ck_8_0 k_o1) dX2_addProducts_28 ⟨by omega, by omega⟩ rfl ?_
          refine g_aload_n dX2_addProducts_29 rfl ?_
          refine x_g11_0 (n := (crX o2 0)) k_o2 ffX2_15 dX2_addProducts_30 rfl ?_
          refine g_iload dX2_addProducts_33 rfl ?_
          refine x_l12 (z := (P (crX o2 0) x13_4_1675)) (ck_11_0 k_o2) dX2_addProducts_35 ⟨by omega, by omega⟩ ((FrX.g hE13_1675 (ck_11_0 k_o2) rfl).trans ((FrX.g hE2_0 (ck_11_0 k_o2) rfl).trans rfl)) ?_
          refine g_iand dX2_addProducts_36 ?_
          refine g_nm (fun b1759 e_b1759 => ?_)
          have h_b1759 := iand_ir (H13_1675 (crX o1 0) x2_3_0) (P (crX o2 0) x13_4_1675)
          rw [← e_b1759] at h_b1759
          refine g_aload_n dX2_addProducts_37 rfl ?_
          refine x_g8_1 (n := (crX o1 1)) k_o1 ffX2_21 dX2_addProducts_38 rfl ?_
          refine g_iload_n dX2_addProducts_41 rfl ?_
          refine x_l10 (z := (H13_1675 (crX o1 1) x2_3_0)) (ck_8_1 k_o1) dX2_addProducts_42 ⟨by omega, by omega⟩ rfl ?_
          refine g_aload_n dX2_addProducts_43 rfl ?_
          refine x_g11_1 (n := (crX o2 1)) k_o2 ffX2_21 dX2_addProducts_44 rfl ?_
          refine g_iload dX2_addProducts_47 rfl ?_
          refine x_l13 (z := (P (crX o2 1) x13_4_1675)) (ck_11_1 k_o2) dX2_addProducts_49 ⟨by omega, by omega⟩ ((FrX.g hE13_1675 (ck_11_1 k_o2) rfl).trans ((FrX.g hE2_0 (ck_11_1 k_o2) rfl).trans rfl)) ?_
          refine g_imul dX2_addProducts_50 ?_
          refine g_norm (fun r1760 h_r1760 e_r1760 => ?_)
          refine g_vV (av := [vI b1759, vI r1760]) (o := o0) (st := []) (m_X2_add_G4 G H13_1675 o0 b1759 r1760 k_o0 ⟨by omega, by omega⟩ ⟨by omega, by omega⟩ hB13_1675  _ (fun Pc1761 hBc1761 hFc1761 => ⟨rfl, ?_⟩)) cf_X2_add t_900 rfl (show kx o0 8 from k_o0).1 ((show kx o0 8 from k_o0).sh rfl) rfl rfl (Nat.le_of_ble_eq_true rfl) (by decide) rfl dX2_addProducts_51
          refine g_iinc (l1 := [(4, vI (x13_4_1675 + 1)), (0, vR o0), (1, vR o1), (2, vR o2), (3, vI x2_3_0)]) dX2_addProducts_54 rfl (by decide) rfl ?_
          refine g_goto (tgt := 13) dX2_addProducts_57 (by decide) ?_
          refine g_forget (l1 := [(0, vR o0), (1, vR o1), (2, vR o2), (3, vI x2_3_0), (4, vI (x13_4_1675 + 1))]) (by intro q hq; simp only [List.mem_cons, List.not_mem_nil, or_false] at hq ⊢; rcases hq with rfl | rfl | rfl | rfl | rfl <;> simp) ?_
          exact ih13_1675 (x13_4_1675 + 1) ⟨by omega, by omega⟩ _ hBc1761 (FrX.c (FrX.c FrX.rf hE13_1675 rfl) hFc1761 rfl) (by omega)
      refine g_forget (l1 := [(0, vR o0), (1, vR o1), (2, vR o2), (3, vI x2_3_0), (4, vI 0)]) (by intro q hq; simp only [List.mem_cons, List.not_mem_nil, or_false] at hq ⊢; rcases hq with rfl | rfl | rfl | rfl | rfl <;> simp) ?_
      exact L13_1675 _ 0 (by decide) _ hB2_0 FrX.rf (Nat.lt_succ_self _)
  refine g_forget (l1 := [(0, vR o0), (1, vR o1), (2, vR o2), (3, vI 0)]) (by intro q hq; simp only [List.mem_cons, List.not_mem_nil, or_false] at hq ⊢; rcases hq with rfl | rfl | rfl | rfl <;> simp) ?_
  exact L2_0 _ 0 (by decide) _ hB FrX.rf (Nat.lt_succ_self _)
set_option maxRecDepth 100000 in
set_option maxHeartbeats 4000000 in
theorem m_X2_copy_G4_G4 (G : GT) (P : PH) (o0 : Nat) (o1 : Nat) (k_o0 : kx o0 8) (k_o1 : kx o1 8) (hB : BdX P) (Q : Option PV → PH → Prop) (hQ : ∀ (P1 : PH) (_ : BdX P1) (_ : FrX ([(8, 3)], [9, 10]) P P1), Q none P1) : Ct WSX G 2 iX2_copy [vR o0, vR o1] P Q := by
  refine Ct.of (by decide) (l0 := [(0, vR o0), (1, vR o1)]) rfl (Nat.le_of_ble_eq_true rfl) ?_
  refine g_aload_n dX2_copy_0 rfl ?_
  refine g_aload_n dX2_copy_1 rfl ?_
  refine x_g8_3 (z := (P o1 3)) k_o1 ffX2_28 dX2_copy_2 rfl ?_
  refine g_aload_n dX2_copy_5 rfl ?_
  refine x_g8_0 (n := (crX o0 0)) k_o0 ffX2_15 dX2_copy_6 rfl ?_
  refine x_n9 (ck_8_0 k_o0) dX2_copy_9 ?_
  have f1 := bx_8_3 (o := o1) hB k_o1
  refine g_sI (av := [vI (P o1 3), vI 4096]) (st := [vR o0]) (m_J9_min_7cf53 G P (P o1 3) 4096 ⟨by have q0 := bx_8_3 (o := o1) hB k_o1; omega, by have q0 := bx_8_3 (o := o1) hB k_o1; omega⟩ (by decide) hB  _ (fun rc2 hc2 gc2_m => ⟨rc2, rfl, ?_⟩)) cf_J9_min_7cf53 t_895 rfl (Nat.le_of_ble_eq_true rfl) (by decide) rfl dX2_copy_10
  refine x_p8_3 k_o0 pfX2_28 dX2_copy_13 ?_
  have hB3 := by_8_3 (z := rc2) hB k_o0 ⟨by omega, by omega⟩
  refine g_iconst dX2_copy_16 ?_
  refine g_istore_n (l1 := [(2, vI 0), (0, vR o0), (1, vR o1)]) dX2_copy_17 (by decide) rfl ?_
  have L18_3 : ∀ (n18_3 : Nat) (x18_2_3 : Int) (h_x18_2_3 : 0 ≤ x18_2_3 ∧ x18_2_3 ≤ 4096) (H18_3 : PH) (hB18_3 : BdX H18_3) (hE18_3 : FrX ([], [9, 10]) (up P o0 3 rc2) H18_3) (hm18_3 : ((4097 - x18_2_3) : Int).toNat < n18_3), Go WSX G 2 iX2_copy 18 [(0, vR o0), (1, vR o1), (2, vI x18_2_3)] [] H18_3 Q := by
    intro n18_3
    induction n18_3 with
    | zero => intro x18_2_3 h_x18_2_3 H18_3 hB18_3 hE18_3 hm18_3; exact absurd hm18_3 (Nat.not_lt_zero _)
    | succ n18_3 ih18_3 =>
    intro x18_2_3 h_x18_2_3 H18_3 hB18_3 hE18_3 hm18_3
    refine g_iload_n dX2_copy_18 rfl ?_
    refine g_aload_n dX2_copy_19 rfl ?_
    refine x_g8_3 (z := rc2) k_o0 ffX2_28 dX2_copy_20 ((FrX.g hE18_3 k_o0 rfl).trans up_same) ?_
    refine g_icmp_ge (tgt := 56) dX2_copy_23 (by decide) ⟨by omega, by omega⟩ ⟨by omega, by omega⟩ (fun k56 => ?_) (fun k56 => ?_)
    · exact g_retV dX2_copy_56 rfl (hQ _ hB18_3 (FrX.c (FrX.s FrX.rf k_o0 rfl) hE18_3 rfl) )
    · refine g_aload_n dX2_copy_26 rfl ?_
      refine x_g8_0 (n := (crX o0 0)) k_o0 ffX2_15 dX2_copy_27 rfl ?_
      refine g_iload_n dX2_copy_30 rfl ?_
      refine g_aload_n dX2_copy_31 rfl ?_
      refine x_g8_0 (n := (crX o1 0)) k_o1 ffX2_15 dX2_copy_32 rfl ?_
      refine g_iload_n dX2_copy_35 rfl ?_
      refine x_l9 (z := (H18_3 (crX o1 0) x18_2_3)) (ck_8_0 k_o1) dX2_copy_36 ⟨by omega, by omega⟩ rfl ?_
      refine x_s9 (ck_8_0 k_o0) dX2_copy_37 ⟨by omega, by omega⟩ ?_
      have hB57 := by_9 (z := (H18_3 (crX o1 0) x18_2_3)) (k := x18_2_3) hB18_3 (ck_8_0 k_o0) ⟨by have q0 := bx_9 (o := (crX o1 0)) (k := x18_2_3) hB18_3 (ck_8_0 k_o1); omega, by have q0 := bx_9 (o := (crX o1 0)) (k := x18_2_3) hB18_3 (ck_8_0 k_o1); omega⟩
      refine g_aload_n dX2_copy_38 rfl ?_
      refine x_g8_1 (n := (crX o0 1)) k_o0 ffX2_21 dX2_copy_39 rfl ?_
      refine g_iload_n dX2_copy_42 rfl ?_
      refine g_aload_n dX2_copy_43 rfl ?_
      refine x_g8_1 (n := (crX o1 1)) k_o1 ffX2_21 dX2_copy_44 rfl ?_
      refine g_iload_n dX2_copy_47 rfl ?_
      refine x_l10 (z := (H18_3 (crX o1 1) x18_2_3)) (ck_8_1 k_o1) dX2_copy_48 ⟨by omega, by omega⟩ ((up_o (kx.ne (ck_8_1 k_o1) (ck_8_0 k_o0) rfl)).trans rfl) ?_
      refine x_s10 (ck_8_1 k_o0) dX2_copy_49 ⟨by omega, by omega⟩ ?_
      have hB58 := by_10 (z := (H18_3 (crX o1 1) x18_2_3)) (k := x18_2_3) hB57 (ck_8_1 k_o0) ⟨by have q0 := bx_10 (o := (crX o1 1)) (k := x18_2_3) hB18_3 (ck_8_1 k_o1); omega, by have q0 := bx_10 (o := (crX o1 1)) (k := x18_2_3) hB18_3 (ck_8_1 k_o1); omega⟩
      refine g_iinc (l1 := [(2, vI (x18_2_3 + 1)), (0, vR o0), (1, vR o1)]) dX2_copy_50 rfl (by decide) rfl ?_
      refine g_goto (tgt := 18) dX2_copy_53 (by decide) ?_
      refine g_forget (l1 := [(0, vR o0), (1, vR o1), (2, vI (x18_2_3 + 1))]) (by intro q hq; simp only [List.mem_cons, List.not_mem_nil, or_false] at hq ⊢; rcases hq with rfl | rfl | rfl <;> simp) ?_
      exact ih18_3 (x18_2_3 + 1) ⟨by omega, by omega⟩ _ hB58 (FrX.s (FrX.s (FrX.c FrX.rf hE18_3 rfl) (ck_8_0 k_o0) rfl) (ck_8_1 k_o0) rfl) (by omega)
  refine g_forget (l1 := [(0, vR o0), (1, vR o1), (2, vI 0)]) (by intro q hq; simp only [List.mem_cons, List.not_mem_nil, or_false] at hq ⊢; rcases hq with rfl | rfl | rfl <;> simp) ?_
  exact L18_3 _ 0 (by decide) _ hB3 FrX.rf (Nat.lt_succ_self _)
set_option maxRecDepth 100000 in
set_option maxHeartbeats 4000000 in
theorem m_X3_isKind (G : GT) (P : PH) (o0 : Nat) (a1 : Int) (k_o0 : kx o0 29) (h_a1 : (-2147483648) ≤ a1 ∧ a1 ≤ 2147483647) (hB : BdX P) (Q : Option PV → PH → Prop) (hQ : ∀ (r : Int) (_ : 0 ≤ r ∧ r ≤ 1) (_ : r = 0 ∨ (0 ≤ a1 ∧ a1 < P o0 9)), Q (some (vI r)) P) : Ct WSX G 1 iX3_isKind [vR o0, vI a1] P Q := by
  refine Ct.of (by decide) (l0 := [(0, vR o0), (1, vI a1)]) rfl (Nat.le_of_ble_eq_true rfl) ?_
  refine g_iload_n dX3_isKind_0 rfl ?_
  refine g_if_lt (tgt := 16) dX3_isKind_1 (by decide) ⟨by omega, by omega⟩ (fun k1 => ?_) (fun k1 => ?_)
  · refine g_iconst dX3_isKind_16 ?_
    exact g_retZ dX3_isKind_17 rfl (by decide) (hQ 0 (by decide) (by omega))
  · refine g_iload_n dX3_isKind_4 rfl ?_
    refine g_aload_n dX3_isKind_5 rfl ?_
    refine x_g29_9 (z := (P o0 9)) k_o0 ffX3_39 dX3_isKind_6 rfl ?_
    have f2 := bx_29_9 (o := o0) hB k_o0
    refine g_icmp_ge (tgt := 16) dX3_isKind_9 (by decide) ⟨by omega, by omega⟩ ⟨by have q0 := bx_29_9 (o := o0) hB k_o0; omega, by have q0 := bx_29_9 (o := o0) hB k_o0; omega⟩ (fun k3 => ?_) (fun k3 => ?_)
    · refine g_iconst dX3_isKind_16 ?_
      exact g_retZ dX3_isKind_17 rfl (by decide) (hQ 0 (by decide) (by omega))
    · refine g_iconst dX3_isKind_12 ?_
      refine g_goto (tgt := 17) dX3_isKind_13 (by decide) ?_
      exact g_retZ dX3_isKind_17 rfl (by decide) (hQ 1 (by decide) (by omega))
set_option maxRecDepth 100000 in
set_option maxHeartbeats 4000000 in
theorem m_X3_isCon (G : GT) (P : PH) (o0 : Nat) (a1 : Int) (k_o0 : kx o0 29) (h_a1 : (-2147483648) ≤ a1 ∧ a1 ≤ 2147483647) (hB : BdX P) (Q : Option PV → PH → Prop) (hQ : ∀ (r : Int) (_ : 0 ≤ r ∧ r ≤ 1) (_ : r = 0 ∨ (0 ≤ a1 ∧ a1 < P o0 10)), Q (some (vI r)) P) : Ct WSX G 1 iX3_isCon [vR o0, vI a1] P Q := by
  refine Ct.of (by decide) (l0 := [(0, vR o0), (1, vI a1)]) rfl (Nat.le_of_ble_eq_true rfl) ?_
  refine g_iload_n dX3_isCon_0 rfl ?_
  refine g_if_lt (tgt := 16) dX3_isCon_1 (by decide) ⟨by omega, by omega⟩ (fun k1 => ?_) (fun k1 => ?_)
  · refine g_iconst dX3_isCon_16 ?_
    exact g_retZ dX3_isCon_17 rfl (by decide) (hQ 0 (by decide) (by omega))
  · refine g_iload_n dX3_isCon_4 rfl ?_
    refine g_aload_n dX3_isCon_5 rfl ?_
    refine x_g29_10 (z := (P o0 10)) k_o0 ffX3_43 dX3_isCon_6 rfl ?_
    have f2 := bx_29_10 (o := o0) hB k_o0
    refine g_icmp_ge (tgt := 16) dX3_isCon_9 (by decide) ⟨by omega, by omega⟩ ⟨by have q0 := bx_29_10 (o := o0) hB k_o0; omega, by have q0 := bx_29_10 (o := o0) hB k_o0; omega⟩ (fun k3 => ?_) (fun k3 => ?_)
    · refine g_iconst dX3_isCon_16 ?_
      exact g_retZ dX3_isCon_17 rfl (by decide) (hQ 0 (by decide) (by omega))
    · refine g_iconst dX3_isCon_12 ?_
      refine g_goto (tgt := 17) dX3_isCon_13 (by decide) ?_
      exact g_retZ dX3_isCon_17 rfl (by decide) (hQ 1 (by decide) (by omega))
set_option maxRecDepth 100000 in
set_option maxHeartbeats 4000000 in
theorem m_X3_sizeOf (G : GT) (P : PH) (o0 : Nat) (a1 : Int) (k_o0 : kx o0 29) (h_a1 : (-2147483648) ≤ a1 ∧ a1 ≤ 2147483647) (hB : BdX P) (Q : Option PV → PH → Prop) (hQ : ∀ (r : Int) (_ : (-2147483648) ≤ r ∧ r ≤ 2147483647), Q (some (vI r)) P) : Ct WSX G 1 iX3_sizeOf [vR o0, vI a1] P Q := by
  refine Ct.of (by decide) (l0 := [(0, vR o0), (1, vI a1)]) rfl (Nat.le_of_ble_eq_true rfl) ?_
  refine g_iload_n dX3_sizeOf_0 rfl ?_
  refine g_iconst dX3_sizeOf_1 ?_
  refine g_icmp_ne (tgt := 8) dX3_sizeOf_2 (by decide) ⟨by omega, by omega⟩ (by decide) (fun k1 => ?_) (fun k1 => ?_)
  · refine g_iload_n dX3_sizeOf_8 rfl ?_
    refine g_if_lt (tgt := 29) dX3_sizeOf_9 (by decide) ⟨by omega, by omega⟩ (fun k2 => ?_) (fun k2 => ?_)
    · refine g_iconst dX3_sizeOf_29 ?_
      exact g_retI dX3_sizeOf_30 rfl (hQ 0 (by decide) )
    · refine g_iload_n dX3_sizeOf_12 rfl ?_
      refine g_aload_n dX3_sizeOf_13 rfl ?_
      refine x_g29_9 (z := (P o0 9)) k_o0 ffX3_39 dX3_sizeOf_14 rfl ?_
      have f3 := bx_29_9 (o := o0) hB k_o0
      refine g_icmp_ge (tgt := 29) dX3_sizeOf_17 (by decide) ⟨by omega, by omega⟩ ⟨by have q0 := bx_29_9 (o := o0) hB k_o0; omega, by have q0 := bx_29_9 (o := o0) hB k_o0; omega⟩ (fun k4 => ?_) (fun k4 => ?_)
      · refine g_iconst dX3_sizeOf_29 ?_
        exact g_retI dX3_sizeOf_30 rfl (hQ 0 (by decide) )
      · refine g_aload_n dX3_sizeOf_20 rfl ?_
        refine x_g29_3 (n := (crX o0 3)) k_o0 ffX3_21 dX3_sizeOf_21 rfl ?_
        refine g_iload_n dX3_sizeOf_24 rfl ?_
        refine x_l33 (z := (P (crX o0 3) a1)) (ck_29_3 k_o0) dX3_sizeOf_25 ⟨by omega, by omega⟩ rfl ?_
        refine g_goto (tgt := 30) dX3_sizeOf_26 (by decide) ?_
        exact g_retI dX3_sizeOf_30 rfl (hQ (P (crX o0 3) a1) ⟨by have q0 := bx_33 (o := (crX o0 3)) (k := a1) hB (ck_29_3 k_o0); omega, by have q0 := bx_33 (o := (crX o0 3)) (k := a1) hB (ck_29_3 k_o0); omega⟩ )
  · refine g_bipush dX3_sizeOf_5 (by decide) ?_
    exact g_retI dX3_sizeOf_7 rfl (hQ 20 (by decide) )
set_option maxRecDepth 100000 in
set_option maxHeartbeats 4000000 in
theorem m_X3_conNamed (G : GT) (P : PH) (o0 : Nat) (a1 : Int) (k_o0 : kx o0 29) (h_a1 : (-2147483648) ≤ a1 ∧ a1 ≤ 2147483647) (hB : BdX P) (Q : Option PV → PH → Prop) (hQ : ∀ (r : Int) (_ : (-1) ≤ r ∧ r ≤ 23), Q (some (vI r)) P) : Ct WSX G 1 iX3_conNamed [vR o0, vI a1] P Q := by
  refine Ct.of (by decide) (l0 := [(0, vR o0), (1, vI a1)]) rfl (Nat.le_of_ble_eq_true rfl) ?_
  refine g_iconst dX3_conNamed_0 ?_
  refine g_istore_n (l1 := [(2, vI 0), (0, vR o0), (1, vI a1)]) dX3_conNamed_1 (by decide) rfl ?_
  have L2_0 : ∀ (n2_0 : Nat) (x2_2_0 : Int) (h_x2_2_0 : 0 ≤ x2_2_0 ∧ x2_2_0 ≤ 24) (hm2_0 : ((25 - x2_2_0) : Int).toNat < n2_0), Go WSX G 1 iX3_conNamed 2 [(0, vR o0), (1, vI a1), (2, vI x2_2_0)] [] P Q := by
    intro n2_0
    induction n2_0 with
    | zero => intro x2_2_0 h_x2_2_0 hm2_0; exact absurd hm2_0 (Nat.not_lt_zero _)
    | succ n2_0 ih2_0 =>
    intro x2_2_0 h_x2_2_0 hm2_0
    refine g_iload_n dX3_conNamed_2 rfl ?_
    refine g_aload_n dX3_conNamed_3 rfl ?_
    refine x_g29_10 (z := (P o0 10)) k_o0 ffX3_43 dX3_conNamed_4 rfl ?_
    have f42 := bx_29_10 (o := o0) hB k_o0
    refine g_icmp_ge (tgt := 28) dX3_conNamed_7 (by decide) ⟨by omega, by omega⟩ ⟨by have q0 := bx_29_10 (o := o0) hB k_o0; omega, by have q0 := bx_29_10 (o := o0) hB k_o0; omega⟩ (fun k43 => ?_) (fun k43 => ?_)
    · refine g_iconst dX3_conNamed_28 ?_
      exact g_retI dX3_conNamed_29 rfl (hQ (-1) (by decide) )
    · refine g_aload_n dX3_conNamed_10 rfl ?_
      refine x_g29_4 (n := (crX o0 4)) k_o0 ffX3_24 dX3_conNamed_11 rfl ?_
      refine g_iload_n dX3_conNamed_14 rfl ?_
      refine x_l34 (z := (P (crX o0 4) x2_2_0)) (ck_29_4 k_o0) dX3_conNamed_15 ⟨by omega, by omega⟩ rfl ?_
      refine g_iload_n dX3_conNamed_16 rfl ?_
      have f44 := bx_34 (o := (crX o0 4)) (k := x2_2_0) hB (ck_29_4 k_o0)
      refine g_icmp_ne (tgt := 22) dX3_conNamed_17 (by decide) ⟨by have q0 := bx_34 (o := (crX o0 4)) (k := x2_2_0) hB (ck_29_4 k_o0); omega, by have q0 := bx_34 (o := (crX o0 4)) (k := x2_2_0) hB (ck_29_4 k_o0); omega⟩ ⟨by omega, by omega⟩ (fun k45 => ?_) (fun k45 => ?_)
      · refine g_iinc (l1 := [(2, vI (x2_2_0 + 1)), (0, vR o0), (1, vI a1)]) dX3_conNamed_22 rfl (by decide) rfl ?_
        refine g_goto (tgt := 2) dX3_conNamed_25 (by decide) ?_
        refine g_forget (l1 := [(0, vR o0), (1, vI a1), (2, vI (x2_2_0 + 1))]) (by intro q hq; simp only [List.mem_cons, List.not_mem_nil, or_false] at hq ⊢; rcases hq with rfl | rfl | rfl <;> simp) ?_
        exact ih2_0 (x2_2_0 + 1) ⟨by omega, by omega⟩ (by omega)
      · refine g_iload_n dX3_conNamed_20 rfl ?_
        exact g_retI dX3_conNamed_21 rfl (hQ x2_2_0 ⟨by omega, by omega⟩ )
  refine g_forget (l1 := [(0, vR o0), (1, vI a1), (2, vI 0)]) (by intro q hq; simp only [List.mem_cons, List.not_mem_nil, or_false] at hq ⊢; rcases hq with rfl | rfl | rfl <;> simp) ?_
  exact L2_0 _ 0 (by decide) (Nat.lt_succ_self _)
set_option maxRecDepth 100000 in
set_option maxHeartbeats 4000000 in
theorem m_X3_conNamedOf (G : GT) (P : PH) (o0 : Nat) (a1 : Int) (a2 : Int) (k_o0 : kx o0 29) (h_a1 : (-2147483648) ≤ a1 ∧ a1 ≤ 2147483647) (h_a2 : (-2147483648) ≤ a2 ∧ a2 ≤ 2147483647) (hB : BdX P) (Q : Option PV → PH → Prop) (hQ : ∀ (r : Int) (_ : (-1) ≤ r ∧ r ≤ 23), Q (some (vI r)) P) : Ct WSX G 2 iX3_conNamedOf [vR o0, vI a1, vI a2] P Q := by
  refine Ct.of (by decide) (l0 := [(0, vR o0), (1, vI a1), (2, vI a2)]) rfl (Nat.le_of_ble_eq_true rfl) ?_
  refine g_aload_n dX3_conNamedOf_0 rfl ?_
  refine g_iload_n dX3_conNamedOf_1 rfl ?_
  refine g_vI (av := [vI a2]) (o := o0) (st := []) (m_X3_conNamed G P o0 a2 k_o0 ⟨by omega, by omega⟩ hB  _ (fun rc1 hc1 => ⟨rc1, rfl, ?_⟩)) cf_X3_conNamed t_831 rfl (show kx o0 29 from k_o0).1 ((show kx o0 29 from k_o0).sh rfl) rfl rfl (Nat.le_of_ble_eq_true rfl) (by decide) rfl dX3_conNamedOf_2
  refine g_istore_n (l1 := [(3, vI rc1), (0, vR o0), (1, vI a1), (2, vI a2)]) dX3_conNamedOf_5 (by decide) rfl ?_
  refine g_iload_n dX3_conNamedOf_6 rfl ?_
  refine g_iconst dX3_conNamedOf_7 ?_
  refine g_icmp_eq (tgt := 19) dX3_conNamedOf_8 (by decide) ⟨by omega, by omega⟩ (by decide) (fun k2 => ?_) (fun k2 => ?_)
  · refine g_iconst dX3_conNamedOf_19 ?_
    exact g_retI dX3_conNamedOf_20 rfl (hQ (-1) (by decide) )
  · refine g_aload_n dX3_conNamedOf_11 rfl ?_
    refine g_iload_n dX3_conNamedOf_12 rfl ?_
    refine g_vI (av := [vI a1]) (o := o0) (st := []) (m_X3_isKind G P o0 a1 k_o0 ⟨by omega, by omega⟩ hB  _ (fun rc3 hc3 gc3_k => ⟨rc3, rfl, ?_⟩)) cf_X3_isKind t_760 rfl (show kx o0 29 from k_o0).1 ((show kx o0 29 from k_o0).sh rfl) rfl rfl (Nat.le_of_ble_eq_true rfl) (by decide) rfl dX3_conNamedOf_13
    have f4 := bx_29_9 (o := o0) hB k_o0
    refine g_if_ne (tgt := 21) dX3_conNamedOf_16 (by decide) ⟨by omega, by omega⟩ (fun k5 => ?_) (fun k5 => ?_)
    · refine g_aload_n dX3_conNamedOf_21 rfl ?_
      refine x_g29_1 (n := (crX o0 1)) k_o0 ffX3_15 dX3_conNamedOf_22 rfl ?_
      refine g_iload_n dX3_conNamedOf_25 rfl ?_
      refine x_l31 (z := (P (crX o0 1) a1)) (ck_29_1 k_o0) dX3_conNamedOf_26 ⟨by omega, by omega⟩ rfl ?_
      refine g_istore (l1 := [(4, vI (P (crX o0 1) a1)), (3, vI rc1), (0, vR o0), (1, vI a1), (2, vI a2)]) dX3_conNamedOf_27 (by decide) rfl ?_
      refine g_iload_n dX3_conNamedOf_29 rfl ?_
      refine g_iload dX3_conNamedOf_30 rfl ?_
      have f6 := bx_31 (o := (crX o0 1)) (k := a1) hB (ck_29_1 k_o0)
      refine g_icmp_lt (tgt := 52) dX3_conNamedOf_32 (by decide) ⟨by omega, by omega⟩ ⟨by have q0 := bx_31 (o := (crX o0 1)) (k := a1) hB (ck_29_1 k_o0); omega, by have q0 := bx_31 (o := (crX o0 1)) (k := a1) hB (ck_29_1 k_o0); omega⟩ (fun k7 => ?_) (fun k7 => ?_)
      · refine g_iconst dX3_conNamedOf_52 ?_
        exact g_retI dX3_conNamedOf_53 rfl (hQ (-1) (by decide) )
      · refine g_iload_n dX3_conNamedOf_35 rfl ?_
        refine g_iload dX3_conNamedOf_36 rfl ?_
        refine g_aload_n dX3_conNamedOf_38 rfl ?_
        refine x_g29_2 (n := (crX o0 2)) k_o0 ffX3_18 dX3_conNamedOf_39 rfl ?_
        refine g_iload_n dX3_conNamedOf_42 rfl ?_
        refine x_l32 (z := (P (crX o0 2) a1)) (ck_29_2 k_o0) dX3_conNamedOf_43 ⟨by omega, by omega⟩ rfl ?_
        refine g_iadd dX3_conNamedOf_44 ?_
        refine g_norm (fun r8 h_r8 e_r8 => ?_)
        refine g_icmp_ge (tgt := 52) dX3_conNamedOf_45 (by decide) ⟨by omega, by omega⟩ ⟨by omega, by omega⟩ (fun k9 => ?_) (fun k9 => ?_)
        · refine g_iconst dX3_conNamedOf_52 ?_
          exact g_retI dX3_conNamedOf_53 rfl (hQ (-1) (by decide) )
        · refine g_iload_n dX3_conNamedOf_48 rfl ?_
          refine g_goto (tgt := 53) dX3_conNamedOf_49 (by decide) ?_
          exact g_retI dX3_conNamedOf_53 rfl (hQ rc1 ⟨by omega, by omega⟩ )
    · refine g_iconst dX3_conNamedOf_19 ?_
      exact g_retI dX3_conNamedOf_20 rfl (hQ (-1) (by decide) )
set_option maxRecDepth 100000 in
set_option maxHeartbeats 4000000 in
theorem m_X3_conOf (G : GT) (P : PH) (o0 : Nat) (a1 : Int) (a2 : Int) (k_o0 : kx o0 29) (h_a1 : (-2147483648) ≤ a1 ∧ a1 ≤ 2147483647) (h_a2 : (-2147483648) ≤ a2 ∧ a2 ≤ 2147483647) (hB : BdX P) (Q : Option PV → PH → Prop) (hQ : ∀ (r : Int) (_ : (-1) ≤ r ∧ r ≤ 23), Q (some (vI r)) P) : Ct WSX G 2 iX3_conOf [vR o0, vI a1, vI a2] P Q := by
  refine Ct.of (by decide) (l0 := [(0, vR o0), (1, vI a1), (2, vI a2)]) rfl (Nat.le_of_ble_eq_true rfl) ?_
  refine g_aload_n dX3_conOf_0 rfl ?_
  refine g_iload_n dX3_conOf_1 rfl ?_
  refine g_vI (av := [vI a1]) (o := o0) (st := []) (m_X3_isKind G P o0 a1 k_o0 ⟨by omega, by omega⟩ hB  _ (fun rc1 hc1 gc1_k => ⟨rc1, rfl, ?_⟩)) cf_X3_isKind t_760 rfl (show kx o0 29 from k_o0).1 ((show kx o0 29 from k_o0).sh rfl) rfl rfl (Nat.le_of_ble_eq_true rfl) (by decide) rfl dX3_conOf_2
  have f2 := bx_29_9 (o := o0) hB k_o0
  refine g_if_ne (tgt := 10) dX3_conOf_5 (by decide) ⟨by omega, by omega⟩ (fun k3 => ?_) (fun k3 => ?_)
  · refine g_iconst dX3_conOf_10 ?_
    refine g_istore_n (l1 := [(3, vI (-1)), (0, vR o0), (1, vI a1), (2, vI a2)]) dX3_conOf_11 (by decide) rfl ?_
    refine g_iconst dX3_conOf_12 ?_
    refine g_istore (l1 := [(4, vI 0), (3, vI (-1)), (0, vR o0), (1, vI a1), (2, vI a2)]) dX3_conOf_13 (by decide) rfl ?_
    have L15_3 : ∀ (n15_3 : Nat) (x15_4_3 : Int) (h_x15_4_3 : 0 ≤ x15_4_3 ∧ x15_4_3 ≤ 2147483647) (x15_3_3 : Int) (h_x15_3_3 : (-1) ≤ x15_3_3 ∧ x15_3_3 ≤ 23) (hm15_3 : ((2147483648 - x15_4_3) : Int).toNat < n15_3), Go WSX G 2 iX3_conOf 15 [(0, vR o0), (1, vI a1), (2, vI a2), (3, vI x15_3_3), (4, vI x15_4_3)] [] P Q := by
      intro n15_3
      induction n15_3 with
      | zero => intro x15_4_3 h_x15_4_3 x15_3_3 h_x15_3_3 hm15_3; exact absurd hm15_3 (Nat.not_lt_zero _)
      | succ n15_3 ih15_3 =>
      intro x15_4_3 h_x15_4_3 x15_3_3 h_x15_3_3 hm15_3
      refine g_iload dX3_conOf_15 rfl ?_
      refine g_aload_n dX3_conOf_17 rfl ?_
      refine x_g29_2 (n := (crX o0 2)) k_o0 ffX3_18 dX3_conOf_18 rfl ?_
      refine g_iload_n dX3_conOf_21 rfl ?_
      refine x_l32 (z := (P (crX o0 2) a1)) (ck_29_2 k_o0) dX3_conOf_22 ⟨by omega, by omega⟩ rfl ?_
      have f181 := bx_32 (o := (crX o0 2)) (k := a1) hB (ck_29_2 k_o0)
      refine g_icmp_ge (tgt := 66) dX3_conOf_23 (by decide) ⟨by omega, by omega⟩ ⟨by have q0 := bx_32 (o := (crX o0 2)) (k := a1) hB (ck_29_2 k_o0); omega, by have q0 := bx_32 (o := (crX o0 2)) (k := a1) hB (ck_29_2 k_o0); omega⟩ (fun k182 => ?_) (fun k182 => ?_)
      · refine g_iload_n dX3_conOf_66 rfl ?_
        exact g_retI dX3_conOf_67 rfl (hQ x15_3_3 ⟨by omega, by omega⟩ )
      · refine g_aload_n dX3_conOf_26 rfl ?_
        refine x_g29_1 (n := (crX o0 1)) k_o0 ffX3_15 dX3_conOf_27 rfl ?_
        refine g_iload_n dX3_conOf_30 rfl ?_
        refine x_l31 (z := (P (crX o0 1) a1)) (ck_29_1 k_o0) dX3_conOf_31 ⟨by omega, by omega⟩ rfl ?_
        refine g_iload dX3_conOf_32 rfl ?_
        refine g_iadd dX3_conOf_34 ?_
        refine g_norm (fun r183 h_r183 e_r183 => ?_)
        refine g_istore (l1 := [(5, vI r183), (0, vR o0), (1, vI a1), (2, vI a2), (3, vI x15_3_3), (4, vI x15_4_3)]) dX3_conOf_35 (by decide) rfl ?_
        refine g_aload_n dX3_conOf_37 rfl ?_
        refine g_iload dX3_conOf_38 rfl ?_
        refine g_vI (av := [vI r183]) (o := o0) (st := []) (m_X3_isCon G P o0 r183 k_o0 ⟨by omega, by omega⟩ hB  _ (fun rc184 hc184 gc184_k => ⟨rc184, rfl, ?_⟩)) cf_X3_isCon t_840 rfl (show kx o0 29 from k_o0).1 ((show kx o0 29 from k_o0).sh rfl) rfl rfl (Nat.le_of_ble_eq_true rfl) (by decide) rfl dX3_conOf_40
        have f185 := bx_29_10 (o := o0) hB k_o0
        refine g_if_eq (tgt := 60) dX3_conOf_43 (by decide) ⟨by omega, by omega⟩ (fun k186 => ?_) (fun k186 => ?_)
        · refine g_iinc (l1 := [(4, vI (x15_4_3 + 1)), (5, vI r183), (0, vR o0), (1, vI a1), (2, vI a2), (3, vI x15_3_3)]) dX3_conOf_60 rfl (by decide) rfl ?_
          refine g_goto (tgt := 15) dX3_conOf_63 (by decide) ?_
          refine g_forget (l1 := [(0, vR o0), (1, vI a1), (2, vI a2), (3, vI x15_3_3), (4, vI (x15_4_3 + 1))]) (by intro q hq; simp only [List.mem_cons, List.not_mem_nil, or_false] at hq ⊢; rcases hq with rfl | rfl | rfl | rfl | rfl <;> simp) ?_
          exact ih15_3 (x15_4_3 + 1) ⟨by omega, by omega⟩ x15_3_3 ⟨by omega, by omega⟩ (by omega)
        · refine g_aload_n dX3_conOf_46 rfl ?_
          refine x_g29_5 (n := (crX o0 5)) k_o0 ffX3_27 dX3_conOf_47 rfl ?_
          refine g_iload dX3_conOf_50 rfl ?_
          refine x_l35 (z := (P (crX o0 5) r183)) (ck_29_5 k_o0) dX3_conOf_52 ⟨by omega, by omega⟩ rfl ?_
          refine g_iload_n dX3_conOf_53 rfl ?_
          have f187 := bx_35 (o := (crX o0 5)) (k := r183) hB (ck_29_5 k_o0)
          refine g_icmp_gt (tgt := 60) dX3_conOf_54 (by decide) ⟨by have q0 := bx_35 (o := (crX o0 5)) (k := r183) hB (ck_29_5 k_o0); omega, by have q0 := bx_35 (o := (crX o0 5)) (k := r183) hB (ck_29_5 k_o0); omega⟩ ⟨by omega, by omega⟩ (fun k188 => ?_) (fun k188 => ?_)
          · refine g_iinc (l1 := [(4, vI (x15_4_3 + 1)), (5, vI r183), (0, vR o0), (1, vI a1), (2, vI a2), (3, vI x15_3_3)]) dX3_conOf_60 rfl (by decide) rfl ?_
            refine g_goto (tgt := 15) dX3_conOf_63 (by decide) ?_
            refine g_forget (l1 := [(0, vR o0), (1, vI a1), (2, vI a2), (3, vI x15_3_3), (4, vI (x15_4_3 + 1))]) (by intro q hq; simp only [List.mem_cons, List.not_mem_nil, or_false] at hq ⊢; rcases hq with rfl | rfl | rfl | rfl | rfl <;> simp) ?_
            exact ih15_3 (x15_4_3 + 1) ⟨by omega, by omega⟩ x15_3_3 ⟨by omega, by omega⟩ (by omega)
          · refine g_iload dX3_conOf_57 rfl ?_
            refine g_istore_n (l1 := [(3, vI r183), (5, vI r183), (0, vR o0), (1, vI a1), (2, vI a2), (4, vI x15_4_3)]) dX3_conOf_59 (by decide) rfl ?_
            refine g_iinc (l1 := [(4, vI (x15_4_3 + 1)), (3, vI r183), (5, vI r183), (0, vR o0), (1, vI a1), (2, vI a2)]) dX3_conOf_60 rfl (by decide) rfl ?_
            refine g_goto (tgt := 15) dX3_conOf_63 (by decide) ?_
            refine g_forget (l1 := [(0, vR o0), (1, vI a1), (2, vI a2), (3, vI r183), (4, vI (x15_4_3 + 1))]) (by intro q hq; simp only [List.mem_cons, List.not_mem_nil, or_false] at hq ⊢; rcases hq with rfl | rfl | rfl | rfl | rfl <;> simp) ?_
            exact ih15_3 (x15_4_3 + 1) ⟨by omega, by omega⟩ r183 ⟨by omega, by omega⟩ (by omega)
    refine g_forget (l1 := [(0, vR o0), (1, vI a1), (2, vI a2), (3, vI (-1)), (4, vI 0)]) (by intro q hq; simp only [List.mem_cons, List.not_mem_nil, or_false] at hq ⊢; rcases hq with rfl | rfl | rfl | rfl | rfl <;> simp) ?_
    exact L15_3 _ 0 (by decide) (-1) (by decide) (Nat.lt_succ_self _)
  · refine g_iconst dX3_conOf_8 ?_
    exact g_retI dX3_conOf_9 rfl (hQ (-1) (by decide) )
set_option maxRecDepth 100000 in
set_option maxHeartbeats 4000000 in
theorem m_X3_secondSize (G : GT) (P : PH) (o0 : Nat) (a1 : Int) (k_o0 : kx o0 29) (h_a1 : (-2147483648) ≤ a1 ∧ a1 ≤ 2147483647) (hB : BdX P) (Q : Option PV → PH → Prop) (hQ : ∀ (r : Int) (_ : (-2147483648) ≤ r ∧ r ≤ 2147483647), Q (some (vI r)) P) : Ct WSX G 2 iX3_secondSize [vR o0, vI a1] P Q := by
  refine Ct.of (by decide) (l0 := [(0, vR o0), (1, vI a1)]) rfl (Nat.le_of_ble_eq_true rfl) ?_
  refine g_aload_n dX3_secondSize_0 rfl ?_
  refine g_iload_n dX3_secondSize_1 rfl ?_
  refine g_vI (av := [vI a1]) (o := o0) (st := []) (m_X3_isCon G P o0 a1 k_o0 ⟨by omega, by omega⟩ hB  _ (fun rc1 hc1 gc1_k => ⟨rc1, rfl, ?_⟩)) cf_X3_isCon t_840 rfl (show kx o0 29 from k_o0).1 ((show kx o0 29 from k_o0).sh rfl) rfl rfl (Nat.le_of_ble_eq_true rfl) (by decide) rfl dX3_secondSize_2
  have f2 := bx_29_10 (o := o0) hB k_o0
  refine g_if_eq (tgt := 31) dX3_secondSize_5 (by decide) ⟨by omega, by omega⟩ (fun k3 => ?_) (fun k3 => ?_)
  · refine g_iconst dX3_secondSize_31 ?_
    exact g_retI dX3_secondSize_32 rfl (hQ 1 (by decide) )
  · refine g_aload_n dX3_secondSize_8 rfl ?_
    refine x_g29_6 (n := (crX o0 6)) k_o0 ffX3_30 dX3_secondSize_9 rfl ?_
    refine g_iload_n dX3_secondSize_12 rfl ?_
    refine x_l36 (z := (P (crX o0 6) a1)) (ck_29_6 k_o0) dX3_secondSize_13 ⟨by omega, by omega⟩ rfl ?_
    refine g_iconst dX3_secondSize_14 ?_
    have f4 := bx_36 (o := (crX o0 6)) (k := a1) hB (ck_29_6 k_o0)
    refine g_icmp_ne (tgt := 31) dX3_secondSize_15 (by decide) ⟨by have q0 := bx_36 (o := (crX o0 6)) (k := a1) hB (ck_29_6 k_o0); omega, by have q0 := bx_36 (o := (crX o0 6)) (k := a1) hB (ck_29_6 k_o0); omega⟩ (by decide) (fun k5 => ?_) (fun k5 => ?_)
    · refine g_iconst dX3_secondSize_31 ?_
      exact g_retI dX3_secondSize_32 rfl (hQ 1 (by decide) )
    · refine g_aload_n dX3_secondSize_18 rfl ?_
      refine g_aload_n dX3_secondSize_19 rfl ?_
      refine x_g29_8 (n := (crX o0 8)) k_o0 ffX3_36 dX3_secondSize_20 rfl ?_
      refine g_iload_n dX3_secondSize_23 rfl ?_
      refine x_l38 (z := (P (crX o0 8) a1)) (ck_29_8 k_o0) dX3_secondSize_24 ⟨by omega, by omega⟩ rfl ?_
      have f6 := bx_38 (o := (crX o0 8)) (k := a1) hB (ck_29_8 k_o0)
      refine g_vI (av := [vI (P (crX o0 8) a1)]) (o := o0) (st := []) (m_X3_sizeOf G P o0 (P (crX o0 8) a1) k_o0 ⟨by have q0 := bx_38 (o := (crX o0 8)) (k := a1) hB (ck_29_8 k_o0); omega, by have q0 := bx_38 (o := (crX o0 8)) (k := a1) hB (ck_29_8 k_o0); omega⟩ hB  _ (fun rc7 hc7 => ⟨rc7, rfl, ?_⟩)) cf_X3_sizeOf t_844 rfl (show kx o0 29 from k_o0).1 ((show kx o0 29 from k_o0).sh rfl) rfl rfl (Nat.le_of_ble_eq_true rfl) (by decide) rfl dX3_secondSize_25
      refine g_goto (tgt := 32) dX3_secondSize_28 (by decide) ?_
      exact g_retI dX3_secondSize_32 rfl (hQ rc7 ⟨by omega, by omega⟩ )
