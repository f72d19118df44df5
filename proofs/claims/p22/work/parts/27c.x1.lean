section
/-! Contracts of the class: x1. -/
set_option maxRecDepth 100000 in
set_option maxHeartbeats 4000000 in
theorem m_J9_max_7cf53 (G : GT) (P : PH) (a1 : Int) (a2 : Int) (h_a1 : (-2147483648) ≤ a1 ∧ a1 ≤ 2147483647) (h_a2 : (-2147483648) ≤ a2 ∧ a2 ≤ 2147483647) (hB : BdX P) (Q : Option PV → PH → Prop) (hQ : ∀ (r : Int) (_ : (-2147483648) ≤ r ∧ r ≤ 2147483647) (_ : (a1 < a2 ∧ r = a2) ∨ (a2 ≤ a1 ∧ r = a1)), Q (some (vI r)) P) : Ct WSX G 1 iJ9_max_7cf53 [vI a1, vI a2] P Q := by
  refine Ct.ofF (by decide +kernel) (l0 := [(0, vI a1), (1, vI a2)]) rfl (Nat.le_of_ble_eq_true rfl) ?_
  refine g_iload_n dJ9_max_7cf53_0 rfl ?_
  refine g_iload_n dJ9_max_7cf53_1 rfl ?_
  refine g_icmp_lt (tgt := 9) dJ9_max_7cf53_2 (by decide) ⟨by omega, by omega⟩ ⟨by omega, by omega⟩ (fun k1 => ?_) (fun k1 => ?_)
  · refine g_iload_n dJ9_max_7cf53_9 rfl ?_
    exact g_retI dJ9_max_7cf53_10 rfl (hQ a2 ⟨by omega, by omega⟩ (by omega))
  · refine g_iload_n dJ9_max_7cf53_5 rfl ?_
    refine g_goto (tgt := 10) dJ9_max_7cf53_6 (by decide) ?_
    exact g_retI dJ9_max_7cf53_10 rfl (hQ a1 ⟨by omega, by omega⟩ (by omega))
set_option maxRecDepth 100000 in
set_option maxHeartbeats 4000000 in
theorem m_J9_min_7cf53 (G : GT) (P : PH) (a1 : Int) (a2 : Int) (h_a1 : (-2147483648) ≤ a1 ∧ a1 ≤ 2147483647) (h_a2 : (-2147483648) ≤ a2 ∧ a2 ≤ 2147483647) (hB : BdX P) (Q : Option PV → PH → Prop) (hQ : ∀ (r : Int) (_ : (-2147483648) ≤ r ∧ r ≤ 2147483647) (_ : (a2 < a1 ∧ r = a2) ∨ (a1 ≤ a2 ∧ r = a1)), Q (some (vI r)) P) : Ct WSX G 1 iJ9_min_7cf53 [vI a1, vI a2] P Q := by
  refine Ct.ofF (by decide +kernel) (l0 := [(0, vI a1), (1, vI a2)]) rfl (Nat.le_of_ble_eq_true rfl) ?_
  refine g_iload_n dJ9_min_7cf53_0 rfl ?_
  refine g_iload_n dJ9_min_7cf53_1 rfl ?_
  refine g_icmp_gt (tgt := 9) dJ9_min_7cf53_2 (by decide) ⟨by omega, by omega⟩ ⟨by omega, by omega⟩ (fun k1 => ?_) (fun k1 => ?_)
  · refine g_iload_n dJ9_min_7cf53_9 rfl ?_
    exact g_retI dJ9_min_7cf53_10 rfl (hQ a2 ⟨by omega, by omega⟩ (by omega))
  · refine g_iload_n dJ9_min_7cf53_5 rfl ?_
    refine g_goto (tgt := 10) dJ9_min_7cf53_6 (by decide) ?_
    exact g_retI dJ9_min_7cf53_10 rfl (hQ a1 ⟨by omega, by omega⟩ (by omega))
set_option maxRecDepth 100000 in
set_option maxHeartbeats 4000000 in
theorem m_J9_floorMod_7cf53 (G : GT) (P : PH) (a1 : Int) (a2 : Int) (h_a1 : (-2147483648) ≤ a1 ∧ a1 ≤ 2147483647) (h_a2 : (-2147483648) ≤ a2 ∧ a2 ≤ 2147483647) (hB : BdX P) (p_p : 0 < a2) (Q : Option PV → PH → Prop) (hQ : ∀ (r : Int) (_ : (-2147483648) ≤ r ∧ r ≤ 2147483647) (_ : 0 ≤ r ∧ r < a2), Q (some (vI r)) P) : Ct WSX G 1 iJ9_floorMod_7cf53 [vI a1, vI a2] P Q := by
  refine Ct.ofF (by decide +kernel) (l0 := [(0, vI a1), (1, vI a2)]) rfl (Nat.le_of_ble_eq_true rfl) ?_
  have hs := irem_sgn (x := a1) (y := a2) h_a1 ⟨p_p, by omega⟩
  have hr := irem_any (x := a1) (y := a2) h_a1 ⟨p_p, by omega⟩
  have hxs := ixor_sgn (x := a1) (y := a2) h_a1 ⟨by omega, by omega⟩
  refine g_iload_n dJ9_floorMod_7cf53_0 rfl ?_
  refine g_iload_n dJ9_floorMod_7cf53_1 rfl ?_
  refine g_irem dJ9_floorMod_7cf53_2 ⟨⟨by omega, by omega⟩, by omega⟩ ?_
  refine g_nm (fun b1 e_b1 => ?_)
  have h_b1 := irem_ir a1 a2
  rw [← e_b1] at h_b1
  refine g_istore_n (l1 := [(2, vI b1), (0, vI a1), (1, vI a2)]) dJ9_floorMod_7cf53_3 (by decide) rfl ?_
  refine g_iload_n dJ9_floorMod_7cf53_4 rfl ?_
  refine g_iload_n dJ9_floorMod_7cf53_5 rfl ?_
  refine g_ixor dJ9_floorMod_7cf53_6 ?_
  refine g_nm (fun b2 e_b2 => ?_)
  have h_b2 := ixor_ir a1 a2
  rw [← e_b2] at h_b2
  refine g_if_ge (tgt := 18) dJ9_floorMod_7cf53_7 (by decide) ⟨by omega, by omega⟩ (fun k3 => ?_) (fun k3 => ?_)
  · refine g_iload_n dJ9_floorMod_7cf53_18 rfl ?_
    exact g_retI dJ9_floorMod_7cf53_19 rfl (hQ b1 ⟨by omega, by omega⟩ (by omega))
  · refine g_iload_n dJ9_floorMod_7cf53_10 rfl ?_
    refine g_if_eq (tgt := 18) dJ9_floorMod_7cf53_11 (by decide) ⟨by omega, by omega⟩ (fun k4 => ?_) (fun k4 => ?_)
    · refine g_iload_n dJ9_floorMod_7cf53_18 rfl ?_
      exact g_retI dJ9_floorMod_7cf53_19 rfl (hQ b1 ⟨by omega, by omega⟩ (by omega))
    · refine g_iload_n dJ9_floorMod_7cf53_14 rfl ?_
      refine g_iload_n dJ9_floorMod_7cf53_15 rfl ?_
      refine g_iadd dJ9_floorMod_7cf53_16 ?_
      exact g_retI dJ9_floorMod_7cf53_17 rfl (hQ (b1 + a2) ⟨by omega, by omega⟩ (by omega))
set_option maxRecDepth 100000 in
set_option maxHeartbeats 4000000 in
theorem m_J6_bitCount_0f7a4 (G : GT) (P : PH) (a1 : Int) (h_a1 : (-2147483648) ≤ a1 ∧ a1 ≤ 2147483647) (hB : BdX P) (Q : Option PV → PH → Prop) (hQ : ∀ (r : Int) (_ : (-2147483648) ≤ r ∧ r ≤ 2147483647), Q (some (vI r)) P) : Ct WSX G 1 iJ6_bitCount_0f7a4 [vI a1] P Q := by
  refine Ct.ofF (by decide +kernel) (l0 := [(0, vI a1)]) rfl (Nat.le_of_ble_eq_true rfl) ?_
  refine g_iload_n dJ6_bitCount_0f7a4_0 rfl ?_
  refine g_iload_n dJ6_bitCount_0f7a4_1 rfl ?_
  refine g_iconst dJ6_bitCount_0f7a4_2 ?_
  refine g_iushr dJ6_bitCount_0f7a4_3 ?_
  refine g_nm (fun b1 e_b1 => ?_)
  have h_b1 := iushr_ir a1 1
  rw [← e_b1] at h_b1
  refine g_ldcw (z := 1431655765) dJ6_bitCount_0f7a4_4 t_1115 (by decide) ?_
  refine g_iand dJ6_bitCount_0f7a4_7 ?_
  refine g_nm (fun b2 e_b2 => ?_)
  have h_b2 := iand_r (x := b1) (y := 1431655765) ⟨by omega, by omega⟩
  rw [← e_b2] at h_b2
  refine g_isub dJ6_bitCount_0f7a4_8 ?_
  refine g_norm (fun r3 h_r3 e_r3 => ?_)
  refine g_istore_n (l1 := [(0, vI r3)]) dJ6_bitCount_0f7a4_9 (by decide) rfl ?_
  refine g_iload_n dJ6_bitCount_0f7a4_10 rfl ?_
  refine g_ldcw (z := 858993459) dJ6_bitCount_0f7a4_11 t_1116 (by decide) ?_
  refine g_iand dJ6_bitCount_0f7a4_14 ?_
  refine g_nm (fun b4 e_b4 => ?_)
  have h_b4 := iand_r (x := r3) (y := 858993459) ⟨by omega, by omega⟩
  rw [← e_b4] at h_b4
  refine g_iload_n dJ6_bitCount_0f7a4_15 rfl ?_
  refine g_iconst dJ6_bitCount_0f7a4_16 ?_
  refine g_iushr dJ6_bitCount_0f7a4_17 ?_
  refine g_nm (fun b5 e_b5 => ?_)
  have h_b5 := iushr_ir r3 2
  rw [← e_b5] at h_b5
  refine g_ldcw (z := 858993459) dJ6_bitCount_0f7a4_18 t_1116 (by decide) ?_
  refine g_iand dJ6_bitCount_0f7a4_21 ?_
  refine g_nm (fun b6 e_b6 => ?_)
  have h_b6 := iand_r (x := b5) (y := 858993459) ⟨by omega, by omega⟩
  rw [← e_b6] at h_b6
  refine g_iadd dJ6_bitCount_0f7a4_22 ?_
  refine g_istore_n (l1 := [(0, vI (b4 + b6))]) dJ6_bitCount_0f7a4_23 (by decide) rfl ?_
  refine g_iload_n dJ6_bitCount_0f7a4_24 rfl ?_
  refine g_iload_n dJ6_bitCount_0f7a4_25 rfl ?_
  refine g_iconst dJ6_bitCount_0f7a4_26 ?_
  refine g_iushr dJ6_bitCount_0f7a4_27 ?_
  refine g_nm (fun b7 e_b7 => ?_)
  have h_b7 := iushr_ir (b4 + b6) 4
  rw [← e_b7] at h_b7
  refine g_iadd dJ6_bitCount_0f7a4_28 ?_
  refine g_norm (fun r8 h_r8 e_r8 => ?_)
  refine g_ldcw (z := 252645135) dJ6_bitCount_0f7a4_29 t_1117 (by decide) ?_
  refine g_iand dJ6_bitCount_0f7a4_32 ?_
  refine g_nm (fun b9 e_b9 => ?_)
  have h_b9 := iand_r (x := r8) (y := 252645135) ⟨by omega, by omega⟩
  rw [← e_b9] at h_b9
  refine g_istore_n (l1 := [(0, vI b9)]) dJ6_bitCount_0f7a4_33 (by decide) rfl ?_
  refine g_iload_n dJ6_bitCount_0f7a4_34 rfl ?_
  refine g_iload_n dJ6_bitCount_0f7a4_35 rfl ?_
  refine g_bipush dJ6_bitCount_0f7a4_36 (by decide) ?_
  refine g_iushr dJ6_bitCount_0f7a4_38 ?_
  refine g_nm (fun b10 e_b10 => ?_)
  have h_b10 := iushr_ir b9 8
  rw [← e_b10] at h_b10
  refine g_iadd dJ6_bitCount_0f7a4_39 ?_
  refine g_norm (fun r11 h_r11 e_r11 => ?_)
  refine g_istore_n (l1 := [(0, vI r11)]) dJ6_bitCount_0f7a4_40 (by decide) rfl ?_
  refine g_iload_n dJ6_bitCount_0f7a4_41 rfl ?_
  refine g_iload_n dJ6_bitCount_0f7a4_42 rfl ?_
  refine g_bipush dJ6_bitCount_0f7a4_43 (by decide) ?_
  refine g_iushr dJ6_bitCount_0f7a4_45 ?_
  refine g_nm (fun b12 e_b12 => ?_)
  have h_b12 := iushr_ir r11 16
  rw [← e_b12] at h_b12
  refine g_iadd dJ6_bitCount_0f7a4_46 ?_
  refine g_norm (fun r13 h_r13 e_r13 => ?_)
  refine g_istore_n (l1 := [(0, vI r13)]) dJ6_bitCount_0f7a4_47 (by decide) rfl ?_
  refine g_iload_n dJ6_bitCount_0f7a4_48 rfl ?_
  refine g_bipush dJ6_bitCount_0f7a4_49 (by decide) ?_
  refine g_iand dJ6_bitCount_0f7a4_51 ?_
  refine g_nm (fun b14 e_b14 => ?_)
  have h_b14 := iand_r (x := r13) (y := 63) ⟨by omega, by omega⟩
  rw [← e_b14] at h_b14
  exact g_retI dJ6_bitCount_0f7a4_52 rfl (hQ b14 ⟨by omega, by omega⟩ )
set_option maxRecDepth 100000 in
set_option maxHeartbeats 4000000 in
theorem m_X1_add_B10 (G : GT) (P : PH) (a1 : Int) (h_a1 : (-2147483648) ≤ a1 ∧ a1 ≤ 2147483647) (hB : BdX P) (Q : Option PV → PH → Prop) (hQ : ∀ (P1 : PH) (_ : BdX P1) (_ : FrX ([(3, 1)], [4]) P P1), Q none P1) : Ct WSX G 1 iX1_add [vR 3, vI a1] P Q := by
  refine Ct.of (by decide) (l0 := [(0, vR 3), (1, vI a1)]) rfl (Nat.le_of_ble_eq_true rfl) ?_
  refine g_aload_n dX1_add_0 rfl ?_
  refine x_g3_1 (z := (P 3 1)) (⟨by decide, rfl⟩ : kx 3 3) ffX1_21 dX1_add_1 rfl ?_
  have f1 := bx_3_1 (o := 3) hB (⟨by decide, rfl⟩ : kx 3 3)
  refine g_if_lt (tgt := 43) dX1_add_4 (by decide) ⟨by have q0 := bx_3_1 (o := 3) hB (⟨by decide, rfl⟩ : kx 3 3); omega, by have q0 := bx_3_1 (o := 3) hB (⟨by decide, rfl⟩ : kx 3 3); omega⟩ (fun k2 => by exfalso; have q0 := bx_3_1 (o := 3) hB (⟨by decide, rfl⟩ : kx 3 3); omega) (fun k2 => ?_)
  refine g_aload_n dX1_add_7 rfl ?_
  refine x_g3_1 (z := (P 3 1)) (⟨by decide, rfl⟩ : kx 3 3) ffX1_21 dX1_add_8 rfl ?_
  refine g_aload_n dX1_add_11 rfl ?_
  refine x_g3_0 (n := 4) (⟨by decide, rfl⟩ : kx 3 3) ffX1_15 dX1_add_12 rfl ?_
  refine x_n4 (⟨by decide, rfl⟩ : kx 4 4) dX1_add_15 ?_
  refine g_icmp_ge (tgt := 43) dX1_add_16 (by decide) ⟨by have q0 := bx_3_1 (o := 3) hB (⟨by decide, rfl⟩ : kx 3 3); omega, by have q0 := bx_3_1 (o := 3) hB (⟨by decide, rfl⟩ : kx 3 3); omega⟩ (by decide) (fun k3 => ?_) (fun k3 => ?_)
  · exact g_retV dX1_add_43 rfl (hQ _ hB FrX.rf )
  · refine g_aload_n dX1_add_19 rfl ?_
    refine x_g3_0 (n := 4) (⟨by decide, rfl⟩ : kx 3 3) ffX1_15 dX1_add_20 rfl ?_
    refine g_aload_n dX1_add_23 rfl ?_
    refine x_g3_1 (z := (P 3 1)) (⟨by decide, rfl⟩ : kx 3 3) ffX1_21 dX1_add_24 rfl ?_
    refine g_iload_n dX1_add_27 rfl ?_
    refine g_sipush dX1_add_28 (by decide) ?_
    refine g_iand dX1_add_31 ?_
    refine g_nm (fun b4 e_b4 => ?_)
    have h_b4 := iand_r (x := a1) (y := 255) ⟨by omega, by omega⟩
    rw [← e_b4] at h_b4
    refine x_s4 (⟨by decide, rfl⟩ : kx 4 4) dX1_add_32 ⟨by have q0 := bx_3_1 (o := 3) hB (⟨by decide, rfl⟩ : kx 3 3); omega, by have q0 := bx_3_1 (o := 3) hB (⟨by decide, rfl⟩ : kx 3 3); omega⟩ ?_
    have hB5 := by_4 (z := b4) (k := (P 3 1)) hB (⟨by decide, rfl⟩ : kx 4 4) ⟨by omega, by omega⟩
    refine g_aload_n dX1_add_33 rfl ?_
    refine g_dup dX1_add_34 rfl ?_
    refine x_g3_1 (z := (P 3 1)) (⟨by decide, rfl⟩ : kx 3 3) ffX1_21 dX1_add_35 ((up_o (kx.ne (⟨by decide, rfl⟩ : kx 3 3) (⟨by decide, rfl⟩ : kx 4 4) rfl)).trans rfl) ?_
    refine g_iconst dX1_add_38 ?_
    refine g_iadd dX1_add_39 ?_
    refine x_p3_1 (⟨by decide, rfl⟩ : kx 3 3) pfX1_21 dX1_add_40 ?_
    have hB6 := by_3_1 (z := ((P 3 1) + 1)) hB5 (⟨by decide, rfl⟩ : kx 3 3) ⟨by have q0 := bx_3_1 (o := 3) hB (⟨by decide, rfl⟩ : kx 3 3); omega, by have q0 := bx_3_1 (o := 3) hB (⟨by decide, rfl⟩ : kx 3 3); omega⟩
    exact g_retV dX1_add_43 rfl (hQ _ hB6 (FrX.s (FrX.s FrX.rf (⟨by decide, rfl⟩ : kx 4 4) rfl) (⟨by decide, rfl⟩ : kx 3 3) rfl) )
set_option maxRecDepth 100000 in
set_option maxHeartbeats 4000000 in
theorem m_X11_letterOf (G : GT) (P : PH) (a1 : Int) (a2 : Int) (h_a1 : (-2147483648) ≤ a1 ∧ a1 ≤ 2147483647) (h_a2 : (-2147483648) ≤ a2 ∧ a2 ≤ 2147483647) (hB : BdX P) (Q : Option PV → PH → Prop) (hQ : ∀ (r : Int) (_ : (-2147483648) ≤ r ∧ r ≤ 2147483647), Q (some (vI r)) P) : Ct WSX G 1 iX11_letterOf [vI a1, vI a2] P Q := by
  refine Ct.of (by decide) (l0 := [(0, vI a1), (1, vI a2)]) rfl (Nat.le_of_ble_eq_true rfl) ?_
  refine g_iload_n dX11_letterOf_0 rfl ?_
  refine g_istore_n (l1 := [(2, vI a1), (0, vI a1), (1, vI a2)]) dX11_letterOf_1 (by decide) rfl ?_
  refine g_iconst dX11_letterOf_2 ?_
  refine g_istore_n (l1 := [(3, vI 5), (2, vI a1), (0, vI a1), (1, vI a2)]) dX11_letterOf_3 (by decide) rfl ?_
  have L4_0 : ∀ (n4_0 : Nat) (x4_3_0 : Int) (h_x4_3_0 : (-2147483648) ≤ x4_3_0 ∧ x4_3_0 ≤ 5) (x4_2_0 : Int) (h_x4_2_0 : (-2147483648) ≤ x4_2_0 ∧ x4_2_0 ≤ 2147483647) (hm4_0 : ((x4_3_0 - (-2147483649)) : Int).toNat < n4_0), Go WSX G 1 iX11_letterOf 4 [(1, vI a2), (2, vI x4_2_0), (3, vI x4_3_0)] [] P Q := by
    intro n4_0
    induction n4_0 with
    | zero => intro x4_3_0 h_x4_3_0 x4_2_0 h_x4_2_0 hm4_0; exact absurd hm4_0 (Nat.not_lt_zero _)
    | succ n4_0 ih4_0 =>
    intro x4_3_0 h_x4_3_0 x4_2_0 h_x4_2_0 hm4_0
    refine g_iload_n dX11_letterOf_4 rfl ?_
    refine g_iload_n dX11_letterOf_5 rfl ?_
    refine g_icmp_le (tgt := 20) dX11_letterOf_6 (by decide) ⟨by omega, by omega⟩ ⟨by omega, by omega⟩ (fun k35 => ?_) (fun k35 => ?_)
    · refine g_iload_n dX11_letterOf_20 rfl ?_
      refine g_bipush dX11_letterOf_21 (by decide) ?_
      refine g_irem dX11_letterOf_23 ⟨(by decide), by decide⟩ ?_
      refine g_nm (fun b36 e_b36 => ?_)
      have h_b36 := irem_any (x := x4_2_0) (y := 27) ⟨by omega, by omega⟩ ⟨by omega, by omega⟩
      rw [← e_b36] at h_b36
      exact g_retI dX11_letterOf_24 rfl (hQ b36 ⟨by omega, by omega⟩ )
    · refine g_iload_n dX11_letterOf_9 rfl ?_
      refine g_bipush dX11_letterOf_10 (by decide) ?_
      refine g_idiv dX11_letterOf_12 ⟨(by decide), by decide⟩ ?_
      refine g_nm (fun b37 e_b37 => ?_)
      have h_b37 := idiv_ir x4_2_0 27
      rw [← e_b37] at h_b37
      refine g_istore_n (l1 := [(2, vI b37), (1, vI a2), (3, vI x4_3_0)]) dX11_letterOf_13 (by decide) rfl ?_
      refine g_iinc (l1 := [(3, vI (x4_3_0 + (-1))), (2, vI b37), (1, vI a2)]) dX11_letterOf_14 rfl (by decide) rfl ?_
      refine g_goto (tgt := 4) dX11_letterOf_17 (by decide) ?_
      refine g_forget (l1 := [(1, vI a2), (2, vI b37), (3, vI (x4_3_0 + (-1)))]) (by intro q hq; simp only [List.mem_cons, List.not_mem_nil, or_false] at hq ⊢; rcases hq with rfl | rfl | rfl <;> simp) ?_
      exact ih4_0 (x4_3_0 + (-1)) ⟨by omega, by omega⟩ b37 ⟨by omega, by omega⟩ (by omega)
  refine g_forget (l1 := [(1, vI a2), (2, vI a1), (3, vI 5)]) (by intro q hq; simp only [List.mem_cons, List.not_mem_nil, or_false] at hq ⊢; rcases hq with rfl | rfl | rfl <;> simp) ?_
  exact L4_0 _ 5 (by decide) a1 ⟨by omega, by omega⟩ (Nat.lt_succ_self _)
set_option maxRecDepth 100000 in
set_option maxHeartbeats 4000000 in
theorem m_X1_addNumber_B10 (G : GT) (P : PH) (a1 : Int) (h_a1 : (-2147483648) ≤ a1 ∧ a1 ≤ 2147483647) (hB : BdX P) (Q : Option PV → PH → Prop) (hQ : ∀ (P1 : PH) (_ : BdX P1) (_ : FrX ([(3, 1)], [4]) P P1), Q none P1) : Ct WSX G 2 iX1_addNumber [vR 3, vI a1] P Q := by
  refine Ct.of (by decide) (l0 := [(0, vR 3), (1, vI a1)]) rfl (Nat.le_of_ble_eq_true rfl) ?_
  refine g_iload_n dX1_addNumber_0 rfl ?_
  refine g_bipush dX1_addNumber_1 (by decide) ?_
  refine g_icmp_lt (tgt := 20) dX1_addNumber_3 (by decide) ⟨by omega, by omega⟩ (by decide) (fun k1 => ?_) (fun k1 => ?_)
  · refine g_aload_n dX1_addNumber_20 rfl ?_
    refine g_bipush dX1_addNumber_21 (by decide) ?_
    refine g_iload_n dX1_addNumber_23 rfl ?_
    refine g_bipush dX1_addNumber_24 (by decide) ?_
    refine g_irem dX1_addNumber_26 ⟨(by decide), by decide⟩ ?_
    refine g_nm (fun b2 e_b2 => ?_)
    have h_b2 := irem_any (x := a1) (y := 10) ⟨by omega, by omega⟩ ⟨by omega, by omega⟩
    rw [← e_b2] at h_b2
    refine g_iadd dX1_addNumber_27 ?_
    refine g_vV (av := [vI (48 + b2)]) (o := 3) (st := []) (m_X1_add_B10 G P (48 + b2) ⟨by omega, by omega⟩ hB  _ (fun Pc3 hBc3 hFc3 => ⟨rfl, ?_⟩)) cf_X1_add t_671 rfl (show kx 3 3 from (⟨by decide, rfl⟩ : kx 3 3)).1 ((show kx 3 3 from (⟨by decide, rfl⟩ : kx 3 3)).sh rfl) rfl rfl (Nat.le_of_ble_eq_true rfl) (by decide) rfl dX1_addNumber_28
    exact g_retV dX1_addNumber_31 rfl (hQ _ hBc3 (FrX.c FrX.rf hFc3 rfl) )
  · refine g_aload_n dX1_addNumber_6 rfl ?_
    refine g_bipush dX1_addNumber_7 (by decide) ?_
    refine g_iload_n dX1_addNumber_9 rfl ?_
    refine g_bipush dX1_addNumber_10 (by decide) ?_
    refine g_idiv dX1_addNumber_12 ⟨(by decide), by decide⟩ ?_
    refine g_nm (fun b4 e_b4 => ?_)
    have h_b4 := idiv_p (x := a1) (y := 10) ⟨by omega, by omega⟩ ⟨by omega, by omega⟩
    rw [← e_b4] at h_b4
    refine g_bipush dX1_addNumber_13 (by decide) ?_
    refine g_irem dX1_addNumber_15 ⟨(by decide), by decide⟩ ?_
    refine g_nm (fun b5 e_b5 => ?_)
    have h_b5 := irem_b (x := b4) (y := 10) ⟨by omega, by omega⟩ ⟨by omega, by omega⟩
    rw [← e_b5] at h_b5
    refine g_iadd dX1_addNumber_16 ?_
    refine g_vV (av := [vI (48 + b5)]) (o := 3) (st := []) (m_X1_add_B10 G P (48 + b5) ⟨by omega, by omega⟩ hB  _ (fun Pc6 hBc6 hFc6 => ⟨rfl, ?_⟩)) cf_X1_add t_671 rfl (show kx 3 3 from (⟨by decide, rfl⟩ : kx 3 3)).1 ((show kx 3 3 from (⟨by decide, rfl⟩ : kx 3 3)).sh rfl) rfl rfl (Nat.le_of_ble_eq_true rfl) (by decide) rfl dX1_addNumber_17
    refine g_aload_n dX1_addNumber_20 rfl ?_
    refine g_bipush dX1_addNumber_21 (by decide) ?_
    refine g_iload_n dX1_addNumber_23 rfl ?_
    refine g_bipush dX1_addNumber_24 (by decide) ?_
    refine g_irem dX1_addNumber_26 ⟨(by decide), by decide⟩ ?_
    refine g_nm (fun b7 e_b7 => ?_)
    have h_b7 := irem_b (x := a1) (y := 10) ⟨by omega, by omega⟩ ⟨by omega, by omega⟩
    rw [← e_b7] at h_b7
    refine g_iadd dX1_addNumber_27 ?_
    refine g_vV (av := [vI (48 + b7)]) (o := 3) (st := []) (m_X1_add_B10 G Pc6 (48 + b7) ⟨by omega, by omega⟩ hBc6  _ (fun Pc8 hBc8 hFc8 => ⟨rfl, ?_⟩)) cf_X1_add t_671 rfl (show kx 3 3 from (⟨by decide, rfl⟩ : kx 3 3)).1 ((show kx 3 3 from (⟨by decide, rfl⟩ : kx 3 3)).sh rfl) rfl rfl (Nat.le_of_ble_eq_true rfl) (by decide) rfl dX1_addNumber_28
    exact g_retV dX1_addNumber_31 rfl (hQ _ hBc8 (FrX.c (FrX.c FrX.rf hFc6 rfl) hFc8 rfl) )
set_option maxRecDepth 100000 in
set_option maxHeartbeats 4000000 in
theorem m_X1_addName_B10 (G : GT) (P : PH) (a1 : Int) (h_a1 : (-2147483648) ≤ a1 ∧ a1 ≤ 2147483647) (hB : BdX P) (Q : Option PV → PH → Prop) (hQ : ∀ (P1 : PH) (_ : BdX P1) (_ : FrX ([(3, 1)], [4]) P P1), Q none P1) : Ct WSX G 2 iX1_addName [vR 3, vI a1] P Q := by
  refine Ct.of (by decide) (l0 := [(0, vR 3), (1, vI a1)]) rfl (Nat.le_of_ble_eq_true rfl) ?_
  refine g_iconst dX1_addName_0 ?_
  refine g_istore_n (l1 := [(2, vI 0), (0, vR 3), (1, vI a1)]) dX1_addName_1 (by decide) rfl ?_
  have L2_0 : ∀ (n2_0 : Nat) (x2_2_0 : Int) (h_x2_2_0 : 0 ≤ x2_2_0 ∧ x2_2_0 ≤ 6) (H2_0 : PH) (hB2_0 : BdX H2_0) (hE2_0 : FrX ([(3, 1)], [4]) P H2_0) (hm2_0 : ((7 - x2_2_0) : Int).toNat < n2_0), Go WSX G 2 iX1_addName 2 [(0, vR 3), (1, vI a1), (2, vI x2_2_0)] [] H2_0 Q := by
    intro n2_0
    induction n2_0 with
    | zero => intro x2_2_0 h_x2_2_0 H2_0 hB2_0 hE2_0 hm2_0; exact absurd hm2_0 (Nat.not_lt_zero _)
    | succ n2_0 ih2_0 =>
    intro x2_2_0 h_x2_2_0 H2_0 hB2_0 hE2_0 hm2_0
    refine g_iload_n dX1_addName_2 rfl ?_
    refine g_bipush dX1_addName_3 (by decide) ?_
    refine g_icmp_ge (tgt := 32) dX1_addName_5 (by decide) ⟨by omega, by omega⟩ (by decide) (fun k42 => ?_) (fun k42 => ?_)
    · exact g_retV dX1_addName_32 rfl (hQ _ hB2_0 (FrX.c FrX.rf hE2_0 rfl) )
    · refine g_iload_n dX1_addName_8 rfl ?_
      refine g_iload_n dX1_addName_9 rfl ?_
      refine g_nI (av := [vI a1, vI x2_2_0]) (st := []) (m_X11_letterOf G H2_0 a1 x2_2_0 ⟨by omega, by omega⟩ ⟨by omega, by omega⟩ hB2_0  _ (fun rc43 hc43 => ⟨rc43, rfl, ?_⟩)) cf_X11_letterOf (fun U h => h.1) rfl (Nat.le_of_ble_eq_true rfl) (by decide) rfl dX1_addName_10
      refine g_istore_n (l1 := [(3, vI rc43), (0, vR 3), (1, vI a1), (2, vI x2_2_0)]) dX1_addName_13 (by decide) rfl ?_
      refine g_iload_n dX1_addName_14 rfl ?_
      refine g_if_le (tgt := 26) dX1_addName_15 (by decide) ⟨by omega, by omega⟩ (fun k44 => ?_) (fun k44 => ?_)
      · refine g_iinc (l1 := [(2, vI (x2_2_0 + 1)), (3, vI rc43), (0, vR 3), (1, vI a1)]) dX1_addName_26 rfl (by decide) rfl ?_
        refine g_goto (tgt := 2) dX1_addName_29 (by decide) ?_
        refine g_forget (l1 := [(0, vR 3), (1, vI a1), (2, vI (x2_2_0 + 1))]) (by intro q hq; simp only [List.mem_cons, List.not_mem_nil, or_false] at hq ⊢; rcases hq with rfl | rfl | rfl <;> simp) ?_
        exact ih2_0 (x2_2_0 + 1) ⟨by omega, by omega⟩ _ hB2_0 (FrX.c FrX.rf hE2_0 rfl) (by omega)
      · refine g_aload_n dX1_addName_18 rfl ?_
        refine g_bipush dX1_addName_19 (by decide) ?_
        refine g_iload_n dX1_addName_21 rfl ?_
        refine g_iadd dX1_addName_22 ?_
        refine g_norm (fun r45 h_r45 e_r45 => ?_)
        refine g_vV (av := [vI r45]) (o := 3) (st := []) (m_X1_add_B10 G H2_0 r45 ⟨by omega, by omega⟩ hB2_0  _ (fun Pc46 hBc46 hFc46 => ⟨rfl, ?_⟩)) cf_X1_add t_671 rfl (show kx 3 3 from (⟨by decide, rfl⟩ : kx 3 3)).1 ((show kx 3 3 from (⟨by decide, rfl⟩ : kx 3 3)).sh rfl) rfl rfl (Nat.le_of_ble_eq_true rfl) (by decide) rfl dX1_addName_23
        refine g_iinc (l1 := [(2, vI (x2_2_0 + 1)), (3, vI rc43), (0, vR 3), (1, vI a1)]) dX1_addName_26 rfl (by decide) rfl ?_
        refine g_goto (tgt := 2) dX1_addName_29 (by decide) ?_
        refine g_forget (l1 := [(0, vR 3), (1, vI a1), (2, vI (x2_2_0 + 1))]) (by intro q hq; simp only [List.mem_cons, List.not_mem_nil, or_false] at hq ⊢; rcases hq with rfl | rfl | rfl <;> simp) ?_
        exact ih2_0 (x2_2_0 + 1) ⟨by omega, by omega⟩ _ hBc46 (FrX.c (FrX.c FrX.rf hE2_0 rfl) hFc46 rfl) (by omega)
  refine g_forget (l1 := [(0, vR 3), (1, vI a1), (2, vI 0)]) (by intro q hq; simp only [List.mem_cons, List.not_mem_nil, or_false] at hq ⊢; rcases hq with rfl | rfl | rfl <;> simp) ?_
  exact L2_0 _ 0 (by decide) _ hB FrX.rf (Nat.lt_succ_self _)
set_option maxRecDepth 100000 in
set_option maxHeartbeats 4000000 in
theorem m_X1_byteAt_B10 (G : GT) (P : PH) (a1 : Int) (h_a1 : (-2147483648) ≤ a1 ∧ a1 ≤ 2147483647) (hB : BdX P) (Q : Option PV → PH → Prop) (hQ : ∀ (r : Int) (_ : (-1) ≤ r ∧ r ≤ 255), Q (some (vI r)) P) : Ct WSX G 1 iX1_byteAt [vR 3, vI a1] P Q := by
  refine Ct.of (by decide) (l0 := [(0, vR 3), (1, vI a1)]) rfl (Nat.le_of_ble_eq_true rfl) ?_
  refine g_iload_n dX1_byteAt_0 rfl ?_
  refine g_if_lt (tgt := 30) dX1_byteAt_1 (by decide) ⟨by omega, by omega⟩ (fun k1 => ?_) (fun k1 => ?_)
  · refine g_iconst dX1_byteAt_30 ?_
    exact g_retI dX1_byteAt_31 rfl (hQ (-1) (by decide) )
  · refine g_iload_n dX1_byteAt_4 rfl ?_
    refine g_aload_n dX1_byteAt_5 rfl ?_
    refine x_g3_1 (z := (P 3 1)) (⟨by decide, rfl⟩ : kx 3 3) ffX1_21 dX1_byteAt_6 rfl ?_
    have f2 := bx_3_1 (o := 3) hB (⟨by decide, rfl⟩ : kx 3 3)
    refine g_icmp_ge (tgt := 30) dX1_byteAt_9 (by decide) ⟨by omega, by omega⟩ ⟨by have q0 := bx_3_1 (o := 3) hB (⟨by decide, rfl⟩ : kx 3 3); omega, by have q0 := bx_3_1 (o := 3) hB (⟨by decide, rfl⟩ : kx 3 3); omega⟩ (fun k3 => ?_) (fun k3 => ?_)
    · refine g_iconst dX1_byteAt_30 ?_
      exact g_retI dX1_byteAt_31 rfl (hQ (-1) (by decide) )
    · refine g_iload_n dX1_byteAt_12 rfl ?_
      refine g_aload_n dX1_byteAt_13 rfl ?_
      refine x_g3_0 (n := 4) (⟨by decide, rfl⟩ : kx 3 3) ffX1_15 dX1_byteAt_14 rfl ?_
      refine x_n4 (⟨by decide, rfl⟩ : kx 4 4) dX1_byteAt_17 ?_
      refine g_icmp_ge (tgt := 30) dX1_byteAt_18 (by decide) ⟨by omega, by omega⟩ (by decide) (fun k4 => by exfalso; omega) (fun k4 => ?_)
      refine g_aload_n dX1_byteAt_21 rfl ?_
      refine x_g3_0 (n := 4) (⟨by decide, rfl⟩ : kx 3 3) ffX1_15 dX1_byteAt_22 rfl ?_
      refine g_iload_n dX1_byteAt_25 rfl ?_
      refine x_l4 (z := (P 4 a1)) (⟨by decide, rfl⟩ : kx 4 4) dX1_byteAt_26 ⟨by omega, by omega⟩ rfl ?_
      refine g_goto (tgt := 31) dX1_byteAt_27 (by decide) ?_
      exact g_retI dX1_byteAt_31 rfl (hQ (P 4 a1) ⟨by have q0 := bx_4 (o := 4) (k := a1) hB (⟨by decide, rfl⟩ : kx 4 4); omega, by have q0 := bx_4 (o := 4) (k := a1) hB (⟨by decide, rfl⟩ : kx 4 4); omega⟩ )
set_option maxRecDepth 100000 in
set_option maxHeartbeats 4000000 in
theorem m_X1_checkByte_B10 (G : GT) (P : PH) (a1 : Int) (h_a1 : (-2147483648) ≤ a1 ∧ a1 ≤ 2147483647) (hB : BdX P) (Q : Option PV → PH → Prop) (hQ : ∀ (r : Int) (_ : (-2147483648) ≤ r ∧ r ≤ 2147483647), Q (some (vI r)) P) : Ct WSX G 1 iX1_checkByte [vR 3, vI a1] P Q := by
  refine Ct.of (by decide) (l0 := [(0, vR 3), (1, vI a1)]) rfl (Nat.le_of_ble_eq_true rfl) ?_
  refine g_sipush dX1_checkByte_0 (by decide) ?_
  refine g_istore_n (l1 := [(2, vI 199), (0, vR 3), (1, vI a1)]) dX1_checkByte_3 (by decide) rfl ?_
  refine g_iconst dX1_checkByte_4 ?_
  refine g_istore_n (l1 := [(3, vI 0), (2, vI 199), (0, vR 3), (1, vI a1)]) dX1_checkByte_5 (by decide) rfl ?_
  have L6_0 : ∀ (n6_0 : Nat) (x6_3_0 : Int) (h_x6_3_0 : 0 ≤ x6_3_0 ∧ x6_3_0 ≤ 1024) (x6_2_0 : Int) (h_x6_2_0 : 0 ≤ x6_2_0 ∧ x6_2_0 ≤ 250) (hm6_0 : ((1025 - x6_3_0) : Int).toNat < n6_0), Go WSX G 1 iX1_checkByte 6 [(0, vR 3), (1, vI a1), (2, vI x6_2_0), (3, vI x6_3_0)] [] P Q := by
    intro n6_0
    induction n6_0 with
    | zero => intro x6_3_0 h_x6_3_0 x6_2_0 h_x6_2_0 hm6_0; exact absurd hm6_0 (Nat.not_lt_zero _)
    | succ n6_0 ih6_0 =>
    intro x6_3_0 h_x6_3_0 x6_2_0 h_x6_2_0 hm6_0
    refine g_iload_n dX1_checkByte_6 rfl ?_
    refine g_iload_n dX1_checkByte_7 rfl ?_
    refine g_icmp_ge (tgt := 41) dX1_checkByte_8 (by decide) ⟨by omega, by omega⟩ ⟨by omega, by omega⟩ (fun k47 => ?_) (fun k47 => ?_)
    · refine g_iload_n dX1_checkByte_41 rfl ?_
      exact g_retI dX1_checkByte_42 rfl (hQ x6_2_0 ⟨by omega, by omega⟩ )
    · refine g_iload_n dX1_checkByte_11 rfl ?_
      refine g_aload_n dX1_checkByte_12 rfl ?_
      refine x_g3_0 (n := 4) (⟨by decide, rfl⟩ : kx 3 3) ffX1_15 dX1_checkByte_13 rfl ?_
      refine x_n4 (⟨by decide, rfl⟩ : kx 4 4) dX1_checkByte_16 ?_
      refine g_icmp_ge (tgt := 41) dX1_checkByte_17 (by decide) ⟨by omega, by omega⟩ (by decide) (fun k48 => ?_) (fun k48 => ?_)
      · refine g_iload_n dX1_checkByte_41 rfl ?_
        exact g_retI dX1_checkByte_42 rfl (hQ x6_2_0 ⟨by omega, by omega⟩ )
      · refine g_iconst dX1_checkByte_20 ?_
        refine g_iload_n dX1_checkByte_21 rfl ?_
        refine g_imul dX1_checkByte_22 ?_
        refine g_aload_n dX1_checkByte_23 rfl ?_
        refine x_g3_0 (n := 4) (⟨by decide, rfl⟩ : kx 3 3) ffX1_15 dX1_checkByte_24 rfl ?_
        refine g_iload_n dX1_checkByte_27 rfl ?_
        refine x_l4 (z := (P 4 x6_3_0)) (⟨by decide, rfl⟩ : kx 4 4) dX1_checkByte_28 ⟨by omega, by omega⟩ rfl ?_
        refine g_iadd dX1_checkByte_29 ?_
        refine g_sipush dX1_checkByte_30 (by decide) ?_
        refine g_irem dX1_checkByte_33 ⟨(by decide), by decide⟩ ?_
        refine g_nm (fun b49 e_b49 => ?_)
        have h_b49 := irem_b (x := ((5 * x6_2_0) + (P 4 x6_3_0))) (y := 251) ⟨by have q0 := bx_4 (o := 4) (k := x6_3_0) hB (⟨by decide, rfl⟩ : kx 4 4); omega, by have q0 := bx_4 (o := 4) (k := x6_3_0) hB (⟨by decide, rfl⟩ : kx 4 4); omega⟩ ⟨by omega, by omega⟩
        rw [← e_b49] at h_b49
        have f_b49_0 := bx_4 (o := 4) (k := x6_3_0) hB (⟨by decide, rfl⟩ : kx 4 4)
        refine g_istore_n (l1 := [(2, vI b49), (0, vR 3), (1, vI a1), (3, vI x6_3_0)]) dX1_checkByte_34 (by decide) rfl ?_
        refine g_iinc (l1 := [(3, vI (x6_3_0 + 1)), (2, vI b49), (0, vR 3), (1, vI a1)]) dX1_checkByte_35 rfl (by decide) rfl ?_
        refine g_goto (tgt := 6) dX1_checkByte_38 (by decide) ?_
        refine g_forget (l1 := [(0, vR 3), (1, vI a1), (2, vI b49), (3, vI (x6_3_0 + 1))]) (by intro q hq; simp only [List.mem_cons, List.not_mem_nil, or_false] at hq ⊢; rcases hq with rfl | rfl | rfl | rfl <;> simp) ?_
        exact ih6_0 (x6_3_0 + 1) ⟨by omega, by omega⟩ b49 ⟨by omega, by omega⟩ (by omega)
  refine g_forget (l1 := [(0, vR 3), (1, vI a1), (2, vI 199), (3, vI 0)]) (by intro q hq; simp only [List.mem_cons, List.not_mem_nil, or_false] at hq ⊢; rcases hq with rfl | rfl | rfl | rfl <;> simp) ?_
  exact L6_0 _ 0 (by decide) 199 (by decide) (Nat.lt_succ_self _)
set_option maxRecDepth 100000 in
set_option maxHeartbeats 4000000 in
theorem m_X4_renew (G : GT) (P : PH) (hB : BdX P) (Q : Option PV → PH → Prop) (hQ : ∀ (P1 : PH) (_ : BdX P1) (_ : FrX ([(5, 2)], []) P P1), Q none P1) : Ct WSX G 1 iX4_renew [vR 5] P Q := by
  refine Ct.of (by decide) (l0 := [(0, vR 5)]) rfl (Nat.le_of_ble_eq_true rfl) ?_
  refine g_aload_n dX4_renew_0 rfl ?_
  refine g_dup dX4_renew_1 rfl ?_
  refine x_g5_2 (z := (P 5 2)) (⟨by decide, rfl⟩ : kx 5 5) ffX4_18 dX4_renew_2 rfl ?_
  refine g_iconst dX4_renew_5 ?_
  refine g_iadd dX4_renew_6 ?_
  refine g_norm (fun r1 h_r1 e_r1 => ?_)
  refine x_p5_2 (⟨by decide, rfl⟩ : kx 5 5) pfX4_18 dX4_renew_7 ?_
  have hB2 := by_5_2 (z := r1) hB (⟨by decide, rfl⟩ : kx 5 5) ⟨by omega, by omega⟩
  exact g_retV dX4_renew_10 rfl (hQ _ hB2 (FrX.s FrX.rf (⟨by decide, rfl⟩ : kx 5 5) rfl) )
set_option maxRecDepth 100000 in
set_option maxHeartbeats 4000000 in
theorem m_X4_isNew (G : GT) (P : PH) (a1 : Int) (h_a1 : (-2147483648) ≤ a1 ∧ a1 ≤ 2147483647) (hB : BdX P) (Q : Option PV → PH → Prop) (hQ : ∀ (r : Int) (_ : 0 ≤ r ∧ r ≤ 1) (P1 : PH) (_ : BdX P1) (_ : FrX ([], [6]) P P1) (_ : r = 0 ∨ (0 ≤ a1 ∧ a1 ≤ 4095)), Q (some (vI r)) P1) : Ct WSX G 1 iX4_isNew [vR 5, vI a1] P Q := by
  refine Ct.of (by decide) (l0 := [(0, vR 5), (1, vI a1)]) rfl (Nat.le_of_ble_eq_true rfl) ?_
  refine g_iload_n dX4_isNew_0 rfl ?_
  refine g_if_lt (tgt := 24) dX4_isNew_1 (by decide) ⟨by omega, by omega⟩ (fun k1 => ?_) (fun k1 => ?_)
  · refine g_iconst dX4_isNew_24 ?_
    exact g_retZ dX4_isNew_25 rfl (by decide) (hQ 0 (by decide) _ hB FrX.rf (by omega))
  · refine g_iload_n dX4_isNew_4 rfl ?_
    refine g_sipush dX4_isNew_5 (by decide) ?_
    refine g_icmp_ge (tgt := 24) dX4_isNew_8 (by decide) ⟨by omega, by omega⟩ (by decide) (fun k2 => ?_) (fun k2 => ?_)
    · refine g_iconst dX4_isNew_24 ?_
      exact g_retZ dX4_isNew_25 rfl (by decide) (hQ 0 (by decide) _ hB FrX.rf (by omega))
    · refine g_aload_n dX4_isNew_11 rfl ?_
      refine x_g5_0 (n := 6) (⟨by decide, rfl⟩ : kx 5 5) ffX4_9 dX4_isNew_12 rfl ?_
      refine g_iload_n dX4_isNew_15 rfl ?_
      refine x_l6 (z := (P 6 a1)) (⟨by decide, rfl⟩ : kx 6 6) dX4_isNew_16 ⟨by omega, by omega⟩ rfl ?_
      refine g_aload_n dX4_isNew_17 rfl ?_
      refine x_g5_2 (z := (P 5 2)) (⟨by decide, rfl⟩ : kx 5 5) ffX4_18 dX4_isNew_18 rfl ?_
      have f3 := bx_6 (o := 6) (k := a1) hB (⟨by decide, rfl⟩ : kx 6 6)
      have f4 := bx_5_2 (o := 5) hB (⟨by decide, rfl⟩ : kx 5 5)
      refine g_icmp_ne (tgt := 26) dX4_isNew_21 (by decide) ⟨by have q0 := bx_6 (o := 6) (k := a1) hB (⟨by decide, rfl⟩ : kx 6 6); omega, by have q0 := bx_6 (o := 6) (k := a1) hB (⟨by decide, rfl⟩ : kx 6 6); omega⟩ ⟨by have q0 := bx_5_2 (o := 5) hB (⟨by decide, rfl⟩ : kx 5 5); omega, by have q0 := bx_5_2 (o := 5) hB (⟨by decide, rfl⟩ : kx 5 5); omega⟩ (fun k5 => ?_) (fun k5 => ?_)
      · refine g_aload_n dX4_isNew_26 rfl ?_
        refine x_g5_0 (n := 6) (⟨by decide, rfl⟩ : kx 5 5) ffX4_9 dX4_isNew_27 rfl ?_
        refine g_iload_n dX4_isNew_30 rfl ?_
        refine g_aload_n dX4_isNew_31 rfl ?_
        refine x_g5_2 (z := (P 5 2)) (⟨by decide, rfl⟩ : kx 5 5) ffX4_18 dX4_isNew_32 rfl ?_
        refine x_s6 (⟨by decide, rfl⟩ : kx 6 6) dX4_isNew_35 ⟨by omega, by omega⟩ ?_
        have hB6 := by_6 (z := (P 5 2)) (k := a1) hB (⟨by decide, rfl⟩ : kx 6 6) ⟨by have q0 := bx_5_2 (o := 5) hB (⟨by decide, rfl⟩ : kx 5 5); omega, by have q0 := bx_5_2 (o := 5) hB (⟨by decide, rfl⟩ : kx 5 5); omega⟩
        refine g_iconst dX4_isNew_36 ?_
        exact g_retZ dX4_isNew_37 rfl (by decide) (hQ 1 (by decide) _ hB6 (FrX.s FrX.rf (⟨by decide, rfl⟩ : kx 6 6) rfl) (by omega))
      · refine g_iconst dX4_isNew_24 ?_
        exact g_retZ dX4_isNew_25 rfl (by decide) (hQ 0 (by decide) _ hB FrX.rf (by omega))
set_option maxRecDepth 100000 in
set_option maxHeartbeats 4000000 in
theorem m_X2_begin_G4 (G : GT) (P : PH) (o0 : Nat) (k_o0 : kx o0 8) (hB : BdX P) (Q : Option PV → PH → Prop) (hQ : ∀ (P1 : PH) (_ : BdX P1) (_ : FrX ([(5, 2), (8, 3)], []) P P1), Q none P1) : Ct WSX G 2 iX2_begin [vR o0] P Q := by
  refine Ct.of (by decide) (l0 := [(0, vR o0)]) rfl (Nat.le_of_ble_eq_true rfl) ?_
  refine g_aload_n dX2_begin_0 rfl ?_
  refine g_iconst dX2_begin_1 ?_
  refine x_p8_3 k_o0 pfX2_28 dX2_begin_2 ?_
  have hB1 := by_8_3 (z := 0) hB k_o0 (by decide)
  refine g_aload_n dX2_begin_5 rfl ?_
  refine x_g8_2 (n := 5) k_o0 ffX2_24 dX2_begin_6 (cq_8_2 k_o0) ?_
  refine g_vV (av := []) (o := 5) (st := []) (m_X4_renew G (up P o0 3 0)  hB1  _ (fun Pc2 hBc2 hFc2 => ⟨rfl, ?_⟩)) cf_X4_renew t_873 rfl (show kx 5 5 from (⟨by decide, rfl⟩ : kx 5 5)).1 ((show kx 5 5 from (⟨by decide, rfl⟩ : kx 5 5)).sh rfl) rfl rfl (Nat.le_of_ble_eq_true rfl) (by decide) rfl dX2_begin_9
  exact g_retV dX2_begin_12 rfl (hQ _ hBc2 (FrX.c (FrX.s FrX.rf k_o0 rfl) hFc2 rfl) )
set_option maxRecDepth 100000 in
set_option maxHeartbeats 4000000 in
theorem m_X2_add_G4 (G : GT) (P : PH) (o0 : Nat) (a1 : Int) (a2 : Int) (k_o0 : kx o0 8) (h_a1 : (-2147483648) ≤ a1 ∧ a1 ≤ 2147483647) (h_a2 : (-2147483648) ≤ a2 ∧ a2 ≤ 2147483647) (hB : BdX P) (Q : Option PV → PH → Prop) (hQ : ∀ (P1 : PH) (_ : BdX P1) (_ : FrX ([(8, 3)], [6, 7, 9, 10]) P P1), Q none P1) : Ct WSX G 2 iX2_add [vR o0, vI a1, vI a2] P Q := by
  refine Ct.of (by decide) (l0 := [(0, vR o0), (1, vI a1), (2, vI a2)]) rfl (Nat.le_of_ble_eq_true rfl) ?_
  refine g_iload_n dX2_add_0 rfl ?_
  refine g_if_lt (tgt := 11) dX2_add_1 (by decide) ⟨by omega, by omega⟩ (fun k1 => ?_) (fun k1 => ?_)
  · exact g_retV dX2_add_11 rfl (hQ _ hB FrX.rf )
  · refine g_iload_n dX2_add_4 rfl ?_
    refine g_sipush dX2_add_5 (by decide) ?_
    refine g_icmp_lt (tgt := 12) dX2_add_8 (by decide) ⟨by omega, by omega⟩ (by decide) (fun k2 => ?_) (fun k2 => ?_)
    · refine g_aload_n dX2_add_12 rfl ?_
      refine x_g8_2 (n := 5) k_o0 ffX2_24 dX2_add_13 (cq_8_2 k_o0) ?_
      refine g_iload_n dX2_add_16 rfl ?_
      refine g_vI (av := [vI a1]) (o := 5) (st := []) (m_X4_isNew G P a1 ⟨by omega, by omega⟩ hB  _ (fun rc3 hc3 Pc3 hBc3 hFc3 gc3_n => ⟨rc3, rfl, ?_⟩)) cf_X4_isNew t_885 rfl (show kx 5 5 from (⟨by decide, rfl⟩ : kx 5 5)).1 ((show kx 5 5 from (⟨by decide, rfl⟩ : kx 5 5)).sh rfl) rfl rfl (Nat.le_of_ble_eq_true rfl) (by decide) rfl dX2_add_17
      refine g_if_eq (tgt := 79) dX2_add_20 (by decide) ⟨by omega, by omega⟩ (fun k4 => ?_) (fun k4 => ?_)
      · refine g_aload_n dX2_add_79 rfl ?_
        refine x_g8_2 (n := 5) k_o0 ffX2_24 dX2_add_80 (cq_8_2 k_o0) ?_
        refine x_g5_1 (n := 7) (⟨by decide, rfl⟩ : kx 5 5) ffX2_41 dX2_add_83 rfl ?_
        refine g_iload_n dX2_add_86 rfl ?_
        refine x_l7 (z := (P 7 a1)) (⟨by decide, rfl⟩ : kx 7 7) dX2_add_87 ⟨by omega, by omega⟩ ((FrX.g hFc3 (⟨by decide, rfl⟩ : kx 7 7) rfl).trans rfl) ?_
        refine g_istore_n (l1 := [(3, vI (P 7 a1)), (0, vR o0), (1, vI a1), (2, vI a2)]) dX2_add_88 (by decide) rfl ?_
        refine g_iload_n dX2_add_89 rfl ?_
        have f5 := bx_7 (o := 7) (k := a1) hB (⟨by decide, rfl⟩ : kx 7 7)
        refine g_if_lt (tgt := 111) dX2_add_90 (by decide) ⟨by have q0 := bx_7 (o := 7) (k := a1) hB (⟨by decide, rfl⟩ : kx 7 7); omega, by have q0 := bx_7 (o := 7) (k := a1) hB (⟨by decide, rfl⟩ : kx 7 7); omega⟩ (fun k6 => ?_) (fun k6 => ?_)
        · exact g_retV dX2_add_111 rfl (hQ _ hBc3 (FrX.c FrX.rf hFc3 rfl) )
        · refine g_iload_n dX2_add_93 rfl ?_
          refine g_aload_n dX2_add_94 rfl ?_
          refine x_g8_3 (z := (P o0 3)) k_o0 ffX2_28 dX2_add_95 ((FrX.g hFc3 k_o0 rfl).trans rfl) ?_
          have f7 := bx_8_3 (o := o0) hB k_o0
          refine g_icmp_ge (tgt := 111) dX2_add_98 (by decide) ⟨by have q0 := bx_7 (o := 7) (k := a1) hB (⟨by decide, rfl⟩ : kx 7 7); omega, by have q0 := bx_7 (o := 7) (k := a1) hB (⟨by decide, rfl⟩ : kx 7 7); omega⟩ ⟨by have q0 := bx_8_3 (o := o0) hB k_o0; omega, by have q0 := bx_8_3 (o := o0) hB k_o0; omega⟩ (fun k8 => ?_) (fun k8 => ?_)
          · exact g_retV dX2_add_111 rfl (hQ _ hBc3 (FrX.c FrX.rf hFc3 rfl) )
          · refine g_aload_n dX2_add_101 rfl ?_
            refine x_g8_1 (n := (crX o0 1)) k_o0 ffX2_21 dX2_add_102 rfl ?_
            refine g_iload_n dX2_add_105 rfl ?_
            refine g_dup2 dX2_add_106 rfl rfl ?_
            refine x_l10 (z := (P (crX o0 1) (P 7 a1))) (ck_8_1 k_o0) dX2_add_107 ⟨by have q0 := bx_7 (o := 7) (k := a1) hB (⟨by decide, rfl⟩ : kx 7 7); omega, by have q0 := bx_7 (o := 7) (k := a1) hB (⟨by decide, rfl⟩ : kx 7 7); omega⟩ ((FrX.g hFc3 (ck_8_1 k_o0) rfl).trans rfl) ?_
            refine g_iload_n dX2_add_108 rfl ?_
            refine g_iadd dX2_add_109 ?_
            refine g_norm (fun r9 h_r9 e_r9 => ?_)
            refine x_s10 (ck_8_1 k_o0) dX2_add_110 ⟨by have q0 := bx_7 (o := 7) (k := a1) hB (⟨by decide, rfl⟩ : kx 7 7); omega, by have q0 := bx_7 (o := 7) (k := a1) hB (⟨by decide, rfl⟩ : kx 7 7); omega⟩ ?_
            have hB10 := by_10 (z := r9) (k := (P 7 a1)) hBc3 (ck_8_1 k_o0) ⟨by omega, by omega⟩
            exact g_retV dX2_add_111 rfl (hQ _ hB10 (FrX.s (FrX.c FrX.rf hFc3 rfl) (ck_8_1 k_o0) rfl) )
      · refine g_aload_n dX2_add_23 rfl ?_
        refine x_g8_3 (z := (P o0 3)) k_o0 ffX2_28 dX2_add_24 ((FrX.g hFc3 k_o0 rfl).trans rfl) ?_
        refine g_aload_n dX2_add_27 rfl ?_
        refine x_g8_0 (n := (crX o0 0)) k_o0 ffX2_15 dX2_add_28 rfl ?_
        refine x_n9 (ck_8_0 k_o0) dX2_add_31 ?_
        have f11 := bx_8_3 (o := o0) hB k_o0
        refine g_icmp_ge (tgt := 78) dX2_add_32 (by decide) ⟨by have q0 := bx_8_3 (o := o0) hB k_o0; omega, by have q0 := bx_8_3 (o := o0) hB k_o0; omega⟩ (by decide) (fun k12 => ?_) (fun k12 => ?_)
        · exact g_retV dX2_add_78 rfl (hQ _ hBc3 (FrX.c FrX.rf hFc3 rfl) )
        · refine g_aload_n dX2_add_35 rfl ?_
          refine x_g8_2 (n := 5) k_o0 ffX2_24 dX2_add_36 (cq_8_2 k_o0) ?_
          refine x_g5_1 (n := 7) (⟨by decide, rfl⟩ : kx 5 5) ffX2_41 dX2_add_39 rfl ?_
          refine g_iload_n dX2_add_42 rfl ?_
          refine g_aload_n dX2_add_43 rfl ?_
          refine x_g8_3 (z := (P o0 3)) k_o0 ffX2_28 dX2_add_44 ((FrX.g hFc3 k_o0 rfl).trans rfl) ?_
          refine x_s7 (⟨by decide, rfl⟩ : kx 7 7) dX2_add_47 ⟨by omega, by omega⟩ ?_
          have hB13 := by_7 (z := (P o0 3)) (k := a1) hBc3 (⟨by decide, rfl⟩ : kx 7 7) ⟨by have q0 := bx_8_3 (o := o0) hB k_o0; omega, by have q0 := bx_8_3 (o := o0) hB k_o0; omega⟩
          refine g_aload_n dX2_add_48 rfl ?_
          refine x_g8_0 (n := (crX o0 0)) k_o0 ffX2_15 dX2_add_49 rfl ?_
          refine g_aload_n dX2_add_52 rfl ?_
          refine x_g8_3 (z := (P o0 3)) k_o0 ffX2_28 dX2_add_53 ((up_o (kx.ne k_o0 (⟨by decide, rfl⟩ : kx 7 7) rfl)).trans ((FrX.g hFc3 k_o0 rfl).trans rfl)) ?_
          refine g_iload_n dX2_add_56 rfl ?_
          refine x_s9 (ck_8_0 k_o0) dX2_add_57 ⟨by have q0 := bx_8_3 (o := o0) hB k_o0; omega, by have q0 := bx_8_3 (o := o0) hB k_o0; omega⟩ ?_
          have hB14 := by_9 (z := a1) (k := (P o0 3)) hB13 (ck_8_0 k_o0) ⟨by omega, by omega⟩
          refine g_aload_n dX2_add_58 rfl ?_
          refine x_g8_1 (n := (crX o0 1)) k_o0 ffX2_21 dX2_add_59 rfl ?_
          refine g_aload_n dX2_add_62 rfl ?_
          refine x_g8_3 (z := (P o0 3)) k_o0 ffX2_28 dX2_add_63 ((up_o (kx.ne k_o0 (ck_8_0 k_o0) rfl)).trans ((up_o (kx.ne k_o0 (⟨by decide, rfl⟩ : kx 7 7) rfl)).trans ((FrX.g hFc3 k_o0 rfl).trans rfl))) ?_
          refine g_iload_n dX2_add_66 rfl ?_
          refine x_s10 (ck_8_1 k_o0) dX2_add_67 ⟨by have q0 := bx_8_3 (o := o0) hB k_o0; omega, by have q0 := bx_8_3 (o := o0) hB k_o0; omega⟩ ?_
          have hB15 := by_10 (z := a2) (k := (P o0 3)) hB14 (ck_8_1 k_o0) ⟨by omega, by omega⟩
          refine g_aload_n dX2_add_68 rfl ?_
          refine g_dup dX2_add_69 rfl ?_
          refine x_g8_3 (z := (P o0 3)) k_o0 ffX2_28 dX2_add_70 ((up_o (kx.ne k_o0 (ck_8_1 k_o0) rfl)).trans ((up_o (kx.ne k_o0 (ck_8_0 k_o0) rfl)).trans ((up_o (kx.ne k_o0 (⟨by decide, rfl⟩ : kx 7 7) rfl)).trans ((FrX.g hFc3 k_o0 rfl).trans rfl)))) ?_
          refine g_iconst dX2_add_73 ?_
          refine g_iadd dX2_add_74 ?_
          refine x_p8_3 k_o0 pfX2_28 dX2_add_75 ?_
          have hB16 := by_8_3 (z := ((P o0 3) + 1)) hB15 k_o0 ⟨by have q0 := bx_8_3 (o := o0) hB k_o0; omega, by have q0 := bx_8_3 (o := o0) hB k_o0; omega⟩
          exact g_retV dX2_add_78 rfl (hQ _ hB16 (FrX.s (FrX.s (FrX.s (FrX.s (FrX.c FrX.rf hFc3 rfl) (⟨by decide, rfl⟩ : kx 7 7) rfl) (ck_8_0 k_o0) rfl) (ck_8_1 k_o0) rfl) k_o0 rfl) )
    · exact g_retV dX2_add_11 rfl (hQ _ hB FrX.rf )
set_option maxRecDepth 100000 in
set_option maxHeartbeats 4000000 in
theorem m_X2_begin_G2 (G : GT) (P : PH) (o0 : Nat) (k_o0 : kx o0 11) (hB : BdX P) (Q : Option PV → PH → Prop) (hQ : ∀ (P1 : PH) (_ : BdX P1) (_ : FrX ([(5, 2), (11, 3)], []) P P1), Q none P1) : Ct WSX G 2 iX2_begin [vR o0] P Q := by
  refine Ct.of (by decide) (l0 := [(0, vR o0)]) rfl (Nat.le_of_ble_eq_true rfl) ?_
  refine g_aload_n dX2_begin_0 rfl ?_
  refine g_iconst dX2_begin_1 ?_
  refine x_p11_3 k_o0 pfX2_28 dX2_begin_2 ?_
  have hB1 := by_11_3 (z := 0) hB k_o0 (by decide)
  refine g_aload_n dX2_begin_5 rfl ?_
  refine x_g11_2 (n := 5) k_o0 ffX2_24 dX2_begin_6 (cq_11_2 k_o0) ?_
  refine g_vV (av := []) (o := 5) (st := []) (m_X4_renew G (up P o0 3 0)  hB1  _ (fun Pc2 hBc2 hFc2 => ⟨rfl, ?_⟩)) cf_X4_renew t_873 rfl (show kx 5 5 from (⟨by decide, rfl⟩ : kx 5 5)).1 ((show kx 5 5 from (⟨by decide, rfl⟩ : kx 5 5)).sh rfl) rfl rfl (Nat.le_of_ble_eq_true rfl) (by decide) rfl dX2_begin_9
  exact g_retV dX2_begin_12 rfl (hQ _ hBc2 (FrX.c (FrX.s FrX.rf k_o0 rfl) hFc2 rfl) )
set_option maxRecDepth 100000 in
set_option maxHeartbeats 4000000 in
theorem m_X2_add_G2 (G : GT) (P : PH) (o0 : Nat) (a1 : Int) (a2 : Int) (k_o0 : kx o0 11) (h_a1 : (-2147483648) ≤ a1 ∧ a1 ≤ 2147483647) (h_a2 : (-2147483648) ≤ a2 ∧ a2 ≤ 2147483647) (hB : BdX P) (Q : Option PV → PH → Prop) (hQ : ∀ (P1 : PH) (_ : BdX P1) (_ : FrX ([(11, 3)], [6, 7, 12, 13]) P P1), Q none P1) : Ct WSX G 2 iX2_add [vR o0, vI a1, vI a2] P Q := by
  refine Ct.of (by decide) (l0 := [(0, vR o0), (1, vI a1), (2, vI a2)]) rfl (Nat.le_of_ble_eq_true rfl) ?_
  refine g_iload_n dX2_add_0 rfl ?_
  refine g_if_lt (tgt := 11) dX2_add_1 (by decide) ⟨by omega, by omega⟩ (fun k1 => ?_) (fun k1 => ?_)
  · exact g_retV dX2_add_11 rfl (hQ _ hB FrX.rf )
  · refine g_iload_n dX2_add_4 rfl ?_
    refine g_sipush dX2_add_5 (by decide) ?_
    refine g_icmp_lt (tgt := 12) dX2_add_8 (by decide) ⟨by omega, by omega⟩ (by decide) (fun k2 => ?_) (fun k2 => ?_)
    · refine g_aload_n dX2_add_12 rfl ?_
      refine x_g11_2 (n := 5) k_o0 ffX2_24 dX2_add_13 (cq_11_2 k_o0) ?_
      refine g_iload_n dX2_add_16 rfl ?_
      refine g_vI (av := [vI a1]) (o := 5) (st := []) (m_X4_isNew G P a1 ⟨by omega, by omega⟩ hB  _ (fun rc3 hc3 Pc3 hBc3 hFc3 gc3_n => ⟨rc3, rfl, ?_⟩)) cf_X4_isNew t_885 rfl (show kx 5 5 from (⟨by decide, rfl⟩ : kx 5 5)).1 ((show kx 5 5 from (⟨by decide, rfl⟩ : kx 5 5)).sh rfl) rfl rfl (Nat.le_of_ble_eq_true rfl) (by decide) rfl dX2_add_17
      refine g_if_eq (tgt := 79) dX2_add_20 (by decide) ⟨by omega, by omega⟩ (fun k4 => ?_) (fun k4 => ?_)
      · refine g_aload_n dX2_add_79 rfl ?_
        refine x_g11_2 (n := 5) k_o0 ffX2_24 dX2_add_80 (cq_11_2 k_o0) ?_
        refine x_g5_1 (n := 7) (⟨by decide, rfl⟩ : kx 5 5) ffX2_41 dX2_add_83 rfl ?_
        refine g_iload_n dX2_add_86 rfl ?_
        refine x_l7 (z := (P 7 a1)) (⟨by decide, rfl⟩ : kx 7 7) dX2_add_87 ⟨by omega, by omega⟩ ((FrX.g hFc3 (⟨by decide, rfl⟩ : kx 7 7) rfl).trans rfl) ?_
        refine g_istore_n (l1 := [(3, vI (P 7 a1)), (0, vR o0), (1, vI a1), (2, vI a2)]) dX2_add_88 (by decide) rfl ?_
        refine g_iload_n dX2_add_89 rfl ?_
        have f5 := bx_7 (o := 7) (k := a1) hB (⟨by decide, rfl⟩ : kx 7 7)
        refine g_if_lt (tgt := 111) dX2_add_90 (by decide) ⟨by have q0 := bx_7 (o := 7) (k := a1) hB (⟨by decide, rfl⟩ : kx 7 7); omega, by have q0 := bx_7 (o := 7) (k := a1) hB (⟨by decide, rfl⟩ : kx 7 7); omega⟩ (fun k6 => ?_) (fun k6 => ?_)
        · exact g_retV dX2_add_111 rfl (hQ _ hBc3 (FrX.c FrX.rf hFc3 rfl) )
        · refine g_iload_n dX2_add_93 rfl ?_
          refine g_aload_n dX2_add_94 rfl ?_
          refine x_g11_3 (z := (P o0 3)) k_o0 ffX2_28 dX2_add_95 ((FrX.g hFc3 k_o0 rfl).trans rfl) ?_
          have f7 := bx_11_3 (o := o0) hB k_o0
          refine g_icmp_ge (tgt := 111) dX2_add_98 (by decide) ⟨by have q0 := bx_7 (o := 7) (k := a1) hB (⟨by decide, rfl⟩ : kx 7 7); omega, by have q0 := bx_7 (o := 7) (k := a1) hB (⟨by decide, rfl⟩ : kx 7 7); omega⟩ ⟨by have q0 := bx_11_3 (o := o0) hB k_o0; omega, by have q0 := bx_11_3 (o := o0) hB k_o0; omega⟩ (fun k8 => ?_) (fun k8 => ?_)
          · exact g_retV dX2_add_111 rfl (hQ _ hBc3 (FrX.c FrX.rf hFc3 rfl) )
          · refine g_aload_n dX2_add_101 rfl ?_
            refine x_g11_1 (n := (crX o0 1)) k_o0 ffX2_21 dX2_add_102 rfl ?_
            refine g_iload_n dX2_add_105 rfl ?_
            refine g_dup2 dX2_add_106 rfl rfl ?_
            refine x_l13 (z := (P (crX o0 1) (P 7 a1))) (ck_11_1 k_o0) dX2_add_107 ⟨by have q0 := bx_7 (o := 7) (k := a1) hB (⟨by decide, rfl⟩ : kx 7 7); omega, by have q0 := bx_7 (o := 7) (k := a1) hB (⟨by decide, rfl⟩ : kx 7 7); omega⟩ ((FrX.g hFc3 (ck_11_1 k_o0) rfl).trans rfl) ?_
            refine g_iload_n dX2_add_108 rfl ?_
            refine g_iadd dX2_add_109 ?_
            refine g_norm (fun r9 h_r9 e_r9 => ?_)
            refine x_s13 (ck_11_1 k_o0) dX2_add_110 ⟨by have q0 := bx_7 (o := 7) (k := a1) hB (⟨by decide, rfl⟩ : kx 7 7); omega, by have q0 := bx_7 (o := 7) (k := a1) hB (⟨by decide, rfl⟩ : kx 7 7); omega⟩ ?_
            have hB10 := by_13 (z := r9) (k := (P 7 a1)) hBc3 (ck_11_1 k_o0) ⟨by omega, by omega⟩
            exact g_retV dX2_add_111 rfl (hQ _ hB10 (FrX.s (FrX.c FrX.rf hFc3 rfl) (ck_11_1 k_o0) rfl) )
      · refine g_aload_n dX2_add_23 rfl ?_
        refine x_g11_3 (z := (P o0 3)) k_o0 ffX2_28 dX2_add_24 ((FrX.g hFc3 k_o0 rfl).trans rfl) ?_
        refine g_aload_n dX2_add_27 rfl ?_
        refine x_g11_0 (n := (crX o0 0)) k_o0 ffX2_15 dX2_add_28 rfl ?_
        refine x_n12 (ck_11_0 k_o0) dX2_add_31 ?_
        have f11 := bx_11_3 (o := o0) hB k_o0
        refine g_icmp_ge (tgt := 78) dX2_add_32 (by decide) ⟨by have q0 := bx_11_3 (o := o0) hB k_o0; omega, by have q0 := bx_11_3 (o := o0) hB k_o0; omega⟩ (by decide) (fun k12 => ?_) (fun k12 => ?_)
        · exact g_retV dX2_add_78 rfl (hQ _ hBc3 (FrX.c FrX.rf hFc3 rfl) )
        · refine g_aload_n dX2_add_35 rfl ?_
          refine x_g11_2 (n := 5) k_o0 ffX2_24 dX2_add_36 (cq_11_2 k_o0) ?_
          refine x_g5_1 (n := 7) (⟨by decide, rfl⟩ : kx 5 5) ffX2_41 dX2_add_39 rfl ?_
          refine g_iload_n dX2_add_42 rfl ?_
          refine g_aload_n dX2_add_43 rfl ?_
          refine x_g11_3 (z := (P o0 3)) k_o0 ffX2_28 dX2_add_44 ((FrX.g hFc3 k_o0 rfl).trans rfl) ?_
          refine x_s7 (⟨by decide, rfl⟩ : kx 7 7) dX2_add_47 ⟨by omega, by omega⟩ ?_
          have hB13 := by_7 (z := (P o0 3)) (k := a1) hBc3 (⟨by decide, rfl⟩ : kx 7 7) ⟨by have q0 := bx_11_3 (o := o0) hB k_o0; omega, by have q0 := bx_11_3 (o := o0) hB k_o0; omega⟩
          refine g_aload_n dX2_add_48 rfl ?_
          refine x_g11_0 (n := (crX o0 0)) k_o0 ffX2_15 dX2_add_49 rfl ?_
          refine g_aload_n dX2_add_52 rfl ?_
          refine x_g11_3 (z := (P o0 3)) k_o0 ffX2_28 dX2_add_53 ((up_o (kx.ne k_o0 (⟨by decide, rfl⟩ : kx 7 7) rfl)).trans ((FrX.g hFc3 k_o0 rfl).trans rfl)) ?_
          refine g_iload_n dX2_add_56 rfl ?_
          refine x_s12 (ck_11_0 k_o0) dX2_add_57 ⟨by have q0 := bx_11_3 (o := o0) hB k_o0; omega, by have q0 := bx_11_3 (o := o0) hB k_o0; omega⟩ ?_
          have hB14 := by_12 (z := a1) (k := (P o0 3)) hB13 (ck_11_0 k_o0) ⟨by omega, by omega⟩
          refine g_aload_n dX2_add_58 rfl ?_
          refine x_g11_1 (n := (crX o0 1)) k_o0 ffX2_21 dX2_add_59 rfl ?_
          refine g_aload_n dX2_add_62 rfl ?_
          refine x_g11_3 (z := (P o0 3)) k_o0 ffX2_28 dX2_add_63 ((up_o (kx.ne k_o0 (ck_11_0 k_o0) rfl)).trans ((up_o (kx.ne k_o0 (⟨by decide, rfl⟩ : kx 7 7) rfl)).trans ((FrX.g hFc3 k_o0 rfl).trans rfl))) ?_
          refine g_iload_n dX2_add_66 rfl ?_
          refine x_s13 (ck_11_1 k_o0) dX2_add_67 ⟨by have q0 := bx_11_3 (o := o0) hB k_o0; omega, by have q0 := bx_11_3 (o := o0) hB k_o0; omega⟩ ?_
          have hB15 := by_13 (z := a2) (k := (P o0 3)) hB14 (ck_11_1 k_o0) ⟨by omega, by omega⟩
          refine g_aload_n dX2_add_68 rfl ?_
          refine g_dup dX2_add_69 rfl ?_
          refine x_g11_3 (z := (P o0 3)) k_o0 ffX2_28 dX2_add_70 ((up_o (kx.ne k_o0 (ck_11_1 k_o0) rfl)).trans ((up_o (kx.ne k_o0 (ck_11_0 k_o0) rfl)).trans ((up_o (kx.ne k_o0 (⟨by decide, rfl⟩ : kx 7 7) rfl)).trans ((FrX.g hFc3 k_o0 rfl).trans rfl)))) ?_
          refine g_iconst dX2_add_73 ?_
          refine g_iadd dX2_add_74 ?_
          refine x_p11_3 k_o0 pfX2_28 dX2_add_75 ?_
          have hB16 := by_11_3 (z := ((P o0 3) + 1)) hB15 k_o0 ⟨by have q0 := bx_11_3 (o := o0) hB k_o0; omega, by have q0 := bx_11_3 (o := o0) hB k_o0; omega⟩
          exact g_retV dX2_add_78 rfl (hQ _ hB16 (FrX.s (FrX.s (FrX.s (FrX.s (FrX.c FrX.rf hFc3 rfl) (⟨by decide, rfl⟩ : kx 7 7) rfl) (ck_11_0 k_o0) rfl) (ck_11_1 k_o0) rfl) k_o0 rfl) )
    · exact g_retV dX2_add_11 rfl (hQ _ hB FrX.rf )
set_option maxRecDepth 100000 in
set_option maxHeartbeats 4000000 in
theorem m_X2_addParts_G2_G2 (G : GT) (P : PH) (o0 : Nat) (o1 : Nat) (a1 : Int) (k_o0 : kx o0 11) (k_o1 : kx o1 11) (h_a1 : (-2147483648) ≤ a1 ∧ a1 ≤ 2147483647) (hB : BdX P) (Q : Option PV → PH → Prop) (hQ : ∀ (P1 : PH) (_ : BdX P1) (_ : FrX ([(11, 3)], [6, 7, 12, 13]) P P1), Q none P1) : Ct WSX G 3 iX2_addParts [vR o0, vR o1, vI a1] P Q := by
  refine Ct.of (by decide) (l0 := [(0, vR o0), (1, vR o1), (2, vI a1)]) rfl (Nat.le_of_ble_eq_true rfl) ?_
  refine g_iconst dX2_addParts_0 ?_
  refine g_istore_n (l1 := [(3, vI 0), (0, vR o0), (1, vR o1), (2, vI a1)]) dX2_addParts_1 (by decide) rfl ?_
  have L2_0 : ∀ (n2_0 : Nat) (x2_3_0 : Int) (h_x2_3_0 : 0 ≤ x2_3_0 ∧ x2_3_0 ≤ 2048) (H2_0 : PH) (hB2_0 : BdX H2_0) (hE2_0 : FrX ([(11, 3)], [6, 7, 12, 13]) P H2_0) (hm2_0 : ((2049 - x2_3_0) : Int).toNat < n2_0), Go WSX G 3 iX2_addParts 2 [(0, vR o0), (1, vR o1), (2, vI a1), (3, vI x2_3_0)] [] H2_0 Q := by
    intro n2_0
    induction n2_0 with
    | zero => intro x2_3_0 h_x2_3_0 H2_0 hB2_0 hE2_0 hm2_0; exact absurd hm2_0 (Nat.not_lt_zero _)
    | succ n2_0 ih2_0 =>
    intro x2_3_0 h_x2_3_0 H2_0 hB2_0 hE2_0 hm2_0
    refine g_iload_n dX2_addParts_2 rfl ?_
    refine g_aload_n dX2_addParts_3 rfl ?_
    refine x_g11_3 (z := (H2_0 o1 3)) k_o1 ffX2_28 dX2_addParts_4 rfl ?_
    have f82 := bx_11_3 (o := o1) hB2_0 k_o1
    refine g_icmp_ge (tgt := 34) dX2_addParts_7 (by decide) ⟨by omega, by omega⟩ ⟨by have q0 := bx_11_3 (o := o1) hB2_0 k_o1; omega, by have q0 := bx_11_3 (o := o1) hB2_0 k_o1; omega⟩ (fun k83 => ?_) (fun k83 => ?_)
    · exact g_retV dX2_addParts_34 rfl (hQ _ hB2_0 (FrX.c FrX.rf hE2_0 rfl) )
    · refine g_aload_n dX2_addParts_10 rfl ?_
      refine g_aload_n dX2_addParts_11 rfl ?_
      refine x_g11_0 (n := (crX o1 0)) k_o1 ffX2_15 dX2_addParts_12 rfl ?_
      refine g_iload_n dX2_addParts_15 rfl ?_
      refine x_l12 (z := (H2_0 (crX o1 0) x2_3_0)) (ck_11_0 k_o1) dX2_addParts_16 ⟨by omega, by omega⟩ rfl ?_
      refine g_iload_n dX2_addParts_17 rfl ?_
      refine g_iand dX2_addParts_18 ?_
      refine g_nm (fun b84 e_b84 => ?_)
      have h_b84 := iand_ir (H2_0 (crX o1 0) x2_3_0) a1
      rw [← e_b84] at h_b84
      refine g_aload_n dX2_addParts_19 rfl ?_
      refine x_g11_1 (n := (crX o1 1)) k_o1 ffX2_21 dX2_addParts_20 rfl ?_
      refine g_iload_n dX2_addParts_23 rfl ?_
      refine x_l13 (z := (H2_0 (crX o1 1) x2_3_0)) (ck_11_1 k_o1) dX2_addParts_24 ⟨by omega, by omega⟩ rfl ?_
      have f85 := bx_13 (o := (crX o1 1)) (k := x2_3_0) hB2_0 (ck_11_1 k_o1)
      refine g_vV (av := [vI b84, vI (H2_0 (crX o1 1) x2_3_0)]) (o := o0) (st := []) (m_X2_add_G2 G H2_0 o0 b84 (H2_0 (crX o1 1) x2_3_0) k_o0 ⟨by omega, by omega⟩ ⟨by have q0 := bx_13 (o := (crX o1 1)) (k := x2_3_0) hB2_0 (ck_11_1 k_o1); omega, by have q0 := bx_13 (o := (crX o1 1)) (k := x2_3_0) hB2_0 (ck_11_1 k_o1); omega⟩ hB2_0  _ (fun Pc86 hBc86 hFc86 => ⟨rfl, ?_⟩)) cf_X2_add t_900 rfl (show kx o0 11 from k_o0).1 ((show kx o0 11 from k_o0).sh rfl) rfl rfl (Nat.le_of_ble_eq_true rfl) (by decide) rfl dX2_addParts_25
      refine g_iinc (l1 := [(3, vI (x2_3_0 + 1)), (0, vR o0), (1, vR o1), (2, vI a1)]) dX2_addParts_28 rfl (by decide) rfl ?_
      refine g_goto (tgt := 2) dX2_addParts_31 (by decide) ?_
      refine g_forget (l1 := [(0, vR o0), (1, vR o1), (2, vI a1), (3, vI (x2_3_0 + 1))]) (by intro q hq; simp only [List.mem_cons, List.not_mem_nil, or_false] at hq ⊢; rcases hq with rfl | rfl | rfl | rfl <;> simp) ?_
      exact ih2_0 (x2_3_0 + 1) ⟨by omega, by omega⟩ _ hBc86 (FrX.c (FrX.c FrX.rf hE2_0 rfl) hFc86 rfl) (by omega)
  refine g_forget (l1 := [(0, vR o0), (1, vR o1), (2, vI a1), (3, vI 0)]) (by intro q hq; simp only [List.mem_cons, List.not_mem_nil, or_false] at hq ⊢; rcases hq with rfl | rfl | rfl | rfl <;> simp) ?_
  exact L2_0 _ 0 (by decide) _ hB FrX.rf (Nat.lt_succ_self _)
set_option maxRecDepth 100000 in
set_option maxHeartbeats 4000000 in
theorem m_X2_addProducts_G4_G4_G2 (G : GT) (P : PH) (o0 : Nat) (o1 : Nat) (o2 : Nat) (k_o0 : kx o0 8) (k_o1 : kx o1 8) (k_o2 : kx o2 11) (hB : BdX P) (Q : Option PV → PH → Prop) (hQ : ∀ (P1 : PH) (_ : BdX P1) (_ : FrX ([(8, 3)], [6, 7, 9, 10]) P P1), Q none P1) : Ct WSX G 3 iX2_addProducts [vR o0, vR o1, vR o2] P Q := by
  refine Ct.of (by decide) (l0 := [(0, vR o0), (1, vR o1), (2, vR o2)]) rfl (Nat.le_of_ble_eq_true rfl) ?_
  refine g_iconst dX2_addProducts_0 ?_
  refine g_istore_n (l1 := [(3, vI 0), (0, vR o0), (1, vR o1), (2, vR o2)]) dX2_addProducts_1 (by decide) rfl ?_
  have L2_0 : ∀ (n2_0 : Nat) (x2_3_0 : Int) (h_x2_3_0 : 0 ≤ x2_3_0 ∧ x2_3_0 ≤ 4096) (H2_0 : PH) (hB2_0 : BdX H2_0) (hE2_0 : FrX ([(8, 3)], [6, 7, 9, 10]) P H2_0) (hm2_0 : ((4097 - x2_3_0) : Int).toNat < n2_0), Go WSX G 3 iX2_addProducts 2 [(0, vR o0), (1, vR o1), (2, vR o2), (3, vI x2_3_0)] [] H2_0 Q := by
    intro n2_0
    induction n2_0 with
    | zero => intro x2_3_0 h_x2_3_0 H2_0 hB2_0 hE2_0 hm2_0; exact absurd hm2_0 (Nat.not_lt_zero _)
    | succ n2_0 ih2_0 =>
    intro x2_3_0 h_x2_3_0 H2_0 hB2_0 hE2_0 hm2_0
    refine g_iload_n dX2_addProducts_2 rfl ?_
    refine g_aload_n dX2_addProducts_3 rfl ?_
    refine x_g8_3 (z := (H2_0 o1 3)) k_o1 ffX2_28 dX2_addProducts_4 rfl ?_
    have f1674 := bx_8_3 (o := o1) hB2_0 k_o1
    refine g_icmp_ge (tgt := 66) dX2_addProducts_7 (by decide) ⟨by omega, by omega⟩ ⟨by have q0 := bx_8_3 (o := o1) hB2_0 k_o1; omega, by have q0 := bx_8_3 (o := o1) hB2_0 k_o1; omega⟩ (fun k1675 => ?_) (fun k1675 => ?_)
    · exact g_retV dX2_addProducts_66 rfl (hQ _ hB2_0 (FrX.c FrX.rf hE2_0 rfl) )
    · refine g_iconst dX2_addProducts_10 ?_
      refine g_istore (l1 := [(4, vI 0), (0, vR o0), (1, vR o1), (2, vR o2), (3, vI x2_3_0)]) dX2_addProducts_11 (by decide) rfl ?_
      have L13_1675 : ∀ (n13_1675 : Nat) (x13_4_1675 : Int) (h_x13_4_1675 : 0 ≤ x13_4_1675 ∧ x13_4_1675 ≤ 2048) (H13_1675 : PH) (hB13_1675 : BdX H13_1675) (hE13_1675 : FrX ([(8, 3)], [6, 7, 9, 10]) H2_0 H13_1675) (hm13_1675 : ((2049 - x13_4_1675) : Int).toNat < n13_1675), Go WSX G 3 iX2_addProducts 13 [(0, vR o0), (1, vR o1), (2, vR o2), (3, vI x2_3_0), (4, vI x13_4_1675)] [] H13_1675 Q := by
        intro n13_1675
        induction n13_1675 with
        | zero => intro x13_4_1675 h_x13_4_1675 H13_1675 hB13_1675 hE13_1675 hm13_1675; exact absurd hm13_1675 (Nat.not_lt_zero _)
        | succ n13_1675 ih13_1675 =>
        intro x13_4_1675 h_x13_4_1675 H13_1675 hB13_1675 hE13_1675 hm13_1675
        refine g_iload dX2_addProducts_13 rfl ?_
        refine g_aload_n dX2_addProducts_15 rfl ?_
        refine x_g11_3 (z := (P o2 3)) k_o2 ffX2_28 dX2_addProducts_16 ((FrX.g hE13_1675 k_o2 rfl).trans ((FrX.g hE2_0 k_o2 rfl).trans rfl)) ?_
        have f1757 := bx_11_3 (o := o2) hB k_o2
        refine g_icmp_ge (tgt := 60) dX2_addProducts_19 (by decide) ⟨by omega, by omega⟩ ⟨by have q0 := bx_11_3 (o := o2) hB k_o2; omega, by have q0 := bx_11_3 (o := o2) hB k_o2; omega⟩ (fun k1758 => ?_) (fun k1758 => ?_)
        · refine g_iinc (l1 := [(3, vI (x2_3_0 + 1)), (0, vR o0), (1, vR o1), (2, vR o2), (4, vI x13_4_1675)]) dX2_addProducts_60 rfl (by decide) rfl ?_
          refine g_goto (tgt := 2) dX2_addProducts_63 (by decide) ?_
          refine g_forget (l1 := [(0, vR o0), (1, vR o1), (2, vR o2), (3, vI (x2_3_0 + 1))]) (by intro q hq; simp only [List.mem_cons, List.not_mem_nil, or_false] at hq ⊢; rcases hq with rfl | rfl | rfl | rfl <;> simp) ?_
          exact ih2_0 (x2_3_0 + 1) ⟨by omega, by omega⟩ _ hB13_1675 (FrX.c (FrX.c FrX.rf hE2_0 rfl) hE13_1675 rfl) (by omega)
        · refine g_aload_n dX2_addProducts_22 rfl ?_
          refine g_aload_n dX2_addProducts_23 rfl ?_
          refine x_g8_0 (n := (crX o1 0)) k_o1 ffX2_15 dX2_addProducts_24 rfl ?_
          refine g_iload_n dX2_addProducts_27 rfl ?_
          refine x_l9 (z := (H13_1675 (crX o1 0) x2_3_0)) (ck_8_0 k_o1) dX2_addProducts_28 ⟨by omega, by omega⟩ rfl ?_
          refine g_aload_n dX2_addProducts_29 rfl ?_
          refine x_g11_0 (n := (crX o2 0)) k_o2 ffX2_15 dX2_addProducts_30 rfl ?_
          refine g_iload dX2_addProducts_33 rfl ?_
          refine x_l12 (z := (P (crX o2 0) x13_4_1675)) (ck_11_0 k_o2) dX2_addProducts_35 ⟨by omega, by omega⟩ ((FrX.g hE13_1675 (ck_11_0 k_o2) rfl).trans ((FrX.g hE2_0 (ck_11_0 k_o2) rfl).trans rfl)) ?_
          refine g_iand dX2_addProducts_36 ?_
          refine g_nm (fun b1759 e_b1759 => ?_)
          have h_b1759 := iand_ir (H13_1675 (crX o1 0) x2_3_0) (P (crX o2 0) x13_4_1675)
          rw [← e_b1759] at h_b1759
          refine g_aload_n dX2_addProducts_37 rfl ?_
          refine x_g8_1 (n := (crX o1 1)) k_o1 ffX2_21 dX2_addProducts_38 rfl ?_
          refine g_iload_n dX2_addProducts_41 rfl ?_
          refine x_l10 (z := (H13_1675 (crX o1 1) x2_3_0)) (ck_8_1 k_o1) dX2_addProducts_42 ⟨by omega, by omega⟩ rfl ?_
          refine g_aload_n dX2_addProducts_43 rfl ?_
          refine x_g11_1 (n := (crX o2 1)) k_o2 ffX2_21 dX2_addProducts_44 rfl ?_
          refine g_iload dX2_addProducts_47 rfl ?_
          refine x_l13 (z := (P (crX o2 1) x13_4_1675)) (ck_11_1 k_o2) dX2_addProducts_49 ⟨by omega, by omega⟩ ((FrX.g hE13_1675 (ck_11_1 k_o2) rfl).trans ((FrX.g hE2_0 (ck_11_1 k_o2) rfl).trans rfl)) ?_
          refine g_imul dX2_addProducts_50 ?_
          refine g_norm (fun r1760 h_r1760 e_r1760 => ?_)
          refine g_vV (av := [vI b1759, vI r1760]) (o := o0) (st := []) (m_X2_add_G4 G H13_1675 o0 b1759 r1760 k_o0 ⟨by omega, by omega⟩ ⟨by omega, by omega⟩ hB13_1675  _ (fun Pc1761 hBc1761 hFc1761 => ⟨rfl, ?_⟩)) cf_X2_add t_900 rfl (show kx o0 8 from k_o0).1 ((show kx o0 8 from k_o0).sh rfl) rfl rfl (Nat.le_of_ble_eq_true rfl) (by decide) rfl dX2_addProducts_51
          refine g_iinc (l1 := [(4, vI (x13_4_1675 + 1)), (0, vR o0), (1, vR o1), (2, vR o2), (3, vI x2_3_0)]) dX2_addProducts_54 rfl (by decide) rfl ?_
          refine g_goto (tgt := 13) dX2_addProducts_57 (by decide) ?_
          refine g_forget (l1 := [(0, vR o0), (1, vR o1), (2, vR o2), (3, vI x2_3_0), (4, vI (x13_4_1675 + 1))]) (by intro q hq; simp only [List.mem_cons, List.not_mem_nil, or_false] at hq ⊢; rcases hq with rfl | rfl | rfl | rfl | rfl <;> simp) ?_
          exact ih13_1675 (x13_4_1675 + 1) ⟨by omega, by omega⟩ _ hBc1761 (FrX.c (FrX.c FrX.rf hE13_1675 rfl) hFc1761 rfl) (by omega)
      refine g_forget (l1 := [(0, vR o0), (1, vR o1), (2, vR o2), (3, vI x2_3_0), (4, vI 0)]) (by intro q hq; simp only [List.mem_cons, List.not_mem_nil, or_false] at hq ⊢; rcases hq with rfl | rfl | rfl | rfl | rfl <;> simp) ?_
      exact L13_1675 _ 0 (by decide) _ hB2_0 FrX.rf (Nat.lt_succ_self _)
  refine g_forget (l1 := [(0, vR o0), (1, vR o1), (2, vR o2), (3, vI 0)]) (by intro q hq; simp only [List.mem_cons, List.not_mem_nil, or_false] at hq ⊢; rcases hq with rfl | rfl | rfl | rfl <;> simp) ?_
  exact L2_0 _ 0 (by decide) _ hB FrX.rf (Nat.lt_succ_self _)
set_option maxRecDepth 100000 in
set_option maxHeartbeats 4000000 in
theorem m_X2_copy_G4_G4 (G : GT) (P : PH) (o0 : Nat) (o1 : Nat) (k_o0 : kx o0 8) (k_o1 : kx o1 8) (hB : BdX P) (Q : Option PV → PH → Prop) (hQ : ∀ (P1 : PH) (_ : BdX P1) (_ : FrX ([(8, 3)], [9, 10]) P P1), Q none P1) : Ct WSX G 2 iX2_copy [vR o0, vR o1] P Q := by
  refine Ct.of (by decide) (l0 := [(0, vR o0), (1, vR o1)]) rfl (Nat.le_of_ble_eq_true rfl) ?_
  refine g_aload_n dX2_copy_0 rfl ?_
  refine g_aload_n dX2_copy_1 rfl ?_
  refine x_g8_3 (z := (P o1 3)) k_o1 ffX2_28 dX2_copy_2 rfl ?_
  refine g_aload_n dX2_copy_5 rfl ?_
  refine x_g8_0 (n := (crX o0 0)) k_o0 ffX2_15 dX2_copy_6 rfl ?_
  refine x_n9 (ck_8_0 k_o0) dX2_copy_9 ?_
  have f1 := bx_8_3 (o := o1) hB k_o1
  refine g_sI (av := [vI (P o1 3), vI 4096]) (st := [vR o0]) (m_J9_min_7cf53 G P (P o1 3) 4096 ⟨by have q0 := bx_8_3 (o := o1) hB k_o1; omega, by have q0 := bx_8_3 (o := o1) hB k_o1; omega⟩ (by decide) hB  _ (fun rc2 hc2 gc2_m => ⟨rc2, rfl, ?_⟩)) cf_J9_min_7cf53 t_895 rfl (Nat.le_of_ble_eq_true rfl) (by decide) rfl dX2_copy_10
  refine x_p8_3 k_o0 pfX2_28 dX2_copy_13 ?_
  have hB3 := by_8_3 (z := rc2) hB k_o0 ⟨by omega, by omega⟩
  refine g_iconst dX2_copy_16 ?_
  refine g_istore_n (l1 := [(2, vI 0), (0, vR o0), (1, vR o1)]) dX2_copy_17 (by decide) rfl ?_
  have L18_3 : ∀ (n18_3 : Nat) (x18_2_3 : Int) (h_x18_2_3 : 0 ≤ x18_2_3 ∧ x18_2_3 ≤ 4096) (H18_3 : PH) (hB18_3 : BdX H18_3) (hE18_3 : FrX ([], [9, 10]) (up P o0 3 rc2) H18_3) (hm18_3 : ((4097 - x18_2_3) : Int).toNat < n18_3), Go WSX G 2 iX2_copy 18 [(0, vR o0), (1, vR o1), (2, vI x18_2_3)] [] H18_3 Q := by
    intro n18_3
    induction n18_3 with
    | zero => intro x18_2_3 h_x18_2_3 H18_3 hB18_3 hE18_3 hm18_3; exact absurd hm18_3 (Nat.not_lt_zero _)
    | succ n18_3 ih18_3 =>
    intro x18_2_3 h_x18_2_3 H18_3 hB18_3 hE18_3 hm18_3
    refine g_iload_n dX2_copy_18 rfl ?_
    refine g_aload_n dX2_copy_19 rfl ?_
    refine x_g8_3 (z := rc2) k_o0 ffX2_28 dX2_copy_20 ((FrX.g hE18_3 k_o0 rfl).trans up_same) ?_
    refine g_icmp_ge (tgt := 56) dX2_copy_23 (by decide) ⟨by omega, by omega⟩ ⟨by omega, by omega⟩ (fun k56 => ?_) (fun k56 => ?_)
    · exact g_retV dX2_copy_56 rfl (hQ _ hB18_3 (FrX.c (FrX.s FrX.rf k_o0 rfl) hE18_3 rfl) )
    · refine g_aload_n dX2_copy_26 rfl ?_
      refine x_g8_0 (n := (crX o0 0)) k_o0 ffX2_15 dX2_copy_27 rfl ?_
      refine g_iload_n dX2_copy_30 rfl ?_
      refine g_aload_n dX2_copy_31 rfl ?_
      refine x_g8_0 (n := (crX o1 0)) k_o1 ffX2_15 dX2_copy_32 rfl ?_
      refine g_iload_n dX2_copy_35 rfl ?_
      refine x_l9 (z := (H18_3 (crX o1 0) x18_2_3)) (ck_8_0 k_o1) dX2_copy_36 ⟨by omega, by omega⟩ rfl ?_
      refine x_s9 (ck_8_0 k_o0) dX2_copy_37 ⟨by omega, by omega⟩ ?_
      have hB57 := by_9 (z := (H18_3 (crX o1 0) x18_2_3)) (k := x18_2_3) hB18_3 (ck_8_0 k_o0) ⟨by have q0 := bx_9 (o := (crX o1 0)) (k := x18_2_3) hB18_3 (ck_8_0 k_o1); omega, by have q0 := bx_9 (o := (crX o1 0)) (k := x18_2_3) hB18_3 (ck_8_0 k_o1); omega⟩
      refine g_aload_n dX2_copy_38 rfl ?_
      refine x_g8_1 (n := (crX o0 1)) k_o0 ffX2_21 dX2_copy_39 rfl ?_
      refine g_iload_n dX2_copy_42 rfl ?_
      refine g_aload_n dX2_copy_43 rfl ?_
      refine x_g8_1 (n := (crX o1 1)) k_o1 ffX2_21 dX2_copy_44 rfl ?_
      refine g_iload_n dX2_copy_47 rfl ?_
      refine x_l10 (z := (H18_3 (crX o1 1) x18_2_3)) (ck_8_1 k_o1) dX2_copy_48 ⟨by omega, by omega⟩ ((up_o (kx.ne (ck_8_1 k_o1) (ck_8_0 k_o0) rfl)).trans rfl) ?_
      refine x_s10 (ck_8_1 k_o0) dX2_copy_49 ⟨by omega, by omega⟩ ?_
      have hB58 := by_10 (z := (H18_3 (crX o1 1) x18_2_3)) (k := x18_2_3) hB57 (ck_8_1 k_o0) ⟨by have q0 := bx_10 (o := (crX o1 1)) (k := x18_2_3) hB18_3 (ck_8_1 k_o1); omega, by have q0 := bx_10 (o := (crX o1 1)) (k := x18_2_3) hB18_3 (ck_8_1 k_o1); omega⟩
      refine g_iinc (l1 := [(2, vI (x18_2_3 + 1)), (0, vR o0), (1, vR o1)]) dX2_copy_50 rfl (by decide) rfl ?_
      refine g_goto (tgt := 18) dX2_copy_53 (by decide) ?_
      refine g_forget (l1 := [(0, vR o0), (1, vR o1), (2, vI (x18_2_3 + 1))]) (by intro q hq; simp only [List.mem_cons, List.not_mem_nil, or_false] at hq ⊢; rcases hq with rfl | rfl | rfl <;> simp) ?_
      exact ih18_3 (x18_2_3 + 1) ⟨by omega, by omega⟩ _ hB58 (FrX.s (FrX.s (FrX.c FrX.rf hE18_3 rfl) (ck_8_0 k_o0) rfl) (ck_8_1 k_o0) rfl) (by omega)
  refine g_forget (l1 := [(0, vR o0), (1, vR o1), (2, vI 0)]) (by intro q hq; simp only [List.mem_cons, List.not_mem_nil, or_false] at hq ⊢; rcases hq with rfl | rfl | rfl <;> simp) ?_
  exact L18_3 _ 0 (by decide) _ hB3 FrX.rf (Nat.lt_succ_self _)
set_option maxRecDepth 100000 in
set_option maxHeartbeats 4000000 in
theorem m_X3_isKind (G : GT) (P : PH) (o0 : Nat) (a1 : Int) (k_o0 : kx o0 29) (h_a1 : (-2147483648) ≤ a1 ∧ a1 ≤ 2147483647) (hB : BdX P) (Q : Option PV → PH → Prop) (hQ : ∀ (r : Int) (_ : 0 ≤ r ∧ r ≤ 1) (_ : r = 0 ∨ (0 ≤ a1 ∧ a1 < P o0 9)), Q (some (vI r)) P) : Ct WSX G 1 iX3_isKind [vR o0, vI a1] P Q := by
  refine Ct.of (by decide) (l0 := [(0, vR o0), (1, vI a1)]) rfl (Nat.le_of_ble_eq_true rfl) ?_
  refine g_iload_n dX3_isKind_0 rfl ?_
  refine g_if_lt (tgt := 16) dX3_isKind_1 (by decide) ⟨by omega, by omega⟩ (fun k1 => ?_) (fun k1 => ?_)
  · refine g_iconst dX3_isKind_16 ?_
    exact g_retZ dX3_isKind_17 rfl (by decide) (hQ 0 (by decide) (by omega))
  · refine g_iload_n dX3_isKind_4 rfl ?_
    refine g_aload_n dX3_isKind_5 rfl ?_
    refine x_g29_9 (z := (P o0 9)) k_o0 ffX3_39 dX3_isKind_6 rfl ?_
    have f2 := bx_29_9 (o := o0) hB k_o0
    refine g_icmp_ge (tgt := 16) dX3_isKind_9 (by decide) ⟨by omega, by omega⟩ ⟨by have q0 := bx_29_9 (o := o0) hB k_o0; omega, by have q0 := bx_29_9 (o := o0) hB k_o0; omega⟩ (fun k3 => ?_) (fun k3 => ?_)
    · refine g_iconst dX3_isKind_16 ?_
      exact g_retZ dX3_isKind_17 rfl (by decide) (hQ 0 (by decide) (by omega))
    · refine g_iconst dX3_isKind_12 ?_
      refine g_goto (tgt := 17) dX3_isKind_13 (by decide) ?_
      exact g_retZ dX3_isKind_17 rfl (by decide) (hQ 1 (by decide) (by omega))
set_option maxRecDepth 100000 in
set_option maxHeartbeats 4000000 in
theorem m_X3_isCon (G : GT) (P : PH) (o0 : Nat) (a1 : Int) (k_o0 : kx o0 29) (h_a1 : (-2147483648) ≤ a1 ∧ a1 ≤ 2147483647) (hB : BdX P) (Q : Option PV → PH → Prop) (hQ : ∀ (r : Int) (_ : 0 ≤ r ∧ r ≤ 1) (_ : r = 0 ∨ (0 ≤ a1 ∧ a1 < P o0 10)), Q (some (vI r)) P) : Ct WSX G 1 iX3_isCon [vR o0, vI a1] P Q := by
  refine Ct.of (by decide) (l0 := [(0, vR o0), (1, vI a1)]) rfl (Nat.le_of_ble_eq_true rfl) ?_
  refine g_iload_n dX3_isCon_0 rfl ?_
  refine g_if_lt (tgt := 16) dX3_isCon_1 (by decide) ⟨by omega, by omega⟩ (fun k1 => ?_) (fun k1 => ?_)
  · refine g_iconst dX3_isCon_16 ?_
    exact g_retZ dX3_isCon_17 rfl (by decide) (hQ 0 (by decide) (by omega))
  · refine g_iload_n dX3_isCon_4 rfl ?_
    refine g_aload_n dX3_isCon_5 rfl ?_
    refine x_g29_10 (z := (P o0 10)) k_o0 ffX3_43 dX3_isCon_6 rfl ?_
    have f2 := bx_29_10 (o := o0) hB k_o0
    refine g_icmp_ge (tgt := 16) dX3_isCon_9 (by decide) ⟨by omega, by omega⟩ ⟨by have q0 := bx_29_10 (o := o0) hB k_o0; omega, by have q0 := bx_29_10 (o := o0) hB k_o0; omega⟩ (fun k3 => ?_) (fun k3 => ?_)
    · refine g_iconst dX3_isCon_16 ?_
      exact g_retZ dX3_isCon_17 rfl (by decide) (hQ 0 (by decide) (by omega))
    · refine g_iconst dX3_isCon_12 ?_
      refine g_goto (tgt := 17) dX3_isCon_13 (by decide) ?_
      exact g_retZ dX3_isCon_17 rfl (by decide) (hQ 1 (by decide) (by omega))
set_option maxRecDepth 100000 in
set_option maxHeartbeats 4000000 in
theorem m_X3_sizeOf (G : GT) (P : PH) (o0 : Nat) (a1 : Int) (k_o0 : kx o0 29) (h_a1 : (-2147483648) ≤ a1 ∧ a1 ≤ 2147483647) (hB : BdX P) (Q : Option PV → PH → Prop) (hQ : ∀ (r : Int) (_ : (-2147483648) ≤ r ∧ r ≤ 2147483647), Q (some (vI r)) P) : Ct WSX G 1 iX3_sizeOf [vR o0, vI a1] P Q := by
  refine Ct.of (by decide) (l0 := [(0, vR o0), (1, vI a1)]) rfl (Nat.le_of_ble_eq_true rfl) ?_
  refine g_iload_n dX3_sizeOf_0 rfl ?_
  refine g_iconst dX3_sizeOf_1 ?_
  refine g_icmp_ne (tgt := 8) dX3_sizeOf_2 (by decide) ⟨by omega, by omega⟩ (by decide) (fun k1 => ?_) (fun k1 => ?_)
  · refine g_iload_n dX3_sizeOf_8 rfl ?_
    refine g_if_lt (tgt := 29) dX3_sizeOf_9 (by decide) ⟨by omega, by omega⟩ (fun k2 => ?_) (fun k2 => ?_)
    · refine g_iconst dX3_sizeOf_29 ?_
      exact g_retI dX3_sizeOf_30 rfl (hQ 0 (by decide) )
    · refine g_iload_n dX3_sizeOf_12 rfl ?_
      refine g_aload_n dX3_sizeOf_13 rfl ?_
      refine x_g29_9 (z := (P o0 9)) k_o0 ffX3_39 dX3_sizeOf_14 rfl ?_
      have f3 := bx_29_9 (o := o0) hB k_o0
      refine g_icmp_ge (tgt := 29) dX3_sizeOf_17 (by decide) ⟨by omega, by omega⟩ ⟨by have q0 := bx_29_9 (o := o0) hB k_o0; omega, by have q0 := bx_29_9 (o := o0) hB k_o0; omega⟩ (fun k4 => ?_) (fun k4 => ?_)
      · refine g_iconst dX3_sizeOf_29 ?_
        exact g_retI dX3_sizeOf_30 rfl (hQ 0 (by decide) )
      · refine g_aload_n dX3_sizeOf_20 rfl ?_
        refine x_g29_3 (n := (crX o0 3)) k_o0 ffX3_21 dX3_sizeOf_21 rfl ?_
        refine g_iload_n dX3_sizeOf_24 rfl ?_
        refine x_l33 (z := (P (crX o0 3) a1)) (ck_29_3 k_o0) dX3_sizeOf_25 ⟨by omega, by omega⟩ rfl ?_
        refine g_goto (tgt := 30) dX3_sizeOf_26 (by decide) ?_
        exact g_retI dX3_sizeOf_30 rfl (hQ (P (crX o0 3) a1) ⟨by have q0 := bx_33 (o := (crX o0 3)) (k := a1) hB (ck_29_3 k_o0); omega, by have q0 := bx_33 (o := (crX o0 3)) (k := a1) hB (ck_29_3 k_o0); omega⟩ )
  · refine g_bipush dX3_sizeOf_5 (by decide) ?_
    exact g_retI dX3_sizeOf_7 rfl (hQ 20 (by decide) )
set_option maxRecDepth 100000 in
set_option maxHeartbeats 4000000 in
theorem m_X3_conNamed (G : GT) (P : PH) (o0 : Nat) (a1 : Int) (k_o0 : kx o0 29) (h_a1 : (-2147483648) ≤ a1 ∧ a1 ≤ 2147483647) (hB : BdX P) (Q : Option PV → PH → Prop) (hQ : ∀ (r : Int) (_ : (-1) ≤ r ∧ r ≤ 23), Q (some (vI r)) P) : Ct WSX G 1 iX3_conNamed [vR o0, vI a1] P Q := by
  refine Ct.of (by decide) (l0 := [(0, vR o0), (1, vI a1)]) rfl (Nat.le_of_ble_eq_true rfl) ?_
  refine g_iconst dX3_conNamed_0 ?_
  refine g_istore_n (l1 := [(2, vI 0), (0, vR o0), (1, vI a1)]) dX3_conNamed_1 (by decide) rfl ?_
  have L2_0 : ∀ (n2_0 : Nat) (x2_2_0 : Int) (h_x2_2_0 : 0 ≤ x2_2_0 ∧ x2_2_0 ≤ 24) (hm2_0 : ((25 - x2_2_0) : Int).toNat < n2_0), Go WSX G 1 iX3_conNamed 2 [(0, vR o0), (1, vI a1), (2, vI x2_2_0)] [] P Q := by
    intro n2_0
    induction n2_0 with
    | zero => intro x2_2_0 h_x2_2_0 hm2_0; exact absurd hm2_0 (Nat.not_lt_zero _)
    | succ n2_0 ih2_0 =>
    intro x2_2_0 h_x2_2_0 hm2_0
    refine g_iload_n dX3_conNamed_2 rfl ?_
    refine g_aload_n dX3_conNamed_3 rfl ?_
    refine x_g29_10 (z := (P o0 10)) k_o0 ffX3_43 dX3_conNamed_4 rfl ?_
    have f42 := bx_29_10 (o := o0) hB k_o0
    refine g_icmp_ge (tgt := 28) dX3_conNamed_7 (by decide) ⟨by omega, by omega⟩ ⟨by have q0 := bx_29_10 (o := o0) hB k_o0; omega, by have q0 := bx_29_10 (o := o0) hB k_o0; omega⟩ (fun k43 => ?_) (fun k43 => ?_)
    · refine g_iconst dX3_conNamed_28 ?_
      exact g_retI dX3_conNamed_29 rfl (hQ (-1) (by decide) )
    · refine g_aload_n dX3_conNamed_10 rfl ?_
      refine x_g29_4 (n := (crX o0 4)) k_o0 ffX3_24 dX3_conNamed_11 rfl ?_
      refine g_iload_n dX3_conNamed_14 rfl ?_
      refine x_l34 (z := (P (crX o0 4) x2_2_0)) (ck_29_4 k_o0) dX3_conNamed_15 ⟨by omega, by omega⟩ rfl ?_
      refine g_iload_n dX3_conNamed_16 rfl ?_
      have f44 := bx_34 (o := (crX o0 4)) (k := x2_2_0) hB (ck_29_4 k_o0)
      refine g_icmp_ne (tgt := 22) dX3_conNamed_17 (by decide) ⟨by have q0 := bx_34 (o := (crX o0 4)) (k := x2_2_0) hB (ck_29_4 k_o0); omega, by have q0 := bx_34 (o := (crX o0 4)) (k := x2_2_0) hB (ck_29_4 k_o0); omega⟩ ⟨by omega, by omega⟩ (fun k45 => ?_) (fun k45 => ?_)
      · refine g_iinc (l1 := [(2, vI (x2_2_0 + 1)), (0, vR o0), (1, vI a1)]) dX3_conNamed_22 rfl (by decide) rfl ?_
        refine g_goto (tgt := 2) dX3_conNamed_25 (by decide) ?_
        refine g_forget (l1 := [(0, vR o0), (1, vI a1), (2, vI (x2_2_0 + 1))]) (by intro q hq; simp only [List.mem_cons, List.not_mem_nil, or_false] at hq ⊢; rcases hq with rfl | rfl | rfl <;> simp) ?_
        exact ih2_0 (x2_2_0 + 1) ⟨by omega, by omega⟩ (by omega)
      · refine g_iload_n dX3_conNamed_20 rfl ?_
        exact g_retI dX3_conNamed_21 rfl (hQ x2_2_0 ⟨by omega, by omega⟩ )
  refine g_forget (l1 := [(0, vR o0), (1, vI a1), (2, vI 0)]) (by intro q hq; simp only [List.mem_cons, List.not_mem_nil, or_false] at hq ⊢; rcases hq with rfl | rfl | rfl <;> simp) ?_
  exact L2_0 _ 0 (by decide) (Nat.lt_succ_self _)
set_option maxRecDepth 100000 in
set_option maxHeartbeats 4000000 in
theorem m_X3_conNamedOf (G : GT) (P : PH) (o0 : Nat) (a1 : Int) (a2 : Int) (k_o0 : kx o0 29) (h_a1 : (-2147483648) ≤ a1 ∧ a1 ≤ 2147483647) (h_a2 : (-2147483648) ≤ a2 ∧ a2 ≤ 2147483647) (hB : BdX P) (Q : Option PV → PH → Prop) (hQ : ∀ (r : Int) (_ : (-1) ≤ r ∧ r ≤ 23), Q (some (vI r)) P) : Ct WSX G 2 iX3_conNamedOf [vR o0, vI a1, vI a2] P Q := by
  refine Ct.of (by decide) (l0 := [(0, vR o0), (1, vI a1), (2, vI a2)]) rfl (Nat.le_of_ble_eq_true rfl) ?_
  refine g_aload_n dX3_conNamedOf_0 rfl ?_
  refine g_iload_n dX3_conNamedOf_1 rfl ?_
  refine g_vI (av := [vI a2]) (o := o0) (st := []) (m_X3_conNamed G P o0 a2 k_o0 ⟨by omega, by omega⟩ hB  _ (fun rc1 hc1 => ⟨rc1, rfl, ?_⟩)) cf_X3_conNamed t_831 rfl (show kx o0 29 from k_o0).1 ((show kx o0 29 from k_o0).sh rfl) rfl rfl (Nat.le_of_ble_eq_true rfl) (by decide) rfl dX3_conNamedOf_2
  refine g_istore_n (l1 := [(3, vI rc1), (0, vR o0), (1, vI a1), (2, vI a2)]) dX3_conNamedOf_5 (by decide) rfl ?_
  refine g_iload_n dX3_conNamedOf_6 rfl ?_
  refine g_iconst dX3_conNamedOf_7 ?_
  refine g_icmp_eq (tgt := 19) dX3_conNamedOf_8 (by decide) ⟨by omega, by omega⟩ (by decide) (fun k2 => ?_) (fun k2 => ?_)
  · refine g_iconst dX3_conNamedOf_19 ?_
    exact g_retI dX3_conNamedOf_20 rfl (hQ (-1) (by decide) )
  · refine g_aload_n dX3_conNamedOf_11 rfl ?_
    refine g_iload_n dX3_conNamedOf_12 rfl ?_
    refine g_vI (av := [vI a1]) (o := o0) (st := []) (m_X3_isKind G P o0 a1 k_o0 ⟨by omega, by omega⟩ hB  _ (fun rc3 hc3 gc3_k => ⟨rc3, rfl, ?_⟩)) cf_X3_isKind t_760 rfl (show kx o0 29 from k_o0).1 ((show kx o0 29 from k_o0).sh rfl) rfl rfl (Nat.le_of_ble_eq_true rfl) (by decide) rfl dX3_conNamedOf_13
    have f4 := bx_29_9 (o := o0) hB k_o0
    refine g_if_ne (tgt := 21) dX3_conNamedOf_16 (by decide) ⟨by omega, by omega⟩ (fun k5 => ?_) (fun k5 => ?_)
    · refine g_aload_n dX3_conNamedOf_21 rfl ?_
      refine x_g29_1 (n := (crX o0 1)) k_o0 ffX3_15 dX3_conNamedOf_22 rfl ?_
      refine g_iload_n dX3_conNamedOf_25 rfl ?_
      refine x_l31 (z := (P (crX o0 1) a1)) (ck_29_1 k_o0) dX3_conNamedOf_26 ⟨by omega, by omega⟩ rfl ?_
      refine g_istore (l1 := [(4, vI (P (crX o0 1) a1)), (3, vI rc1), (0, vR o0), (1, vI a1), (2, vI a2)]) dX3_conNamedOf_27 (by decide) rfl ?_
      refine g_iload_n dX3_conNamedOf_29 rfl ?_
      refine g_iload dX3_conNamedOf_30 rfl ?_
      have f6 := bx_31 (o := (crX o0 1)) (k := a1) hB (ck_29_1 k_o0)
      refine g_icmp_lt (tgt := 52) dX3_conNamedOf_32 (by decide) ⟨by omega, by omega⟩ ⟨by have q0 := bx_31 (o := (crX o0 1)) (k := a1) hB (ck_29_1 k_o0); omega, by have q0 := bx_31 (o := (crX o0 1)) (k := a1) hB (ck_29_1 k_o0); omega⟩ (fun k7 => ?_) (fun k7 => ?_)
      · refine g_iconst dX3_conNamedOf_52 ?_
        exact g_retI dX3_conNamedOf_53 rfl (hQ (-1) (by decide) )
      · refine g_iload_n dX3_conNamedOf_35 rfl ?_
        refine g_iload dX3_conNamedOf_36 rfl ?_
        refine g_aload_n dX3_conNamedOf_38 rfl ?_
        refine x_g29_2 (n := (crX o0 2)) k_o0 ffX3_18 dX3_conNamedOf_39 rfl ?_
        refine g_iload_n dX3_conNamedOf_42 rfl ?_
        refine x_l32 (z := (P (crX o0 2) a1)) (ck_29_2 k_o0) dX3_conNamedOf_43 ⟨by omega, by omega⟩ rfl ?_
        refine g_iadd dX3_conNamedOf_44 ?_
        refine g_norm (fun r8 h_r8 e_r8 => ?_)
        refine g_icmp_ge (tgt := 52) dX3_conNamedOf_45 (by decide) ⟨by omega, by omega⟩ ⟨by omega, by omega⟩ (fun k9 => ?_) (fun k9 => ?_)
        · refine g_iconst dX3_conNamedOf_52 ?_
          exact g_retI dX3_conNamedOf_53 rfl (hQ (-1) (by decide) )
        · refine g_iload_n dX3_conNamedOf_48 rfl ?_
          refine g_goto (tgt := 53) dX3_conNamedOf_49 (by decide) ?_
          exact g_retI dX3_conNamedOf_53 rfl (hQ rc1 ⟨by omega, by omega⟩ )
    · refine g_iconst dX3_conNamedOf_19 ?_
      exact g_retI dX3_conNamedOf_20 rfl (hQ (-1) (by decide) )
set_option maxRecDepth 100000 in
set_option maxHeartbeats 4000000 in
theorem m_X3_conOf (G : GT) (P : PH) (o0 : Nat) (a1 : Int) (a2 : Int) (k_o0 : kx o0 29) (h_a1 : (-2147483648) ≤ a1 ∧ a1 ≤ 2147483647) (h_a2 : (-2147483648) ≤ a2 ∧ a2 ≤ 2147483647) (hB : BdX P) (Q : Option PV → PH → Prop) (hQ : ∀ (r : Int) (_ : (-1) ≤ r ∧ r ≤ 23), Q (some (vI r)) P) : Ct WSX G 2 iX3_conOf [vR o0, vI a1, vI a2] P Q := by
  refine Ct.of (by decide) (l0 := [(0, vR o0), (1, vI a1), (2, vI a2)]) rfl (Nat.le_of_ble_eq_true rfl) ?_
  refine g_aload_n dX3_conOf_0 rfl ?_
  refine g_iload_n dX3_conOf_1 rfl ?_
  refine g_vI (av := [vI a1]) (o := o0) (st := []) (m_X3_isKind G P o0 a1 k_o0 ⟨by omega, by omega⟩ hB  _ (fun rc1 hc1 gc1_k => ⟨rc1, rfl, ?_⟩)) cf_X3_isKind t_760 rfl (show kx o0 29 from k_o0).1 ((show kx o0 29 from k_o0).sh rfl) rfl rfl (Nat.le_of_ble_eq_true rfl) (by decide) rfl dX3_conOf_2
  have f2 := bx_29_9 (o := o0) hB k_o0
  refine g_if_ne (tgt := 10) dX3_conOf_5 (by decide) ⟨by omega, by omega⟩ (fun k3 => ?_) (fun k3 => ?_)
  · refine g_iconst dX3_conOf_10 ?_
    refine g_istore_n (l1 := [(3, vI (-1)), (0, vR o0), (1, vI a1), (2, vI a2)]) dX3_conOf_11 (by decide) rfl ?_
    refine g_iconst dX3_conOf_12 ?_
    refine g_istore (l1 := [(4, vI 0), (3, vI (-1)), (0, vR o0), (1, vI a1), (2, vI a2)]) dX3_conOf_13 (by decide) rfl ?_
    have L15_3 : ∀ (n15_3 : Nat) (x15_4_3 : Int) (h_x15_4_3 : 0 ≤ x15_4_3 ∧ x15_4_3 ≤ 2147483647) (x15_3_3 : Int) (h_x15_3_3 : (-1) ≤ x15_3_3 ∧ x15_3_3 ≤ 23) (hm15_3 : ((2147483648 - x15_4_3) : Int).toNat < n15_3), Go WSX G 2 iX3_conOf 15 [(0, vR o0), (1, vI a1), (2, vI a2), (3, vI x15_3_3), (4, vI x15_4_3)] [] P Q := by
      intro n15_3
      induction n15_3 with
      | zero => intro x15_4_3 h_x15_4_3 x15_3_3 h_x15_3_3 hm15_3; exact absurd hm15_3 (Nat.not_lt_zero _)
      | succ n15_3 ih15_3 =>
      intro x15_4_3 h_x15_4_3 x15_3_3 h_x15_3_3 hm15_3
      refine g_iload dX3_conOf_15 rfl ?_
      refine g_aload_n dX3_conOf_17 rfl ?_
      refine x_g29_2 (n := (crX o0 2)) k_o0 ffX3_18 dX3_conOf_18 rfl ?_
      refine g_iload_n dX3_conOf_21 rfl ?_
      refine x_l32 (z := (P (crX o0 2) a1)) (ck_29_2 k_o0) dX3_conOf_22 ⟨by omega, by omega⟩ rfl ?_
      have f181 := bx_32 (o := (crX o0 2)) (k := a1) hB (ck_29_2 k_o0)
      refine g_icmp_ge (tgt := 66) dX3_conOf_23 (by decide) ⟨by omega, by omega⟩ ⟨by have q0 := bx_32 (o := (crX o0 2)) (k := a1) hB (ck_29_2 k_o0); omega, by have q0 := bx_32 (o := (crX o0 2)) (k := a1) hB (ck_29_2 k_o0); omega⟩ (fun k182 => ?_) (fun k182 => ?_)
      · refine g_iload_n dX3_conOf_66 rfl ?_
        exact g_retI dX3_conOf_67 rfl (hQ x15_3_3 ⟨by omega, by omega⟩ )
      · refine g_aload_n dX3_conOf_26 rfl ?_
        refine x_g29_1 (n := (crX o0 1)) k_o0 ffX3_15 dX3_conOf_27 rfl ?_
        refine g_iload_n dX3_conOf_30 rfl ?_
        refine x_l31 (z := (P (crX o0 1) a1)) (ck_29_1 k_o0) dX3_conOf_31 ⟨by omega, by omega⟩ rfl ?_
        refine g_iload dX3_conOf_32 rfl ?_
        refine g_iadd dX3_conOf_34 ?_
        refine g_norm (fun r183 h_r183 e_r183 => ?_)
        refine g_istore (l1 := [(5, vI r183), (0, vR o0), (1, vI a1), (2, vI a2), (3, vI x15_3_3), (4, vI x15_4_3)]) dX3_conOf_35 (by decide) rfl ?_
        refine g_aload_n dX3_conOf_37 rfl ?_
        refine g_iload dX3_conOf_38 rfl ?_
        refine g_vI (av := [vI r183]) (o := o0) (st := []) (m_X3_isCon G P o0 r183 k_o0 ⟨by omega, by omega⟩ hB  _ (fun rc184 hc184 gc184_k => ⟨rc184, rfl, ?_⟩)) cf_X3_isCon t_840 rfl (show kx o0 29 from k_o0).1 ((show kx o0 29 from k_o0).sh rfl) rfl rfl (Nat.le_of_ble_eq_true rfl) (by decide) rfl dX3_conOf_40
        have f185 := bx_29_10 (o := o0) hB k_o0
        refine g_if_eq (tgt := 60) dX3_conOf_43 (by decide) ⟨by omega, by omega⟩ (fun k186 => ?_) (fun k186 => ?_)
        · refine g_iinc (l1 := [(4, vI (x15_4_3 + 1)), (5, vI r183), (0, vR o0), (1, vI a1), (2, vI a2), (3, vI x15_3_3)]) dX3_conOf_60 rfl (by decide) rfl ?_
          refine g_goto (tgt := 15) dX3_conOf_63 (by decide) ?_
          refine g_forget (l1 := [(0, vR o0), (1, vI a1), (2, vI a2), (3, vI x15_3_3), (4, vI (x15_4_3 + 1))]) (by intro q hq; simp only [List.mem_cons, List.not_mem_nil, or_false] at hq ⊢; rcases hq with rfl | rfl | rfl | rfl | rfl <;> simp) ?_
          exact ih15_3 (x15_4_3 + 1) ⟨by omega, by omega⟩ x15_3_3 ⟨by omega, by omega⟩ (by omega)
        · refine g_aload_n dX3_conOf_46 rfl ?_
          refine x_g29_5 (n := (crX o0 5)) k_o0 ffX3_27 dX3_conOf_47 rfl ?_
          refine g_iload dX3_conOf_50 rfl ?_
          refine x_l35 (z := (P (crX o0 5) r183)) (ck_29_5 k_o0) dX3_conOf_52 ⟨by omega, by omega⟩ rfl ?_
          refine g_iload_n dX3_conOf_53 rfl ?_
          have f187 := bx_35 (o := (crX o0 5)) (k := r183) hB (ck_29_5 k_o0)
          refine g_icmp_gt (tgt := 60) dX3_conOf_54 (by decide) ⟨by have q0 := bx_35 (o := (crX o0 5)) (k := r183) hB (ck_29_5 k_o0); omega, by have q0 := bx_35 (o := (crX o0 5)) (k := r183) hB (ck_29_5 k_o0); omega⟩ ⟨by omega, by omega⟩ (fun k188 => ?_) (fun k188 => ?_)
          · refine g_iinc (l1 := [(4, vI (x15_4_3 + 1)), (5, vI r183), (0, vR o0), (1, vI a1), (2, vI a2), (3, vI x15_3_3)]) dX3_conOf_60 rfl (by decide) rfl ?_
            refine g_goto (tgt := 15) dX3_conOf_63 (by decide) ?_
            refine g_forget (l1 := [(0, vR o0), (1, vI a1), (2, vI a2), (3, vI x15_3_3), (4, vI (x15_4_3 + 1))]) (by intro q hq; simp only [List.mem_cons, List.not_mem_nil, or_false] at hq ⊢; rcases hq with rfl | rfl | rfl | rfl | rfl <;> simp) ?_
            exact ih15_3 (x15_4_3 + 1) ⟨by omega, by omega⟩ x15_3_3 ⟨by omega, by omega⟩ (by omega)
          · refine g_iload dX3_conOf_57 rfl ?_
            refine g_istore_n (l1 := [(3, vI r183), (5, vI r183), (0, vR o0), (1, vI a1), (2, vI a2), (4, vI x15_4_3)]) dX3_conOf_59 (by decide) rfl ?_
            refine g_iinc (l1 := [(4, vI (x15_4_3 + 1)), (3, vI r183), (5, vI r183), (0, vR o0), (1, vI a1), (2, vI a2)]) dX3_conOf_60 rfl (by decide) rfl ?_
            refine g_goto (tgt := 15) dX3_conOf_63 (by decide) ?_
            refine g_forget (l1 := [(0, vR o0), (1, vI a1), (2, vI a2), (3, vI r183), (4, vI (x15_4_3 + 1))]) (by intro q hq; simp only [List.mem_cons, List.not_mem_nil, or_false] at hq ⊢; rcases hq with rfl | rfl | rfl | rfl | rfl <;> simp) ?_
            exact ih15_3 (x15_4_3 + 1) ⟨by omega, by omega⟩ r183 ⟨by omega, by omega⟩ (by omega)
    refine g_forget (l1 := [(0, vR o0), (1, vI a1), (2, vI a2), (3, vI (-1)), (4, vI 0)]) (by intro q hq; simp only [List.mem_cons, List.not_mem_nil, or_false] at hq ⊢; rcases hq with rfl | rfl | rfl | rfl | rfl <;> simp) ?_
    exact L15_3 _ 0 (by decide) (-1) (by decide) (Nat.lt_succ_self _)
  · refine g_iconst dX3_conOf_8 ?_
    exact g_retI dX3_conOf_9 rfl (hQ (-1) (by decide) )
set_option maxRecDepth 100000 in
set_option maxHeartbeats 4000000 in
theorem m_X3_secondSize (G : GT) (P : PH) (o0 : Nat) (a1 : Int) (k_o0 : kx o0 29) (h_a1 : (-2147483648) ≤ a1 ∧ a1 ≤ 2147483647) (hB : BdX P) (Q : Option PV → PH → Prop) (hQ : ∀ (r : Int) (_ : (-2147483648) ≤ r ∧ r ≤ 2147483647), Q (some (vI r)) P) : Ct WSX G 2 iX3_secondSize [vR o0, vI a1] P Q := by
  refine Ct.of (by decide) (l0 := [(0, vR o0), (1, vI a1)]) rfl (Nat.le_of_ble_eq_true rfl) ?_
  refine g_aload_n dX3_secondSize_0 rfl ?_
  refine g_iload_n dX3_secondSize_1 rfl ?_
  refine g_vI (av := [vI a1]) (o := o0) (st := []) (m_X3_isCon G P o0 a1 k_o0 ⟨by omega, by omega⟩ hB  _ (fun rc1 hc1 gc1_k => ⟨rc1, rfl, ?_⟩)) cf_X3_isCon t_840 rfl (show kx o0 29 from k_o0).1 ((show kx o0 29 from k_o0).sh rfl) rfl rfl (Nat.le_of_ble_eq_true rfl) (by decide) rfl dX3_secondSize_2
  have f2 := bx_29_10 (o := o0) hB k_o0
  refine g_if_eq (tgt := 31) dX3_secondSize_5 (by decide) ⟨by omega, by omega⟩ (fun k3 => ?_) (fun k3 => ?_)
  · refine g_iconst dX3_secondSize_31 ?_
    exact g_retI dX3_secondSize_32 rfl (hQ 1 (by decide) )
  · refine g_aload_n dX3_secondSize_8 rfl ?_
    refine x_g29_6 (n := (crX o0 6)) k_o0 ffX3_30 dX3_secondSize_9 rfl ?_
    refine g_iload_n dX3_secondSize_12 rfl ?_
    refine x_l36 (z := (P (crX o0 6) a1)) (ck_29_6 k_o0) dX3_secondSize_13 ⟨by omega, by omega⟩ rfl ?_
    refine g_iconst dX3_secondSize_14 ?_
    have f4 := bx_36 (o := (crX o0 6)) (k := a1) hB (ck_29_6 k_o0)
    refine g_icmp_ne (tgt := 31) dX3_secondSize_15 (by decide) ⟨by have q0 := bx_36 (o := (crX o0 6)) (k := a1) hB (ck_29_6 k_o0); omega, by have q0 := bx_36 (o := (crX o0 6)) (k := a1) hB (ck_29_6 k_o0); omega⟩ (by decide) (fun k5 => ?_) (fun k5 => ?_)
    · refine g_iconst dX3_secondSize_31 ?_
      exact g_retI dX3_secondSize_32 rfl (hQ 1 (by decide) )
    · refine g_aload_n dX3_secondSize_18 rfl ?_
      refine g_aload_n dX3_secondSize_19 rfl ?_
      refine x_g29_8 (n := (crX o0 8)) k_o0 ffX3_36 dX3_secondSize_20 rfl ?_
      refine g_iload_n dX3_secondSize_23 rfl ?_
      refine x_l38 (z := (P (crX o0 8) a1)) (ck_29_8 k_o0) dX3_secondSize_24 ⟨by omega, by omega⟩ rfl ?_
      have f6 := bx_38 (o := (crX o0 8)) (k := a1) hB (ck_29_8 k_o0)
      refine g_vI (av := [vI (P (crX o0 8) a1)]) (o := o0) (st := []) (m_X3_sizeOf G P o0 (P (crX o0 8) a1) k_o0 ⟨by have q0 := bx_38 (o := (crX o0 8)) (k := a1) hB (ck_29_8 k_o0); omega, by have q0 := bx_38 (o := (crX o0 8)) (k := a1) hB (ck_29_8 k_o0); omega⟩ hB  _ (fun rc7 hc7 => ⟨rc7, rfl, ?_⟩)) cf_X3_sizeOf t_844 rfl (show kx o0 29 from k_o0).1 ((show kx o0 29 from k_o0).sh rfl) rfl rfl (Nat.le_of_ble_eq_true rfl) (by decide) rfl dX3_secondSize_25
      refine g_goto (tgt := 32) dX3_secondSize_28 (by decide) ?_
      exact g_retI dX3_secondSize_32 rfl (hQ rc7 ⟨by omega, by omega⟩ )
end
section
/-! Contracts of the class: x2. -/
set_option maxRecDepth 100000 in
set_option maxHeartbeats 4000000 in
theorem m_X11_isIn (G : GT) (P : PH) (a1 : Int) (a2 : Int) (h_a1 : (-2147483648) ≤ a1 ∧ a1 ≤ 2147483647) (h_a2 : (-2147483648) ≤ a2 ∧ a2 ≤ 2147483647) (hB : BdX P) (Q : Option PV → PH → Prop) (hQ : ∀ (r : Int) (_ : 0 ≤ r ∧ r ≤ 1), Q (some (vI r)) P) : Ct WSX G 1 iX11_isIn [vI a1, vI a2] P Q := by
  refine Ct.of (by decide) (l0 := [(0, vI a1), (1, vI a2)]) rfl (Nat.le_of_ble_eq_true rfl) ?_
  refine g_iload_n dX11_isIn_0 rfl ?_
  refine g_iload_n dX11_isIn_1 rfl ?_
  refine g_ishr dX11_isIn_2 ?_
  refine g_nm (fun b1 e_b1 => ?_)
  have h_b1 := ishr_ir a1 a2
  rw [← e_b1] at h_b1
  refine g_iconst dX11_isIn_3 ?_
  refine g_iand dX11_isIn_4 ?_
  refine g_nm (fun b2 e_b2 => ?_)
  have h_b2 := iand_r (x := b1) (y := 1) ⟨by omega, by omega⟩
  rw [← e_b2] at h_b2
  refine g_if_eq (tgt := 12) dX11_isIn_5 (by decide) ⟨by omega, by omega⟩ (fun k3 => ?_) (fun k3 => ?_)
  · refine g_iconst dX11_isIn_12 ?_
    exact g_retZ dX11_isIn_13 rfl (by decide) (hQ 0 (by decide) )
  · refine g_iconst dX11_isIn_8 ?_
    refine g_goto (tgt := 13) dX11_isIn_9 (by decide) ?_
    exact g_retZ dX11_isIn_13 rfl (by decide) (hQ 1 (by decide) )
set_option maxRecDepth 100000 in
set_option maxHeartbeats 4000000 in
theorem m_X11_isRule (G : GT) (P : PH) (a1 : Int) (h_a1 : (-2147483648) ≤ a1 ∧ a1 ≤ 2147483647) (hB : BdX P) (Q : Option PV → PH → Prop) (hQ : ∀ (r : Int) (_ : 0 ≤ r ∧ r ≤ 1) (_ : r = 0 ∨ (0 ≤ a1 ∧ a1 ≤ 3)), Q (some (vI r)) P) : Ct WSX G 1 iX11_isRule [vI a1] P Q := by
  refine Ct.of (by decide) (l0 := [(0, vI a1)]) rfl (Nat.le_of_ble_eq_true rfl) ?_
  refine g_iload_n dX11_isRule_0 rfl ?_
  refine g_if_lt (tgt := 13) dX11_isRule_1 (by decide) ⟨by omega, by omega⟩ (fun k1 => ?_) (fun k1 => ?_)
  · refine g_iconst dX11_isRule_13 ?_
    exact g_retZ dX11_isRule_14 rfl (by decide) (hQ 0 (by decide) (by omega))
  · refine g_iload_n dX11_isRule_4 rfl ?_
    refine g_iconst dX11_isRule_5 ?_
    refine g_icmp_ge (tgt := 13) dX11_isRule_6 (by decide) ⟨by omega, by omega⟩ (by decide) (fun k2 => ?_) (fun k2 => ?_)
    · refine g_iconst dX11_isRule_13 ?_
      exact g_retZ dX11_isRule_14 rfl (by decide) (hQ 0 (by decide) (by omega))
    · refine g_iconst dX11_isRule_9 ?_
      refine g_goto (tgt := 14) dX11_isRule_10 (by decide) ?_
      exact g_retZ dX11_isRule_14 rfl (by decide) (hQ 1 (by decide) (by omega))
set_option maxRecDepth 100000 in
set_option maxHeartbeats 4000000 in
theorem m_X5_isPlace (G : GT) (P : PH) (o0 : Nat) (a1 : Int) (k_o0 : kx o0 14) (h_a1 : (-2147483648) ≤ a1 ∧ a1 ≤ 2147483647) (hB : BdX P) (Q : Option PV → PH → Prop) (hQ : ∀ (r : Int) (_ : 0 ≤ r ∧ r ≤ 1) (_ : r = 0 ∨ (0 ≤ a1 ∧ a1 < P o0 1)), Q (some (vI r)) P) : Ct WSX G 1 iX5_isPlace [vR o0, vI a1] P Q := by
  refine Ct.of (by decide) (l0 := [(0, vR o0), (1, vI a1)]) rfl (Nat.le_of_ble_eq_true rfl) ?_
  refine g_iload_n dX5_isPlace_0 rfl ?_
  refine g_if_lt (tgt := 16) dX5_isPlace_1 (by decide) ⟨by omega, by omega⟩ (fun k1 => ?_) (fun k1 => ?_)
  · refine g_iconst dX5_isPlace_16 ?_
    exact g_retZ dX5_isPlace_17 rfl (by decide) (hQ 0 (by decide) (by omega))
  · refine g_iload_n dX5_isPlace_4 rfl ?_
    refine g_aload_n dX5_isPlace_5 rfl ?_
    refine x_g14_1 (z := (P o0 1)) k_o0 ffX5_24 dX5_isPlace_6 rfl ?_
    have f2 := bx_14_1 (o := o0) hB k_o0
    refine g_icmp_ge (tgt := 16) dX5_isPlace_9 (by decide) ⟨by omega, by omega⟩ ⟨by have q0 := bx_14_1 (o := o0) hB k_o0; omega, by have q0 := bx_14_1 (o := o0) hB k_o0; omega⟩ (fun k3 => ?_) (fun k3 => ?_)
    · refine g_iconst dX5_isPlace_16 ?_
      exact g_retZ dX5_isPlace_17 rfl (by decide) (hQ 0 (by decide) (by omega))
    · refine g_iconst dX5_isPlace_12 ?_
      refine g_goto (tgt := 17) dX5_isPlace_13 (by decide) ?_
      exact g_retZ dX5_isPlace_17 rfl (by decide) (hQ 1 (by decide) (by omega))
set_option maxRecDepth 100000 in
set_option maxHeartbeats 4000000 in
theorem m_X5_armAt (G : GT) (P : PH) (o0 : Nat) (a1 : Int) (k_o0 : kx o0 14) (h_a1 : (-2147483648) ≤ a1 ∧ a1 ≤ 2147483647) (hB : BdX P) (Q : Option PV → PH → Prop) (hQ : ∀ (r : Int) (_ : (-1) ≤ r ∧ r ≤ 255), Q (some (vI r)) P) : Ct WSX G 2 iX5_armAt [vR o0, vI a1] P Q := by
  refine Ct.of (by decide) (l0 := [(0, vR o0), (1, vI a1)]) rfl (Nat.le_of_ble_eq_true rfl) ?_
  refine g_aload_n dX5_armAt_0 rfl ?_
  refine g_iload_n dX5_armAt_1 rfl ?_
  refine g_vI (av := [vI a1]) (o := o0) (st := []) (m_X5_isPlace G P o0 a1 k_o0 ⟨by omega, by omega⟩ hB  _ (fun rc1 hc1 gc1_k => ⟨rc1, rfl, ?_⟩)) cf_X5_isPlace t_950 rfl (show kx o0 14 from k_o0).1 ((show kx o0 14 from k_o0).sh rfl) rfl rfl (Nat.le_of_ble_eq_true rfl) (by decide) rfl dX5_armAt_2
  have f2 := bx_14_1 (o := o0) hB k_o0
  refine g_if_eq (tgt := 17) dX5_armAt_5 (by decide) ⟨by omega, by omega⟩ (fun k3 => ?_) (fun k3 => ?_)
  · refine g_iconst dX5_armAt_17 ?_
    exact g_retI dX5_armAt_18 rfl (hQ (-1) (by decide) )
  · refine g_aload_n dX5_armAt_8 rfl ?_
    refine x_g14_0 (n := (crX o0 0)) k_o0 ffX5_9 dX5_armAt_9 rfl ?_
    refine g_iload_n dX5_armAt_12 rfl ?_
    refine x_l15 (z := (P (crX o0 0) a1)) (ck_14_0 k_o0) dX5_armAt_13 ⟨by omega, by omega⟩ rfl ?_
    refine g_goto (tgt := 18) dX5_armAt_14 (by decide) ?_
    exact g_retI dX5_armAt_18 rfl (hQ (P (crX o0 0) a1) ⟨by have q0 := bx_15 (o := (crX o0 0)) (k := a1) hB (ck_14_0 k_o0); omega, by have q0 := bx_15 (o := (crX o0 0)) (k := a1) hB (ck_14_0 k_o0); omega⟩ )
set_option maxRecDepth 100000 in
set_option maxHeartbeats 4000000 in
theorem m_X5_allArms (G : GT) (P : PH) (o0 : Nat) (k_o0 : kx o0 14) (hB : BdX P) (Q : Option PV → PH → Prop) (hQ : ∀ (r : Int) (_ : (-2147483648) ≤ r ∧ r ≤ 2147483647), Q (some (vI r)) P) : Ct WSX G 1 iX5_allArms [vR o0] P Q := by
  refine Ct.of (by decide) (l0 := [(0, vR o0)]) rfl (Nat.le_of_ble_eq_true rfl) ?_
  refine g_iconst dX5_allArms_0 ?_
  refine g_istore_n (l1 := [(1, vI 0), (0, vR o0)]) dX5_allArms_1 (by decide) rfl ?_
  refine g_iconst dX5_allArms_2 ?_
  refine g_istore_n (l1 := [(2, vI 0), (1, vI 0), (0, vR o0)]) dX5_allArms_3 (by decide) rfl ?_
  have L4_0 : ∀ (n4_0 : Nat) (x4_2_0 : Int) (h_x4_2_0 : 0 ≤ x4_2_0 ∧ x4_2_0 ≤ 12) (x4_1_0 : Int) (h_x4_1_0 : (-2147483648) ≤ x4_1_0 ∧ x4_1_0 ≤ 2147483647) (hm4_0 : ((13 - x4_2_0) : Int).toNat < n4_0), Go WSX G 1 iX5_allArms 4 [(0, vR o0), (1, vI x4_1_0), (2, vI x4_2_0)] [] P Q := by
    intro n4_0
    induction n4_0 with
    | zero => intro x4_2_0 h_x4_2_0 x4_1_0 h_x4_1_0 hm4_0; exact absurd hm4_0 (Nat.not_lt_zero _)
    | succ n4_0 ih4_0 =>
    intro x4_2_0 h_x4_2_0 x4_1_0 h_x4_1_0 hm4_0
    refine g_iload_n dX5_allArms_4 rfl ?_
    refine g_aload_n dX5_allArms_5 rfl ?_
    refine x_g14_1 (z := (P o0 1)) k_o0 ffX5_24 dX5_allArms_6 rfl ?_
    have f38 := bx_14_1 (o := o0) hB k_o0
    refine g_icmp_ge (tgt := 29) dX5_allArms_9 (by decide) ⟨by omega, by omega⟩ ⟨by have q0 := bx_14_1 (o := o0) hB k_o0; omega, by have q0 := bx_14_1 (o := o0) hB k_o0; omega⟩ (fun k39 => ?_) (fun k39 => ?_)
    · refine g_iload_n dX5_allArms_29 rfl ?_
      exact g_retI dX5_allArms_30 rfl (hQ x4_1_0 ⟨by omega, by omega⟩ )
    · refine g_iload_n dX5_allArms_12 rfl ?_
      refine g_iconst dX5_allArms_13 ?_
      refine g_aload_n dX5_allArms_14 rfl ?_
      refine x_g14_0 (n := (crX o0 0)) k_o0 ffX5_9 dX5_allArms_15 rfl ?_
      refine g_iload_n dX5_allArms_18 rfl ?_
      refine x_l15 (z := (P (crX o0 0) x4_2_0)) (ck_14_0 k_o0) dX5_allArms_19 ⟨by omega, by omega⟩ rfl ?_
      refine g_ishl dX5_allArms_20 ?_
      refine g_nm (fun b40 e_b40 => ?_)
      have h_b40 := ishl_ir 1 (P (crX o0 0) x4_2_0)
      rw [← e_b40] at h_b40
      have f_b40_0 := bx_15 (o := (crX o0 0)) (k := x4_2_0) hB (ck_14_0 k_o0)
      refine g_ior dX5_allArms_21 ?_
      refine g_nm (fun b41 e_b41 => ?_)
      have h_b41 := ior_ir x4_1_0 b40
      rw [← e_b41] at h_b41
      refine g_istore_n (l1 := [(1, vI b41), (0, vR o0), (2, vI x4_2_0)]) dX5_allArms_22 (by decide) rfl ?_
      refine g_iinc (l1 := [(2, vI (x4_2_0 + 1)), (1, vI b41), (0, vR o0)]) dX5_allArms_23 rfl (by decide) rfl ?_
      refine g_goto (tgt := 4) dX5_allArms_26 (by decide) ?_
      refine g_forget (l1 := [(0, vR o0), (1, vI b41), (2, vI (x4_2_0 + 1))]) (by intro q hq; simp only [List.mem_cons, List.not_mem_nil, or_false] at hq ⊢; rcases hq with rfl | rfl | rfl <;> simp) ?_
      exact ih4_0 (x4_2_0 + 1) ⟨by omega, by omega⟩ b41 ⟨by omega, by omega⟩ (by omega)
  refine g_forget (l1 := [(0, vR o0), (1, vI 0), (2, vI 0)]) (by intro q hq; simp only [List.mem_cons, List.not_mem_nil, or_false] at hq ⊢; rcases hq with rfl | rfl | rfl <;> simp) ?_
  exact L4_0 _ 0 (by decide) 0 (by decide) (Nat.lt_succ_self _)
set_option maxRecDepth 100000 in
set_option maxHeartbeats 4000000 in
theorem m_X5_firstOf (G : GT) (P : PH) (o0 : Nat) (a1 : Int) (k_o0 : kx o0 14) (h_a1 : (-2147483648) ≤ a1 ∧ a1 ≤ 2147483647) (hB : BdX P) (Q : Option PV → PH → Prop) (hQ : ∀ (r : Int) (_ : (-1) ≤ r ∧ r ≤ 255), Q (some (vI r)) P) : Ct WSX G 2 iX5_firstOf [vR o0, vI a1] P Q := by
  refine Ct.of (by decide) (l0 := [(0, vR o0), (1, vI a1)]) rfl (Nat.le_of_ble_eq_true rfl) ?_
  refine g_iconst dX5_firstOf_0 ?_
  refine g_istore_n (l1 := [(2, vI 0), (0, vR o0), (1, vI a1)]) dX5_firstOf_1 (by decide) rfl ?_
  have L2_0 : ∀ (n2_0 : Nat) (x2_2_0 : Int) (h_x2_2_0 : 0 ≤ x2_2_0 ∧ x2_2_0 ≤ 12) (hm2_0 : ((13 - x2_2_0) : Int).toNat < n2_0), Go WSX G 2 iX5_firstOf 2 [(0, vR o0), (1, vI a1), (2, vI x2_2_0)] [] P Q := by
    intro n2_0
    induction n2_0 with
    | zero => intro x2_2_0 h_x2_2_0 hm2_0; exact absurd hm2_0 (Nat.not_lt_zero _)
    | succ n2_0 ih2_0 =>
    intro x2_2_0 h_x2_2_0 hm2_0
    refine g_iload_n dX5_firstOf_2 rfl ?_
    refine g_aload_n dX5_firstOf_3 rfl ?_
    refine x_g14_1 (z := (P o0 1)) k_o0 ffX5_24 dX5_firstOf_4 rfl ?_
    have f47 := bx_14_1 (o := o0) hB k_o0
    refine g_icmp_ge (tgt := 36) dX5_firstOf_7 (by decide) ⟨by omega, by omega⟩ ⟨by have q0 := bx_14_1 (o := o0) hB k_o0; omega, by have q0 := bx_14_1 (o := o0) hB k_o0; omega⟩ (fun k48 => ?_) (fun k48 => ?_)
    · refine g_iconst dX5_firstOf_36 ?_
      exact g_retI dX5_firstOf_37 rfl (hQ (-1) (by decide) )
    · refine g_iload_n dX5_firstOf_10 rfl ?_
      refine g_aload_n dX5_firstOf_11 rfl ?_
      refine x_g14_0 (n := (crX o0 0)) k_o0 ffX5_9 dX5_firstOf_12 rfl ?_
      refine g_iload_n dX5_firstOf_15 rfl ?_
      refine x_l15 (z := (P (crX o0 0) x2_2_0)) (ck_14_0 k_o0) dX5_firstOf_16 ⟨by omega, by omega⟩ rfl ?_
      have f49 := bx_15 (o := (crX o0 0)) (k := x2_2_0) hB (ck_14_0 k_o0)
      refine g_nI (av := [vI a1, vI (P (crX o0 0) x2_2_0)]) (st := []) (m_X11_isIn G P a1 (P (crX o0 0) x2_2_0) ⟨by omega, by omega⟩ ⟨by have q0 := bx_15 (o := (crX o0 0)) (k := x2_2_0) hB (ck_14_0 k_o0); omega, by have q0 := bx_15 (o := (crX o0 0)) (k := x2_2_0) hB (ck_14_0 k_o0); omega⟩ hB  _ (fun rc50 hc50 => ⟨rc50, rfl, ?_⟩)) cf_X11_isIn (fun U h => h.2.1) rfl (Nat.le_of_ble_eq_true rfl) (by decide) rfl dX5_firstOf_17
      refine g_if_eq (tgt := 30) dX5_firstOf_20 (by decide) ⟨by omega, by omega⟩ (fun k51 => ?_) (fun k51 => ?_)
      · refine g_iinc (l1 := [(2, vI (x2_2_0 + 1)), (0, vR o0), (1, vI a1)]) dX5_firstOf_30 rfl (by decide) rfl ?_
        refine g_goto (tgt := 2) dX5_firstOf_33 (by decide) ?_
        refine g_forget (l1 := [(0, vR o0), (1, vI a1), (2, vI (x2_2_0 + 1))]) (by intro q hq; simp only [List.mem_cons, List.not_mem_nil, or_false] at hq ⊢; rcases hq with rfl | rfl | rfl <;> simp) ?_
        exact ih2_0 (x2_2_0 + 1) ⟨by omega, by omega⟩ (by omega)
      · refine g_aload_n dX5_firstOf_23 rfl ?_
        refine x_g14_0 (n := (crX o0 0)) k_o0 ffX5_9 dX5_firstOf_24 rfl ?_
        refine g_iload_n dX5_firstOf_27 rfl ?_
        refine x_l15 (z := (P (crX o0 0) x2_2_0)) (ck_14_0 k_o0) dX5_firstOf_28 ⟨by omega, by omega⟩ rfl ?_
        exact g_retI dX5_firstOf_29 rfl (hQ (P (crX o0 0) x2_2_0) ⟨by have q0 := bx_15 (o := (crX o0 0)) (k := x2_2_0) hB (ck_14_0 k_o0); omega, by have q0 := bx_15 (o := (crX o0 0)) (k := x2_2_0) hB (ck_14_0 k_o0); omega⟩ )
  refine g_forget (l1 := [(0, vR o0), (1, vI a1), (2, vI 0)]) (by intro q hq; simp only [List.mem_cons, List.not_mem_nil, or_false] at hq ⊢; rcases hq with rfl | rfl | rfl <;> simp) ?_
  exact L2_0 _ 0 (by decide) (Nat.lt_succ_self _)
set_option maxRecDepth 100000 in
set_option maxHeartbeats 4000000 in
theorem m_X9_guardOf (G : GT) (P : PH) (o0 : Nat) (a1 : Int) (k_o0 : kx o0 28) (h_a1 : (-2147483648) ≤ a1 ∧ a1 ≤ 2147483647) (hB : BdX P) (Q : Option PV → PH → Prop) (hQ : ∀ (r : Int) (_ : (-2147483648) ≤ r ∧ r ≤ 2147483647), Q (some (vI r)) P) : Ct WSX G 1 iX9_guardOf [vR o0, vI a1] P Q := by
  refine Ct.of (by decide) (l0 := [(0, vR o0), (1, vI a1)]) rfl (Nat.le_of_ble_eq_true rfl) ?_
  refine g_iload_n dX9_guardOf_0 rfl ?_
  refine g_if_lt (tgt := 21) dX9_guardOf_1 (by decide) ⟨by omega, by omega⟩ (fun k1 => ?_) (fun k1 => ?_)
  · refine g_iconst dX9_guardOf_21 ?_
    exact g_retI dX9_guardOf_22 rfl (hQ (-1) (by decide) )
  · refine g_iload_n dX9_guardOf_4 rfl ?_
    refine g_aload_n dX9_guardOf_5 rfl ?_
    refine x_g28_8 (z := (P o0 8)) k_o0 ffX9_46 dX9_guardOf_6 rfl ?_
    have f2 := bx_28_8 (o := o0) hB k_o0
    refine g_icmp_ge (tgt := 21) dX9_guardOf_9 (by decide) ⟨by omega, by omega⟩ ⟨by have q0 := bx_28_8 (o := o0) hB k_o0; omega, by have q0 := bx_28_8 (o := o0) hB k_o0; omega⟩ (fun k3 => ?_) (fun k3 => ?_)
    · refine g_iconst dX9_guardOf_21 ?_
      exact g_retI dX9_guardOf_22 rfl (hQ (-1) (by decide) )
    · refine g_aload_n dX9_guardOf_12 rfl ?_
      refine x_g28_4 (n := (crX o0 4)) k_o0 ffX9_28 dX9_guardOf_13 rfl ?_
      refine g_iload_n dX9_guardOf_16 rfl ?_
      refine x_l42 (z := (P (crX o0 4) a1)) (ck_28_4 k_o0) dX9_guardOf_17 ⟨by omega, by omega⟩ rfl ?_
      refine g_goto (tgt := 22) dX9_guardOf_18 (by decide) ?_
      exact g_retI dX9_guardOf_22 rfl (hQ (P (crX o0 4) a1) ⟨by have q0 := bx_42 (o := (crX o0 4)) (k := a1) hB (ck_28_4 k_o0); omega, by have q0 := bx_42 (o := (crX o0 4)) (k := a1) hB (ck_28_4 k_o0); omega⟩ )
set_option maxRecDepth 100000 in
set_option maxHeartbeats 4000000 in
theorem m_X9_isRow (G : GT) (P : PH) (o0 : Nat) (a1 : Int) (k_o0 : kx o0 28) (h_a1 : (-2147483648) ≤ a1 ∧ a1 ≤ 2147483647) (hB : BdX P) (Q : Option PV → PH → Prop) (hQ : ∀ (r : Int) (_ : 0 ≤ r ∧ r ≤ 1) (_ : r = 0 ∨ (0 ≤ a1 ∧ a1 < P o0 7)), Q (some (vI r)) P) : Ct WSX G 1 iX9_isRow [vR o0, vI a1] P Q := by
  refine Ct.of (by decide) (l0 := [(0, vR o0), (1, vI a1)]) rfl (Nat.le_of_ble_eq_true rfl) ?_
  refine g_iload_n dX9_isRow_0 rfl ?_
  refine g_if_lt (tgt := 16) dX9_isRow_1 (by decide) ⟨by omega, by omega⟩ (fun k1 => ?_) (fun k1 => ?_)
  · refine g_iconst dX9_isRow_16 ?_
    exact g_retZ dX9_isRow_17 rfl (by decide) (hQ 0 (by decide) (by omega))
  · refine g_iload_n dX9_isRow_4 rfl ?_
    refine g_aload_n dX9_isRow_5 rfl ?_
    refine x_g28_7 (z := (P o0 7)) k_o0 ffX9_43 dX9_isRow_6 rfl ?_
    have f2 := bx_28_7 (o := o0) hB k_o0
    refine g_icmp_ge (tgt := 16) dX9_isRow_9 (by decide) ⟨by omega, by omega⟩ ⟨by have q0 := bx_28_7 (o := o0) hB k_o0; omega, by have q0 := bx_28_7 (o := o0) hB k_o0; omega⟩ (fun k3 => ?_) (fun k3 => ?_)
    · refine g_iconst dX9_isRow_16 ?_
      exact g_retZ dX9_isRow_17 rfl (by decide) (hQ 0 (by decide) (by omega))
    · refine g_iconst dX9_isRow_12 ?_
      refine g_goto (tgt := 17) dX9_isRow_13 (by decide) ?_
      exact g_retZ dX9_isRow_17 rfl (by decide) (hQ 1 (by decide) (by omega))
set_option maxRecDepth 100000 in
set_option maxHeartbeats 4000000 in
theorem m_X9_armsFitting (G : GT) (P : PH) (o0 : Nat) (a1 : Int) (a2 : Int) (k_o0 : kx o0 28) (h_a1 : (-2147483648) ≤ a1 ∧ a1 ≤ 2147483647) (h_a2 : (-2147483648) ≤ a2 ∧ a2 ≤ 2147483647) (hB : BdX P) (Q : Option PV → PH → Prop) (hQ : ∀ (r : Int) (_ : (-2147483648) ≤ r ∧ r ≤ 2147483647), Q (some (vI r)) P) : Ct WSX G 1 iX9_armsFitting [vR o0, vI a1, vI a2] P Q := by
  refine Ct.of (by decide) (l0 := [(0, vR o0), (1, vI a1), (2, vI a2)]) rfl (Nat.le_of_ble_eq_true rfl) ?_
  refine g_iload_n dX9_armsFitting_0 rfl ?_
  refine g_if_lt (tgt := 23) dX9_armsFitting_1 (by decide) ⟨by omega, by omega⟩ (fun k1 => ?_) (fun k1 => ?_)
  · refine g_iconst dX9_armsFitting_23 ?_
    exact g_retI dX9_armsFitting_24 rfl (hQ 0 (by decide) )
  · refine g_iload_n dX9_armsFitting_4 rfl ?_
    refine g_aload_n dX9_armsFitting_5 rfl ?_
    refine x_g28_6 (z := (P o0 6)) k_o0 ffX9_39 dX9_armsFitting_6 rfl ?_
    have f2 := bx_28_6 (o := o0) hB k_o0
    refine g_icmp_ge (tgt := 23) dX9_armsFitting_9 (by decide) ⟨by omega, by omega⟩ ⟨by have q0 := bx_28_6 (o := o0) hB k_o0; omega, by have q0 := bx_28_6 (o := o0) hB k_o0; omega⟩ (fun k3 => ?_) (fun k3 => ?_)
    · refine g_iconst dX9_armsFitting_23 ?_
      exact g_retI dX9_armsFitting_24 rfl (hQ 0 (by decide) )
    · refine g_iload_n dX9_armsFitting_12 rfl ?_
      refine g_if_lt (tgt := 23) dX9_armsFitting_13 (by decide) ⟨by omega, by omega⟩ (fun k4 => ?_) (fun k4 => ?_)
      · refine g_iconst dX9_armsFitting_23 ?_
        exact g_retI dX9_armsFitting_24 rfl (hQ 0 (by decide) )
      · refine g_iload_n dX9_armsFitting_16 rfl ?_
        refine g_sipush dX9_armsFitting_17 (by decide) ?_
        refine g_icmp_lt (tgt := 25) dX9_armsFitting_20 (by decide) ⟨by omega, by omega⟩ (by decide) (fun k5 => ?_) (fun k5 => ?_)
        · refine g_aload_n dX9_armsFitting_25 rfl ?_
          refine x_g28_5 (n := (crX o0 5)) k_o0 ffX9_33 dX9_armsFitting_26 rfl ?_
          refine g_iload_n dX9_armsFitting_29 rfl ?_
          refine x_l43 (n := (crX (crX o0 5) a1.toNat)) (ck_28_5 k_o0) dX9_armsFitting_30 ⟨by omega, by omega⟩ rfl ?_
          have kk6 := (ce_43 (j := a1.toNat) (ck_28_5 k_o0) (by omega))
          refine g_iload_n dX9_armsFitting_31 rfl ?_
          refine x_l44 (z := (P (crX (crX o0 5) a1.toNat) a2)) kk6 dX9_armsFitting_32 ⟨by omega, by omega⟩ rfl ?_
          exact g_retI dX9_armsFitting_33 rfl (hQ (P (crX (crX o0 5) a1.toNat) a2) ⟨by have q0 := bx_44 (o := (crX (crX o0 5) a1.toNat)) (k := a2) hB kk6; omega, by have q0 := bx_44 (o := (crX (crX o0 5) a1.toNat)) (k := a2) hB kk6; omega⟩ )
        · refine g_iconst dX9_armsFitting_23 ?_
          exact g_retI dX9_armsFitting_24 rfl (hQ 0 (by decide) )
set_option maxRecDepth 100000 in
set_option maxHeartbeats 4000000 in
theorem m_X9_valueOf (G : GT) (P : PH) (o0 : Nat) (a1 : Int) (a2 : Int) (k_o0 : kx o0 28) (h_a1 : (-2147483648) ≤ a1 ∧ a1 ≤ 2147483647) (h_a2 : 0 ≤ a2 ∧ a2 ≤ 2147483647) (hB : BdX P) (Q : Option PV → PH → Prop) (hQ : ∀ (r : Int) (_ : (-2147483648) ≤ r ∧ r ≤ 2147483647), Q (some (vI r)) P) : Ct WSX G 1 iX9_valueOf [vR o0, vI a1, vI a2] P Q := by
  refine Ct.of (by decide) (l0 := [(0, vR o0), (1, vI a1), (2, vI a2)]) rfl (Nat.le_of_ble_eq_true rfl) ?_
  refine g_iload_n dX9_valueOf_0 rfl ?_
  refine g_istore_n (l1 := [(3, vI a1), (0, vR o0), (1, vI a1), (2, vI a2)]) dX9_valueOf_1 (by decide) rfl ?_
  refine g_aload_n dX9_valueOf_2 rfl ?_
  refine x_g28_6 (z := (P o0 6)) k_o0 ffX9_39 dX9_valueOf_3 rfl ?_
  refine g_iconst dX9_valueOf_6 ?_
  refine g_isub dX9_valueOf_7 ?_
  refine g_istore (l1 := [(4, vI ((P o0 6) - 1)), (3, vI a1), (0, vR o0), (1, vI a1), (2, vI a2)]) dX9_valueOf_8 (by decide) rfl ?_
  have L10_0 : ∀ (n10_0 : Nat) (x10_4_0 : Int) (h_x10_4_0 : (-1) ≤ x10_4_0 ∧ x10_4_0 ≤ 3) (x10_3_0 : Int) (h_x10_3_0 : (-2147483648) ≤ x10_3_0 ∧ x10_3_0 ≤ 2147483647) (hm10_0 : ((x10_4_0 - (-2)) : Int).toNat < n10_0), Go WSX G 1 iX9_valueOf 10 [(0, vR o0), (2, vI a2), (3, vI x10_3_0), (4, vI x10_4_0)] [] P Q := by
    intro n10_0
    induction n10_0 with
    | zero => intro x10_4_0 h_x10_4_0 x10_3_0 h_x10_3_0 hm10_0; exact absurd hm10_0 (Nat.not_lt_zero _)
    | succ n10_0 ih10_0 =>
    intro x10_4_0 h_x10_4_0 x10_3_0 h_x10_3_0 hm10_0
    refine g_iload dX9_valueOf_10 rfl ?_
    refine g_iload_n dX9_valueOf_12 rfl ?_
    refine g_icmp_le (tgt := 46) dX9_valueOf_13 (by decide) ⟨by omega, by omega⟩ ⟨by omega, by omega⟩ (fun k42 => ?_) (fun k42 => ?_)
    · refine g_iload_n dX9_valueOf_46 rfl ?_
      refine g_if_lt (tgt := 78) dX9_valueOf_47 (by decide) ⟨by omega, by omega⟩ (fun k43 => by exfalso; omega) (fun k43 => ?_)
      refine g_iload_n dX9_valueOf_50 rfl ?_
      refine g_aload_n dX9_valueOf_51 rfl ?_
      refine x_g28_6 (z := (P o0 6)) k_o0 ffX9_39 dX9_valueOf_52 rfl ?_
      have f44 := bx_28_6 (o := o0) hB k_o0
      refine g_icmp_ge (tgt := 78) dX9_valueOf_55 (by decide) ⟨by omega, by omega⟩ ⟨by have q0 := bx_28_6 (o := o0) hB k_o0; omega, by have q0 := bx_28_6 (o := o0) hB k_o0; omega⟩ (fun k45 => ?_) (fun k45 => ?_)
      · refine g_iconst dX9_valueOf_78 ?_
        exact g_retI dX9_valueOf_79 rfl (hQ 0 (by decide) )
      · refine g_aload_n dX9_valueOf_58 rfl ?_
        refine x_g28_2 (n := (crX o0 2)) k_o0 ffX9_22 dX9_valueOf_59 rfl ?_
        refine g_iload_n dX9_valueOf_62 rfl ?_
        refine x_l40 (z := (P (crX o0 2) a2)) (ck_28_2 k_o0) dX9_valueOf_63 ⟨by omega, by omega⟩ rfl ?_
        have f46 := bx_40 (o := (crX o0 2)) (k := a2) hB (ck_28_2 k_o0)
        refine g_if_le (tgt := 78) dX9_valueOf_64 (by decide) ⟨by have q0 := bx_40 (o := (crX o0 2)) (k := a2) hB (ck_28_2 k_o0); omega, by have q0 := bx_40 (o := (crX o0 2)) (k := a2) hB (ck_28_2 k_o0); omega⟩ (fun k47 => ?_) (fun k47 => ?_)
        · refine g_iconst dX9_valueOf_78 ?_
          exact g_retI dX9_valueOf_79 rfl (hQ 0 (by decide) )
        · refine g_iload_n dX9_valueOf_67 rfl ?_
          refine g_aload_n dX9_valueOf_68 rfl ?_
          refine x_g28_2 (n := (crX o0 2)) k_o0 ffX9_22 dX9_valueOf_69 rfl ?_
          refine g_iload_n dX9_valueOf_72 rfl ?_
          refine x_l40 (z := (P (crX o0 2) a2)) (ck_28_2 k_o0) dX9_valueOf_73 ⟨by omega, by omega⟩ rfl ?_
          refine g_irem dX9_valueOf_74 ⟨⟨by have q0 := bx_40 (o := (crX o0 2)) (k := a2) hB (ck_28_2 k_o0); omega, by have q0 := bx_40 (o := (crX o0 2)) (k := a2) hB (ck_28_2 k_o0); omega⟩, by have q0 := bx_40 (o := (crX o0 2)) (k := a2) hB (ck_28_2 k_o0); omega⟩ ?_
          refine g_nm (fun b48 e_b48 => ?_)
          have h_b48 := irem_any (x := x10_3_0) (y := (P (crX o0 2) a2)) ⟨by omega, by omega⟩ ⟨by have q0 := bx_40 (o := (crX o0 2)) (k := a2) hB (ck_28_2 k_o0); omega, by have q0 := bx_40 (o := (crX o0 2)) (k := a2) hB (ck_28_2 k_o0); omega⟩
          rw [← e_b48] at h_b48
          refine g_goto (tgt := 79) dX9_valueOf_75 (by decide) ?_
          exact g_retI dX9_valueOf_79 rfl (hQ b48 ⟨by omega, by omega⟩ )
    · refine g_aload_n dX9_valueOf_16 rfl ?_
      refine x_g28_2 (n := (crX o0 2)) k_o0 ffX9_22 dX9_valueOf_17 rfl ?_
      refine g_iload dX9_valueOf_20 rfl ?_
      refine x_l40 (z := (P (crX o0 2) x10_4_0)) (ck_28_2 k_o0) dX9_valueOf_22 ⟨by omega, by omega⟩ rfl ?_
      have f49 := bx_40 (o := (crX o0 2)) (k := x10_4_0) hB (ck_28_2 k_o0)
      refine g_if_le (tgt := 38) dX9_valueOf_23 (by decide) ⟨by have q0 := bx_40 (o := (crX o0 2)) (k := x10_4_0) hB (ck_28_2 k_o0); omega, by have q0 := bx_40 (o := (crX o0 2)) (k := x10_4_0) hB (ck_28_2 k_o0); omega⟩ (fun k50 => ?_) (fun k50 => ?_)
      · refine g_iconst dX9_valueOf_38 ?_
        refine g_istore_n (l1 := [(3, vI 0), (0, vR o0), (2, vI a2), (4, vI x10_4_0)]) dX9_valueOf_39 (by decide) rfl ?_
        refine g_iinc (l1 := [(4, vI (x10_4_0 + (-1))), (3, vI 0), (0, vR o0), (2, vI a2)]) dX9_valueOf_40 rfl (by decide) rfl ?_
        refine g_goto (tgt := 10) dX9_valueOf_43 (by decide) ?_
        refine g_forget (l1 := [(0, vR o0), (2, vI a2), (3, vI 0), (4, vI (x10_4_0 + (-1)))]) (by intro q hq; simp only [List.mem_cons, List.not_mem_nil, or_false] at hq ⊢; rcases hq with rfl | rfl | rfl | rfl <;> simp) ?_
        exact ih10_0 (x10_4_0 + (-1)) ⟨by omega, by omega⟩ 0 (by decide) (by omega)
      · refine g_iload_n dX9_valueOf_26 rfl ?_
        refine g_aload_n dX9_valueOf_27 rfl ?_
        refine x_g28_2 (n := (crX o0 2)) k_o0 ffX9_22 dX9_valueOf_28 rfl ?_
        refine g_iload dX9_valueOf_31 rfl ?_
        refine x_l40 (z := (P (crX o0 2) x10_4_0)) (ck_28_2 k_o0) dX9_valueOf_33 ⟨by omega, by omega⟩ rfl ?_
        refine g_idiv dX9_valueOf_34 ⟨⟨by have q0 := bx_40 (o := (crX o0 2)) (k := x10_4_0) hB (ck_28_2 k_o0); omega, by have q0 := bx_40 (o := (crX o0 2)) (k := x10_4_0) hB (ck_28_2 k_o0); omega⟩, by have q0 := bx_40 (o := (crX o0 2)) (k := x10_4_0) hB (ck_28_2 k_o0); omega⟩ ?_
        refine g_nm (fun b51 e_b51 => ?_)
        have h_b51 := idiv_ir x10_3_0 (P (crX o0 2) x10_4_0)
        rw [← e_b51] at h_b51
        have f_b51_0 := bx_40 (o := (crX o0 2)) (k := x10_4_0) hB (ck_28_2 k_o0)
        refine g_goto (tgt := 39) dX9_valueOf_35 (by decide) ?_
        refine g_istore_n (l1 := [(3, vI b51), (0, vR o0), (2, vI a2), (4, vI x10_4_0)]) dX9_valueOf_39 (by decide) rfl ?_
        refine g_iinc (l1 := [(4, vI (x10_4_0 + (-1))), (3, vI b51), (0, vR o0), (2, vI a2)]) dX9_valueOf_40 rfl (by decide) rfl ?_
        refine g_goto (tgt := 10) dX9_valueOf_43 (by decide) ?_
        refine g_forget (l1 := [(0, vR o0), (2, vI a2), (3, vI b51), (4, vI (x10_4_0 + (-1)))]) (by intro q hq; simp only [List.mem_cons, List.not_mem_nil, or_false] at hq ⊢; rcases hq with rfl | rfl | rfl | rfl <;> simp) ?_
        exact ih10_0 (x10_4_0 + (-1)) ⟨by omega, by omega⟩ b51 ⟨by omega, by omega⟩ (by omega)
  refine g_forget (l1 := [(0, vR o0), (2, vI a2), (3, vI a1), (4, vI ((P o0 6) - 1))]) (by intro q hq; simp only [List.mem_cons, List.not_mem_nil, or_false] at hq ⊢; rcases hq with rfl | rfl | rfl | rfl <;> simp) ?_
  exact L10_0 _ ((P o0 6) - 1) ⟨by have q0 := bx_28_6 (o := o0) hB k_o0; omega, by have q0 := bx_28_6 (o := o0) hB k_o0; omega⟩ a1 ⟨by omega, by omega⟩ (Nat.lt_succ_self _)
set_option maxRecDepth 100000 in
set_option maxHeartbeats 4000000 in
theorem m_X9_armsOf (G : GT) (P : PH) (o0 : Nat) (a1 : Int) (k_o0 : kx o0 28) (h_a1 : (-2147483648) ≤ a1 ∧ a1 ≤ 2147483647) (hB : BdX P) (Q : Option PV → PH → Prop) (hQ : ∀ (r : Int) (_ : (-2147483648) ≤ r ∧ r ≤ 2147483647), Q (some (vI r)) P) : Ct WSX G 2 iX9_armsOf [vR o0, vI a1] P Q := by
  refine Ct.of (by decide) (l0 := [(0, vR o0), (1, vI a1)]) rfl (Nat.le_of_ble_eq_true rfl) ?_
  refine g_iconst dX9_armsOf_0 ?_
  refine g_aload_n dX9_armsOf_1 rfl ?_
  refine x_g28_8 (z := (P o0 8)) k_o0 ffX9_46 dX9_armsOf_2 rfl ?_
  refine g_ishl dX9_armsOf_5 ?_
  refine g_nm (fun b1 e_b1 => ?_)
  have h_b1 : 1 ≤ (ishl 1 (P o0 8)) ∧ (ishl 1 (P o0 8)) ≤ 4096 := (ishl1 12 (by decide) (y := (P o0 8)) ⟨by have q0 := bx_28_8 (o := o0) hB k_o0; omega, by have q0 := bx_28_8 (o := o0) hB k_o0; omega⟩).2
  rw [← e_b1] at h_b1
  refine g_iconst dX9_armsOf_6 ?_
  refine g_isub dX9_armsOf_7 ?_
  refine g_istore_n (l1 := [(2, vI (b1 - 1)), (0, vR o0), (1, vI a1)]) dX9_armsOf_8 (by decide) rfl ?_
  refine g_iload_n dX9_armsOf_9 rfl ?_
  refine g_istore_n (l1 := [(3, vI a1), (2, vI (b1 - 1)), (0, vR o0), (1, vI a1)]) dX9_armsOf_10 (by decide) rfl ?_
  refine g_aload_n dX9_armsOf_11 rfl ?_
  refine x_g28_6 (z := (P o0 6)) k_o0 ffX9_39 dX9_armsOf_12 rfl ?_
  refine g_iconst dX9_armsOf_15 ?_
  refine g_isub dX9_armsOf_16 ?_
  refine g_istore (l1 := [(4, vI ((P o0 6) - 1)), (3, vI a1), (2, vI (b1 - 1)), (0, vR o0), (1, vI a1)]) dX9_armsOf_17 (by decide) rfl ?_
  have L19_1 : ∀ (n19_1 : Nat) (x19_4_1 : Int) (h_x19_4_1 : (-1) ≤ x19_4_1 ∧ x19_4_1 ≤ 3) (x19_3_1 : Int) (h_x19_3_1 : (-2147483648) ≤ x19_3_1 ∧ x19_3_1 ≤ 2147483647) (x19_2_1 : Int) (h_x19_2_1 : 0 ≤ x19_2_1 ∧ x19_2_1 ≤ 4095) (hm19_1 : ((x19_4_1 - (-2)) : Int).toNat < n19_1), Go WSX G 2 iX9_armsOf 19 [(0, vR o0), (2, vI x19_2_1), (3, vI x19_3_1), (4, vI x19_4_1)] [] P Q := by
    intro n19_1
    induction n19_1 with
    | zero => intro x19_4_1 h_x19_4_1 x19_3_1 h_x19_3_1 x19_2_1 h_x19_2_1 hm19_1; exact absurd hm19_1 (Nat.not_lt_zero _)
    | succ n19_1 ih19_1 =>
    intro x19_4_1 h_x19_4_1 x19_3_1 h_x19_3_1 x19_2_1 h_x19_2_1 hm19_1
    refine g_iload dX9_armsOf_19 rfl ?_
    refine g_if_lt (tgt := 61) dX9_armsOf_21 (by decide) ⟨by omega, by omega⟩ (fun k32 => ?_) (fun k32 => ?_)
    · refine g_iload_n dX9_armsOf_61 rfl ?_
      exact g_retI dX9_armsOf_62 rfl (hQ x19_2_1 ⟨by omega, by omega⟩ )
    · refine g_aload_n dX9_armsOf_24 rfl ?_
      refine x_g28_2 (n := (crX o0 2)) k_o0 ffX9_22 dX9_armsOf_25 rfl ?_
      refine g_iload dX9_armsOf_28 rfl ?_
      refine x_l40 (z := (P (crX o0 2) x19_4_1)) (ck_28_2 k_o0) dX9_armsOf_30 ⟨by omega, by omega⟩ rfl ?_
      refine g_iconst dX9_armsOf_31 ?_
      have f33 := bx_40 (o := (crX o0 2)) (k := x19_4_1) hB (ck_28_2 k_o0)
      refine g_sI (av := [vI (P (crX o0 2) x19_4_1), vI 1]) (st := []) (m_J9_max_7cf53 G P (P (crX o0 2) x19_4_1) 1 ⟨by have q0 := bx_40 (o := (crX o0 2)) (k := x19_4_1) hB (ck_28_2 k_o0); omega, by have q0 := bx_40 (o := (crX o0 2)) (k := x19_4_1) hB (ck_28_2 k_o0); omega⟩ (by decide) hB  _ (fun rc34 hc34 gc34_m => ⟨rc34, rfl, ?_⟩)) cf_J9_max_7cf53 t_1008 rfl (Nat.le_of_ble_eq_true rfl) (by decide) rfl dX9_armsOf_32
      refine g_istore (l1 := [(5, vI rc34), (0, vR o0), (2, vI x19_2_1), (3, vI x19_3_1), (4, vI x19_4_1)]) dX9_armsOf_35 (by decide) rfl ?_
      refine g_iload_n dX9_armsOf_37 rfl ?_
      refine g_aload_n dX9_armsOf_38 rfl ?_
      refine g_iload dX9_armsOf_39 rfl ?_
      refine g_iload_n dX9_armsOf_41 rfl ?_
      refine g_iload dX9_armsOf_42 rfl ?_
      refine g_irem dX9_armsOf_44 ⟨⟨by omega, by omega⟩, by omega⟩ ?_
      refine g_nm (fun b35 e_b35 => ?_)
      have h_b35 := irem_any (x := x19_3_1) (y := rc34) ⟨by omega, by omega⟩ ⟨by omega, by omega⟩
      rw [← e_b35] at h_b35
      refine g_vI (av := [vI x19_4_1, vI b35]) (o := o0) (st := [vI x19_2_1]) (m_X9_armsFitting G P o0 x19_4_1 b35 k_o0 ⟨by omega, by omega⟩ ⟨by omega, by omega⟩ hB  _ (fun rc36 hc36 => ⟨rc36, rfl, ?_⟩)) cf_X9_armsFitting t_1009 rfl (show kx o0 28 from k_o0).1 ((show kx o0 28 from k_o0).sh rfl) rfl rfl (Nat.le_of_ble_eq_true rfl) (by decide) rfl dX9_armsOf_45
      refine g_iand dX9_armsOf_48 ?_
      refine g_nm (fun b37 e_b37 => ?_)
      have h_b37 := iand_l (x := x19_2_1) (y := rc36) ⟨by omega, by omega⟩
      rw [← e_b37] at h_b37
      refine g_istore_n (l1 := [(2, vI b37), (5, vI rc34), (0, vR o0), (3, vI x19_3_1), (4, vI x19_4_1)]) dX9_armsOf_49 (by decide) rfl ?_
      refine g_iload_n dX9_armsOf_50 rfl ?_
      refine g_iload dX9_armsOf_51 rfl ?_
      refine g_idiv dX9_armsOf_53 ⟨⟨by omega, by omega⟩, by omega⟩ ?_
      refine g_nm (fun b38 e_b38 => ?_)
      have h_b38 := idiv_ir x19_3_1 rc34
      rw [← e_b38] at h_b38
      refine g_istore_n (l1 := [(3, vI b38), (2, vI b37), (5, vI rc34), (0, vR o0), (4, vI x19_4_1)]) dX9_armsOf_54 (by decide) rfl ?_
      refine g_iinc (l1 := [(4, vI (x19_4_1 + (-1))), (3, vI b38), (2, vI b37), (5, vI rc34), (0, vR o0)]) dX9_armsOf_55 rfl (by decide) rfl ?_
      refine g_goto (tgt := 19) dX9_armsOf_58 (by decide) ?_
      refine g_forget (l1 := [(0, vR o0), (2, vI b37), (3, vI b38), (4, vI (x19_4_1 + (-1)))]) (by intro q hq; simp only [List.mem_cons, List.not_mem_nil, or_false] at hq ⊢; rcases hq with rfl | rfl | rfl | rfl <;> simp) ?_
      exact ih19_1 (x19_4_1 + (-1)) ⟨by omega, by omega⟩ b38 ⟨by omega, by omega⟩ b37 ⟨by omega, by omega⟩ (by omega)
  refine g_forget (l1 := [(0, vR o0), (2, vI (b1 - 1)), (3, vI a1), (4, vI ((P o0 6) - 1))]) (by intro q hq; simp only [List.mem_cons, List.not_mem_nil, or_false] at hq ⊢; rcases hq with rfl | rfl | rfl | rfl <;> simp) ?_
  exact L19_1 _ ((P o0 6) - 1) ⟨by have q0 := bx_28_6 (o := o0) hB k_o0; omega, by have q0 := bx_28_6 (o := o0) hB k_o0; omega⟩ a1 ⟨by omega, by omega⟩ (b1 - 1) ⟨by omega, by omega⟩ (Nat.lt_succ_self _)
set_option maxRecDepth 100000 in
set_option maxHeartbeats 4000000 in
theorem m_X5_unguarded (G : GT) (P : PH) (o0 : Nat) (o1 : Nat) (a1 : Int) (k_o0 : kx o0 14) (k_o1 : kx o1 28) (h_a1 : (-2147483648) ≤ a1 ∧ a1 ≤ 2147483647) (hB : BdX P) (Q : Option PV → PH → Prop) (hQ : ∀ (r : Int) (_ : (-2147483648) ≤ r ∧ r ≤ 2147483647), Q (some (vI r)) P) : Ct WSX G 2 iX5_unguarded [vR o0, vR o1, vI a1] P Q := by
  refine Ct.of (by decide) (l0 := [(0, vR o0), (1, vR o1), (2, vI a1)]) rfl (Nat.le_of_ble_eq_true rfl) ?_
  refine g_iconst dX5_unguarded_0 ?_
  refine g_istore_n (l1 := [(3, vI 0), (0, vR o0), (1, vR o1), (2, vI a1)]) dX5_unguarded_1 (by decide) rfl ?_
  refine g_iconst dX5_unguarded_2 ?_
  refine g_istore (l1 := [(4, vI 0), (3, vI 0), (0, vR o0), (1, vR o1), (2, vI a1)]) dX5_unguarded_3 (by decide) rfl ?_
  have L5_0 : ∀ (n5_0 : Nat) (x5_4_0 : Int) (h_x5_4_0 : 0 ≤ x5_4_0 ∧ x5_4_0 ≤ 12) (x5_3_0 : Int) (h_x5_3_0 : (-2147483648) ≤ x5_3_0 ∧ x5_3_0 ≤ 2147483647) (hm5_0 : ((13 - x5_4_0) : Int).toNat < n5_0), Go WSX G 2 iX5_unguarded 5 [(0, vR o0), (1, vR o1), (2, vI a1), (3, vI x5_3_0), (4, vI x5_4_0)] [] P Q := by
    intro n5_0
    induction n5_0 with
    | zero => intro x5_4_0 h_x5_4_0 x5_3_0 h_x5_3_0 hm5_0; exact absurd hm5_0 (Nat.not_lt_zero _)
    | succ n5_0 ih5_0 =>
    intro x5_4_0 h_x5_4_0 x5_3_0 h_x5_3_0 hm5_0
    refine g_iload dX5_unguarded_5 rfl ?_
    refine g_iload_n dX5_unguarded_7 rfl ?_
    refine g_icmp_ge (tgt := 53) dX5_unguarded_8 (by decide) ⟨by omega, by omega⟩ ⟨by omega, by omega⟩ (fun k74 => ?_) (fun k74 => ?_)
    · refine g_iload_n dX5_unguarded_53 rfl ?_
      exact g_retI dX5_unguarded_54 rfl (hQ x5_3_0 ⟨by omega, by omega⟩ )
    · refine g_iload dX5_unguarded_11 rfl ?_
      refine g_aload_n dX5_unguarded_13 rfl ?_
      refine x_g14_1 (z := (P o0 1)) k_o0 ffX5_24 dX5_unguarded_14 rfl ?_
      have f75 := bx_14_1 (o := o0) hB k_o0
      refine g_icmp_ge (tgt := 53) dX5_unguarded_17 (by decide) ⟨by omega, by omega⟩ ⟨by have q0 := bx_14_1 (o := o0) hB k_o0; omega, by have q0 := bx_14_1 (o := o0) hB k_o0; omega⟩ (fun k76 => ?_) (fun k76 => ?_)
      · refine g_iload_n dX5_unguarded_53 rfl ?_
        exact g_retI dX5_unguarded_54 rfl (hQ x5_3_0 ⟨by omega, by omega⟩ )
      · refine g_aload_n dX5_unguarded_20 rfl ?_
        refine g_aload_n dX5_unguarded_21 rfl ?_
        refine x_g14_0 (n := (crX o0 0)) k_o0 ffX5_9 dX5_unguarded_22 rfl ?_
        refine g_iload dX5_unguarded_25 rfl ?_
        refine x_l15 (z := (P (crX o0 0) x5_4_0)) (ck_14_0 k_o0) dX5_unguarded_27 ⟨by omega, by omega⟩ rfl ?_
        have f77 := bx_15 (o := (crX o0 0)) (k := x5_4_0) hB (ck_14_0 k_o0)
        refine g_vI (av := [vI (P (crX o0 0) x5_4_0)]) (o := o1) (st := []) (m_X9_guardOf G P o1 (P (crX o0 0) x5_4_0) k_o1 ⟨by have q0 := bx_15 (o := (crX o0 0)) (k := x5_4_0) hB (ck_14_0 k_o0); omega, by have q0 := bx_15 (o := (crX o0 0)) (k := x5_4_0) hB (ck_14_0 k_o0); omega⟩ hB  _ (fun rc78 hc78 => ⟨rc78, rfl, ?_⟩)) cf_X9_guardOf t_966 rfl (show kx o1 28 from k_o1).1 ((show kx o1 28 from k_o1).sh rfl) rfl rfl (Nat.le_of_ble_eq_true rfl) (by decide) rfl dX5_unguarded_28
        refine g_iconst dX5_unguarded_31 ?_
        refine g_icmp_ne (tgt := 47) dX5_unguarded_32 (by decide) ⟨by omega, by omega⟩ (by decide) (fun k79 => ?_) (fun k79 => ?_)
        · refine g_iinc (l1 := [(4, vI (x5_4_0 + 1)), (0, vR o0), (1, vR o1), (2, vI a1), (3, vI x5_3_0)]) dX5_unguarded_47 rfl (by decide) rfl ?_
          refine g_goto (tgt := 5) dX5_unguarded_50 (by decide) ?_
          refine g_forget (l1 := [(0, vR o0), (1, vR o1), (2, vI a1), (3, vI x5_3_0), (4, vI (x5_4_0 + 1))]) (by intro q hq; simp only [List.mem_cons, List.not_mem_nil, or_false] at hq ⊢; rcases hq with rfl | rfl | rfl | rfl | rfl <;> simp) ?_
          exact ih5_0 (x5_4_0 + 1) ⟨by omega, by omega⟩ x5_3_0 ⟨by omega, by omega⟩ (by omega)
        · refine g_iload_n dX5_unguarded_35 rfl ?_
          refine g_iconst dX5_unguarded_36 ?_
          refine g_aload_n dX5_unguarded_37 rfl ?_
          refine x_g14_0 (n := (crX o0 0)) k_o0 ffX5_9 dX5_unguarded_38 rfl ?_
          refine g_iload dX5_unguarded_41 rfl ?_
          refine x_l15 (z := (P (crX o0 0) x5_4_0)) (ck_14_0 k_o0) dX5_unguarded_43 ⟨by omega, by omega⟩ rfl ?_
          refine g_ishl dX5_unguarded_44 ?_
          refine g_nm (fun b80 e_b80 => ?_)
          have h_b80 := ishl_ir 1 (P (crX o0 0) x5_4_0)
          rw [← e_b80] at h_b80
          have f_b80_0 := bx_15 (o := (crX o0 0)) (k := x5_4_0) hB (ck_14_0 k_o0)
          refine g_ior dX5_unguarded_45 ?_
          refine g_nm (fun b81 e_b81 => ?_)
          have h_b81 := ior_ir x5_3_0 b80
          rw [← e_b81] at h_b81
          refine g_istore_n (l1 := [(3, vI b81), (0, vR o0), (1, vR o1), (2, vI a1), (4, vI x5_4_0)]) dX5_unguarded_46 (by decide) rfl ?_
          refine g_iinc (l1 := [(4, vI (x5_4_0 + 1)), (3, vI b81), (0, vR o0), (1, vR o1), (2, vI a1)]) dX5_unguarded_47 rfl (by decide) rfl ?_
          refine g_goto (tgt := 5) dX5_unguarded_50 (by decide) ?_
          refine g_forget (l1 := [(0, vR o0), (1, vR o1), (2, vI a1), (3, vI b81), (4, vI (x5_4_0 + 1))]) (by intro q hq; simp only [List.mem_cons, List.not_mem_nil, or_false] at hq ⊢; rcases hq with rfl | rfl | rfl | rfl | rfl <;> simp) ?_
          exact ih5_0 (x5_4_0 + 1) ⟨by omega, by omega⟩ b81 ⟨by omega, by omega⟩ (by omega)
  refine g_forget (l1 := [(0, vR o0), (1, vR o1), (2, vI a1), (3, vI 0), (4, vI 0)]) (by intro q hq; simp only [List.mem_cons, List.not_mem_nil, or_false] at hq ⊢; rcases hq with rfl | rfl | rfl | rfl | rfl <;> simp) ?_
  exact L5_0 _ 0 (by decide) 0 (by decide) (Nat.lt_succ_self _)
set_option maxRecDepth 100000 in
set_option maxHeartbeats 4000000 in
theorem m_X5_placeTaking (G : GT) (P : PH) (o0 : Nat) (o1 : Nat) (a1 : Int) (a2 : Int) (k_o0 : kx o0 14) (k_o1 : kx o1 28) (h_a1 : (-2147483648) ≤ a1 ∧ a1 ≤ 2147483647) (h_a2 : (-2147483648) ≤ a2 ∧ a2 ≤ 2147483647) (hB : BdX P) (Q : Option PV → PH → Prop) (hQ : ∀ (r : Int) (_ : (-1) ≤ r ∧ r ≤ 11), Q (some (vI r)) P) : Ct WSX G 2 iX5_placeTaking [vR o0, vR o1, vI a1, vI a2] P Q := by
  refine Ct.of (by decide) (l0 := [(0, vR o0), (1, vR o1), (2, vI a1), (3, vI a2)]) rfl (Nat.le_of_ble_eq_true rfl) ?_
  refine g_iconst dX5_placeTaking_0 ?_
  refine g_istore (l1 := [(4, vI 0), (0, vR o0), (1, vR o1), (2, vI a1), (3, vI a2)]) dX5_placeTaking_1 (by decide) rfl ?_
  have L3_0 : ∀ (n3_0 : Nat) (x3_4_0 : Int) (h_x3_4_0 : 0 ≤ x3_4_0 ∧ x3_4_0 ≤ 12) (hm3_0 : ((13 - x3_4_0) : Int).toNat < n3_0), Go WSX G 2 iX5_placeTaking 3 [(0, vR o0), (1, vR o1), (2, vI a1), (3, vI a2), (4, vI x3_4_0)] [] P Q := by
    intro n3_0
    induction n3_0 with
    | zero => intro x3_4_0 h_x3_4_0 hm3_0; exact absurd hm3_0 (Nat.not_lt_zero _)
    | succ n3_0 ih3_0 =>
    intro x3_4_0 h_x3_4_0 hm3_0
    refine g_iload dX5_placeTaking_3 rfl ?_
    refine g_aload_n dX5_placeTaking_5 rfl ?_
    refine x_g14_1 (z := (P o0 1)) k_o0 ffX5_24 dX5_placeTaking_6 rfl ?_
    have f83 := bx_14_1 (o := o0) hB k_o0
    refine g_icmp_ge (tgt := 63) dX5_placeTaking_9 (by decide) ⟨by omega, by omega⟩ ⟨by have q0 := bx_14_1 (o := o0) hB k_o0; omega, by have q0 := bx_14_1 (o := o0) hB k_o0; omega⟩ (fun k84 => ?_) (fun k84 => ?_)
    · refine g_iconst dX5_placeTaking_63 ?_
      exact g_retI dX5_placeTaking_64 rfl (hQ (-1) (by decide) )
    · refine g_iload_n dX5_placeTaking_12 rfl ?_
      refine g_aload_n dX5_placeTaking_13 rfl ?_
      refine x_g14_0 (n := (crX o0 0)) k_o0 ffX5_9 dX5_placeTaking_14 rfl ?_
      refine g_iload dX5_placeTaking_17 rfl ?_
      refine x_l15 (z := (P (crX o0 0) x3_4_0)) (ck_14_0 k_o0) dX5_placeTaking_19 ⟨by omega, by omega⟩ rfl ?_
      have f85 := bx_15 (o := (crX o0 0)) (k := x3_4_0) hB (ck_14_0 k_o0)
      refine g_nI (av := [vI a1, vI (P (crX o0 0) x3_4_0)]) (st := []) (m_X11_isIn G P a1 (P (crX o0 0) x3_4_0) ⟨by omega, by omega⟩ ⟨by have q0 := bx_15 (o := (crX o0 0)) (k := x3_4_0) hB (ck_14_0 k_o0); omega, by have q0 := bx_15 (o := (crX o0 0)) (k := x3_4_0) hB (ck_14_0 k_o0); omega⟩ hB  _ (fun rc86 hc86 => ⟨rc86, rfl, ?_⟩)) cf_X11_isIn (fun U h => h.2.1) rfl (Nat.le_of_ble_eq_true rfl) (by decide) rfl dX5_placeTaking_20
      refine g_if_eq (tgt := 57) dX5_placeTaking_23 (by decide) ⟨by omega, by omega⟩ (fun k87 => ?_) (fun k87 => ?_)
      · refine g_iinc (l1 := [(4, vI (x3_4_0 + 1)), (0, vR o0), (1, vR o1), (2, vI a1), (3, vI a2)]) dX5_placeTaking_57 rfl (by decide) rfl ?_
        refine g_goto (tgt := 3) dX5_placeTaking_60 (by decide) ?_
        refine g_forget (l1 := [(0, vR o0), (1, vR o1), (2, vI a1), (3, vI a2), (4, vI (x3_4_0 + 1))]) (by intro q hq; simp only [List.mem_cons, List.not_mem_nil, or_false] at hq ⊢; rcases hq with rfl | rfl | rfl | rfl | rfl <;> simp) ?_
        exact ih3_0 (x3_4_0 + 1) ⟨by omega, by omega⟩ (by omega)
      · refine g_aload_n dX5_placeTaking_26 rfl ?_
        refine g_aload_n dX5_placeTaking_27 rfl ?_
        refine x_g14_0 (n := (crX o0 0)) k_o0 ffX5_9 dX5_placeTaking_28 rfl ?_
        refine g_iload dX5_placeTaking_31 rfl ?_
        refine x_l15 (z := (P (crX o0 0) x3_4_0)) (ck_14_0 k_o0) dX5_placeTaking_33 ⟨by omega, by omega⟩ rfl ?_
        refine g_vI (av := [vI (P (crX o0 0) x3_4_0)]) (o := o1) (st := []) (m_X9_guardOf G P o1 (P (crX o0 0) x3_4_0) k_o1 ⟨by have q0 := bx_15 (o := (crX o0 0)) (k := x3_4_0) hB (ck_14_0 k_o0); omega, by have q0 := bx_15 (o := (crX o0 0)) (k := x3_4_0) hB (ck_14_0 k_o0); omega⟩ hB  _ (fun rc88 hc88 => ⟨rc88, rfl, ?_⟩)) cf_X9_guardOf t_966 rfl (show kx o1 28 from k_o1).1 ((show kx o1 28 from k_o1).sh rfl) rfl rfl (Nat.le_of_ble_eq_true rfl) (by decide) rfl dX5_placeTaking_34
        refine g_istore (l1 := [(5, vI rc88), (0, vR o0), (1, vR o1), (2, vI a1), (3, vI a2), (4, vI x3_4_0)]) dX5_placeTaking_37 (by decide) rfl ?_
        refine g_iload dX5_placeTaking_39 rfl ?_
        refine g_iconst dX5_placeTaking_41 ?_
        refine g_icmp_eq (tgt := 54) dX5_placeTaking_42 (by decide) ⟨by omega, by omega⟩ (by decide) (fun k89 => ?_) (fun k89 => ?_)
        · refine g_iload dX5_placeTaking_54 rfl ?_
          exact g_retI dX5_placeTaking_56 rfl (hQ x3_4_0 ⟨by omega, by omega⟩ )
        · refine g_iload_n dX5_placeTaking_45 rfl ?_
          refine g_iload dX5_placeTaking_46 rfl ?_
          refine g_nI (av := [vI a2, vI rc88]) (st := []) (m_X11_isIn G P a2 rc88 ⟨by omega, by omega⟩ ⟨by omega, by omega⟩ hB  _ (fun rc90 hc90 => ⟨rc90, rfl, ?_⟩)) cf_X11_isIn (fun U h => h.2.1) rfl (Nat.le_of_ble_eq_true rfl) (by decide) rfl dX5_placeTaking_48
          refine g_if_eq (tgt := 57) dX5_placeTaking_51 (by decide) ⟨by omega, by omega⟩ (fun k91 => ?_) (fun k91 => ?_)
          · refine g_iinc (l1 := [(4, vI (x3_4_0 + 1)), (5, vI rc88), (0, vR o0), (1, vR o1), (2, vI a1), (3, vI a2)]) dX5_placeTaking_57 rfl (by decide) rfl ?_
            refine g_goto (tgt := 3) dX5_placeTaking_60 (by decide) ?_
            refine g_forget (l1 := [(0, vR o0), (1, vR o1), (2, vI a1), (3, vI a2), (4, vI (x3_4_0 + 1))]) (by intro q hq; simp only [List.mem_cons, List.not_mem_nil, or_false] at hq ⊢; rcases hq with rfl | rfl | rfl | rfl | rfl <;> simp) ?_
            exact ih3_0 (x3_4_0 + 1) ⟨by omega, by omega⟩ (by omega)
          · refine g_iload dX5_placeTaking_54 rfl ?_
            exact g_retI dX5_placeTaking_56 rfl (hQ x3_4_0 ⟨by omega, by omega⟩ )
  refine g_forget (l1 := [(0, vR o0), (1, vR o1), (2, vI a1), (3, vI a2), (4, vI 0)]) (by intro q hq; simp only [List.mem_cons, List.not_mem_nil, or_false] at hq ⊢; rcases hq with rfl | rfl | rfl | rfl | rfl <;> simp) ?_
  exact L3_0 _ 0 (by decide) (Nat.lt_succ_self _)
set_option maxRecDepth 100000 in
set_option maxHeartbeats 4000000 in
theorem m_X5_takings (G : GT) (P : PH) (o0 : Nat) (o1 : Nat) (a1 : Int) (k_o0 : kx o0 14) (k_o1 : kx o1 28) (h_a1 : (-2147483648) ≤ a1 ∧ a1 ≤ 2147483647) (hB : BdX P) (Q : Option PV → PH → Prop) (hQ : ∀ (r : Int) (_ : (-9223372036854775808) ≤ r ∧ r ≤ 9223372036854775807), Q (some (vL r)) P) : Ct WSX G 2 iX5_takings [vR o0, vR o1, vI a1] P Q := by
  refine Ct.of (by decide) (l0 := [(0, vR o0), (1, vR o1), (2, vI a1)]) rfl (Nat.le_of_ble_eq_true rfl) ?_
  refine g_lconst (z := 0) dX5_takings_0 (by decide) ?_
  refine g_lstore_n (l1 := [(3, vL 0), (0, vR o0), (1, vR o1), (2, vI a1)]) dX5_takings_1 (by decide) rfl ?_
  refine g_iconst dX5_takings_2 ?_
  refine g_istore (l1 := [(5, vI 0), (3, vL 0), (0, vR o0), (1, vR o1), (2, vI a1)]) dX5_takings_3 (by decide) rfl ?_
  refine g_iconst dX5_takings_5 ?_
  refine g_istore (l1 := [(6, vI 0), (5, vI 0), (3, vL 0), (0, vR o0), (1, vR o1), (2, vI a1)]) dX5_takings_6 (by decide) rfl ?_
  have L8_0 : ∀ (n8_0 : Nat) (x8_6_0 : Int) (h_x8_6_0 : 0 ≤ x8_6_0 ∧ x8_6_0 ≤ 12) (x8_5_0 : Int) (h_x8_5_0 : (-2147483648) ≤ x8_5_0 ∧ x8_5_0 ≤ 2147483647) (x8_3_0 : Int) (h_x8_3_0 : (-9223372036854775808) ≤ x8_3_0 ∧ x8_3_0 ≤ 9223372036854775807) (hm8_0 : ((13 - x8_6_0) : Int).toNat < n8_0), Go WSX G 2 iX5_takings 8 [(0, vR o0), (1, vR o1), (2, vI a1), (3, vL x8_3_0), (5, vI x8_5_0), (6, vI x8_6_0)] [] P Q := by
    intro n8_0
    induction n8_0 with
    | zero => intro x8_6_0 h_x8_6_0 x8_5_0 h_x8_5_0 x8_3_0 h_x8_3_0 hm8_0; exact absurd hm8_0 (Nat.not_lt_zero _)
    | succ n8_0 ih8_0 =>
    intro x8_6_0 h_x8_6_0 x8_5_0 h_x8_5_0 x8_3_0 h_x8_3_0 hm8_0
    refine g_iload dX5_takings_8 rfl ?_
    refine g_aload_n dX5_takings_10 rfl ?_
    refine x_g14_1 (z := (P o0 1)) k_o0 ffX5_24 dX5_takings_11 rfl ?_
    have f149 := bx_14_1 (o := o0) hB k_o0
    refine g_icmp_ge (tgt := 97) dX5_takings_14 (by decide) ⟨by omega, by omega⟩ ⟨by have q0 := bx_14_1 (o := o0) hB k_o0; omega, by have q0 := bx_14_1 (o := o0) hB k_o0; omega⟩ (fun k150 => ?_) (fun k150 => ?_)
    · refine g_lload_n dX5_takings_97 rfl ?_
      exact g_retL dX5_takings_98 rfl (hQ x8_3_0 ⟨by omega, by omega⟩ )
    · refine g_aload_n dX5_takings_17 rfl ?_
      refine x_g14_0 (n := (crX o0 0)) k_o0 ffX5_9 dX5_takings_18 rfl ?_
      refine g_iload dX5_takings_21 rfl ?_
      refine x_l15 (z := (P (crX o0 0) x8_6_0)) (ck_14_0 k_o0) dX5_takings_23 ⟨by omega, by omega⟩ rfl ?_
      refine g_istore (l1 := [(7, vI (P (crX o0 0) x8_6_0)), (0, vR o0), (1, vR o1), (2, vI a1), (3, vL x8_3_0), (5, vI x8_5_0), (6, vI x8_6_0)]) dX5_takings_24 (by decide) rfl ?_
      refine g_aload_n dX5_takings_26 rfl ?_
      refine g_iload dX5_takings_27 rfl ?_
      have f151 := bx_15 (o := (crX o0 0)) (k := x8_6_0) hB (ck_14_0 k_o0)
      refine g_vI (av := [vI (P (crX o0 0) x8_6_0)]) (o := o1) (st := []) (m_X9_guardOf G P o1 (P (crX o0 0) x8_6_0) k_o1 ⟨by have q0 := bx_15 (o := (crX o0 0)) (k := x8_6_0) hB (ck_14_0 k_o0); omega, by have q0 := bx_15 (o := (crX o0 0)) (k := x8_6_0) hB (ck_14_0 k_o0); omega⟩ hB  _ (fun rc152 hc152 => ⟨rc152, rfl, ?_⟩)) cf_X9_guardOf t_966 rfl (show kx o1 28 from k_o1).1 ((show kx o1 28 from k_o1).sh rfl) rfl rfl (Nat.le_of_ble_eq_true rfl) (by decide) rfl dX5_takings_29
      refine g_istore (l1 := [(8, vI rc152), (7, vI (P (crX o0 0) x8_6_0)), (0, vR o0), (1, vR o1), (2, vI a1), (3, vL x8_3_0), (5, vI x8_5_0), (6, vI x8_6_0)]) dX5_takings_32 (by decide) rfl ?_
      refine g_iload_n dX5_takings_34 rfl ?_
      refine g_iload dX5_takings_35 rfl ?_
      refine g_nI (av := [vI a1, vI (P (crX o0 0) x8_6_0)]) (st := []) (m_X11_isIn G P a1 (P (crX o0 0) x8_6_0) ⟨by omega, by omega⟩ ⟨by have q0 := bx_15 (o := (crX o0 0)) (k := x8_6_0) hB (ck_14_0 k_o0); omega, by have q0 := bx_15 (o := (crX o0 0)) (k := x8_6_0) hB (ck_14_0 k_o0); omega⟩ hB  _ (fun rc153 hc153 => ⟨rc153, rfl, ?_⟩)) cf_X11_isIn (fun U h => h.2.1) rfl (Nat.le_of_ble_eq_true rfl) (by decide) rfl dX5_takings_37
      refine g_if_eq (tgt := 91) dX5_takings_40 (by decide) ⟨by omega, by omega⟩ (fun k154 => ?_) (fun k154 => ?_)
      · refine g_iinc (l1 := [(6, vI (x8_6_0 + 1)), (8, vI rc152), (7, vI (P (crX o0 0) x8_6_0)), (0, vR o0), (1, vR o1), (2, vI a1), (3, vL x8_3_0), (5, vI x8_5_0)]) dX5_takings_91 rfl (by decide) rfl ?_
        refine g_goto (tgt := 8) dX5_takings_94 (by decide) ?_
        refine g_forget (l1 := [(0, vR o0), (1, vR o1), (2, vI a1), (3, vL x8_3_0), (5, vI x8_5_0), (6, vI (x8_6_0 + 1))]) (by intro q hq; simp only [List.mem_cons, List.not_mem_nil, or_false] at hq ⊢; rcases hq with rfl | rfl | rfl | rfl | rfl | rfl <;> simp) ?_
        exact ih8_0 (x8_6_0 + 1) ⟨by omega, by omega⟩ x8_5_0 ⟨by omega, by omega⟩ x8_3_0 ⟨by omega, by omega⟩ (by omega)
      · refine g_iload dX5_takings_43 rfl ?_
        refine g_iconst dX5_takings_45 ?_
        refine g_icmp_eq (tgt := 62) dX5_takings_46 (by decide) ⟨by omega, by omega⟩ (by decide) (fun k155 => ?_) (fun k155 => ?_)
        · refine g_lload_n dX5_takings_62 rfl ?_
          refine g_ldc2 (z := 13) dX5_takings_63 t_1201 (by decide) ?_
          refine g_lmul dX5_takings_66 ?_
          refine g_normL (fun r156 h_r156 e_r156 => ?_)
          refine g_iload dX5_takings_67 rfl ?_
          refine g_i2l dX5_takings_69 ⟨by have q0 := bx_15 (o := (crX o0 0)) (k := x8_6_0) hB (ck_14_0 k_o0); omega, by have q0 := bx_15 (o := (crX o0 0)) (k := x8_6_0) hB (ck_14_0 k_o0); omega⟩ ?_
          refine g_ladd dX5_takings_70 ?_
          refine g_normL (fun r157 h_r157 e_r157 => ?_)
          refine g_lconst (z := 1) dX5_takings_71 (by decide) ?_
          refine g_ladd dX5_takings_72 ?_
          refine g_normL (fun r158 h_r158 e_r158 => ?_)
          refine g_lstore_n (l1 := [(3, vL r158), (8, vI rc152), (7, vI (P (crX o0 0) x8_6_0)), (0, vR o0), (1, vR o1), (2, vI a1), (5, vI x8_5_0), (6, vI x8_6_0)]) dX5_takings_73 (by decide) rfl ?_
          refine g_iload dX5_takings_74 rfl ?_
          refine g_iconst dX5_takings_76 ?_
          refine g_icmp_ne (tgt := 82) dX5_takings_77 (by decide) ⟨by omega, by omega⟩ (by decide) (fun k159 => by exfalso; omega) (fun k159 => ?_)
          refine g_lload_n dX5_takings_80 rfl ?_
          exact g_retL dX5_takings_81 rfl (hQ r158 ⟨by omega, by omega⟩ )
        · refine g_iload dX5_takings_49 rfl ?_
          refine g_iload dX5_takings_51 rfl ?_
          refine g_nI (av := [vI x8_5_0, vI rc152]) (st := []) (m_X11_isIn G P x8_5_0 rc152 ⟨by omega, by omega⟩ ⟨by omega, by omega⟩ hB  _ (fun rc160 hc160 => ⟨rc160, rfl, ?_⟩)) cf_X11_isIn (fun U h => h.2.1) rfl (Nat.le_of_ble_eq_true rfl) (by decide) rfl dX5_takings_53
          refine g_if_eq (tgt := 62) dX5_takings_56 (by decide) ⟨by omega, by omega⟩ (fun k161 => ?_) (fun k161 => ?_)
          · refine g_lload_n dX5_takings_62 rfl ?_
            refine g_ldc2 (z := 13) dX5_takings_63 t_1201 (by decide) ?_
            refine g_lmul dX5_takings_66 ?_
            refine g_normL (fun r162 h_r162 e_r162 => ?_)
            refine g_iload dX5_takings_67 rfl ?_
            refine g_i2l dX5_takings_69 ⟨by have q0 := bx_15 (o := (crX o0 0)) (k := x8_6_0) hB (ck_14_0 k_o0); omega, by have q0 := bx_15 (o := (crX o0 0)) (k := x8_6_0) hB (ck_14_0 k_o0); omega⟩ ?_
            refine g_ladd dX5_takings_70 ?_
            refine g_normL (fun r163 h_r163 e_r163 => ?_)
            refine g_lconst (z := 1) dX5_takings_71 (by decide) ?_
            refine g_ladd dX5_takings_72 ?_
            refine g_normL (fun r164 h_r164 e_r164 => ?_)
            refine g_lstore_n (l1 := [(3, vL r164), (8, vI rc152), (7, vI (P (crX o0 0) x8_6_0)), (0, vR o0), (1, vR o1), (2, vI a1), (5, vI x8_5_0), (6, vI x8_6_0)]) dX5_takings_73 (by decide) rfl ?_
            refine g_iload dX5_takings_74 rfl ?_
            refine g_iconst dX5_takings_76 ?_
            refine g_icmp_ne (tgt := 82) dX5_takings_77 (by decide) ⟨by omega, by omega⟩ (by decide) (fun k165 => ?_) (fun k165 => ?_)
            · refine g_iload dX5_takings_82 rfl ?_
              refine g_iconst dX5_takings_84 ?_
              refine g_iload dX5_takings_85 rfl ?_
              refine g_ishl dX5_takings_87 ?_
              refine g_nm (fun b166 e_b166 => ?_)
              have h_b166 := ishl_ir 1 rc152
              rw [← e_b166] at h_b166
              refine g_ior dX5_takings_88 ?_
              refine g_nm (fun b167 e_b167 => ?_)
              have h_b167 := ior_ir x8_5_0 b166
              rw [← e_b167] at h_b167
              refine g_istore (l1 := [(5, vI b167), (3, vL r164), (8, vI rc152), (7, vI (P (crX o0 0) x8_6_0)), (0, vR o0), (1, vR o1), (2, vI a1), (6, vI x8_6_0)]) dX5_takings_89 (by decide) rfl ?_
              refine g_iinc (l1 := [(6, vI (x8_6_0 + 1)), (5, vI b167), (3, vL r164), (8, vI rc152), (7, vI (P (crX o0 0) x8_6_0)), (0, vR o0), (1, vR o1), (2, vI a1)]) dX5_takings_91 rfl (by decide) rfl ?_
              refine g_goto (tgt := 8) dX5_takings_94 (by decide) ?_
              refine g_forget (l1 := [(0, vR o0), (1, vR o1), (2, vI a1), (3, vL r164), (5, vI b167), (6, vI (x8_6_0 + 1))]) (by intro q hq; simp only [List.mem_cons, List.not_mem_nil, or_false] at hq ⊢; rcases hq with rfl | rfl | rfl | rfl | rfl | rfl <;> simp) ?_
              exact ih8_0 (x8_6_0 + 1) ⟨by omega, by omega⟩ b167 ⟨by omega, by omega⟩ r164 ⟨by omega, by omega⟩ (by omega)
            · refine g_lload_n dX5_takings_80 rfl ?_
              exact g_retL dX5_takings_81 rfl (hQ r164 ⟨by omega, by omega⟩ )
          · refine g_goto (tgt := 91) dX5_takings_59 (by decide) ?_
            refine g_iinc (l1 := [(6, vI (x8_6_0 + 1)), (8, vI rc152), (7, vI (P (crX o0 0) x8_6_0)), (0, vR o0), (1, vR o1), (2, vI a1), (3, vL x8_3_0), (5, vI x8_5_0)]) dX5_takings_91 rfl (by decide) rfl ?_
            refine g_goto (tgt := 8) dX5_takings_94 (by decide) ?_
            refine g_forget (l1 := [(0, vR o0), (1, vR o1), (2, vI a1), (3, vL x8_3_0), (5, vI x8_5_0), (6, vI (x8_6_0 + 1))]) (by intro q hq; simp only [List.mem_cons, List.not_mem_nil, or_false] at hq ⊢; rcases hq with rfl | rfl | rfl | rfl | rfl | rfl <;> simp) ?_
            exact ih8_0 (x8_6_0 + 1) ⟨by omega, by omega⟩ x8_5_0 ⟨by omega, by omega⟩ x8_3_0 ⟨by omega, by omega⟩ (by omega)
  refine g_forget (l1 := [(0, vR o0), (1, vR o1), (2, vI a1), (3, vL 0), (5, vI 0), (6, vI 0)]) (by intro q hq; simp only [List.mem_cons, List.not_mem_nil, or_false] at hq ⊢; rcases hq with rfl | rfl | rfl | rfl | rfl | rfl <;> simp) ?_
  exact L8_0 _ 0 (by decide) 0 (by decide) 0 (by decide) (Nat.lt_succ_self _)
set_option maxRecDepth 100000 in
set_option maxHeartbeats 4000000 in
theorem m_X0_keptTold (G : GT) (P : PH) (hB : BdX P) (Q : Option PV → PH → Prop) (hQ : ∀ (r : Int) (_ : (-2147483648) ≤ r ∧ r ≤ 40), Q (some (vI r)) P) : Ct WSX G 2 iX0_keptTold [vR 18] P Q := by
  refine Ct.of (by decide) (l0 := [(0, vR 18)]) rfl (Nat.le_of_ble_eq_true rfl) ?_
  refine g_aload_n dX0_keptTold_0 rfl ?_
  refine x_g16_5 (z := (P 18 5)) (⟨by decide, rfl⟩ : kx 18 16) ffX0_31 dX0_keptTold_1 rfl ?_
  refine g_bipush dX0_keptTold_4 (by decide) ?_
  have f1 := bx_16_5 (o := 18) hB (⟨by decide, rfl⟩ : kx 18 16)
  refine g_sI (av := [vI (P 18 5), vI 40]) (st := []) (m_J9_min_7cf53 G P (P 18 5) 40 ⟨by have q0 := bx_16_5 (o := 18) hB (⟨by decide, rfl⟩ : kx 18 16); omega, by have q0 := bx_16_5 (o := 18) hB (⟨by decide, rfl⟩ : kx 18 16); omega⟩ (by decide) hB  _ (fun rc2 hc2 gc2_m => ⟨rc2, rfl, ?_⟩)) cf_J9_min_7cf53 t_923 rfl (Nat.le_of_ble_eq_true rfl) (by decide) rfl dX0_keptTold_6
  exact g_retI dX0_keptTold_9 rfl (hQ rc2 ⟨by omega, by omega⟩ )
set_option maxRecDepth 100000 in
set_option maxHeartbeats 4000000 in
theorem m_X0_tellKept (G : GT) (P : PH) (a1 : Int) (a2 : Int) (h_a1 : (-2147483648) ≤ a1 ∧ a1 ≤ 2147483647) (h_a2 : (-2147483648) ≤ a2 ∧ a2 ≤ 2147483647) (hB : BdX P) (Q : Option PV → PH → Prop) (hQ : ∀ (r : Int) (_ : (-2147483648) ≤ r ∧ r ≤ 2147483647), Q (some (vI r)) P) : Ct WSX G 3 iX0_tellKept [vR 18, vI a1, vI a2] P Q := by
  refine Ct.of (by decide) (l0 := [(0, vR 18), (1, vI a1), (2, vI a2)]) rfl (Nat.le_of_ble_eq_true rfl) ?_
  refine g_iload_n dX0_tellKept_0 rfl ?_
  refine g_if_lt (tgt := 12) dX0_tellKept_1 (by decide) ⟨by omega, by omega⟩ (fun k1 => ?_) (fun k1 => ?_)
  · refine g_iconst dX0_tellKept_12 ?_
    exact g_retI dX0_tellKept_13 rfl (hQ (-1) (by decide) )
  · refine g_iload_n dX0_tellKept_4 rfl ?_
    refine g_aload_n dX0_tellKept_5 rfl ?_
    refine g_vI (av := []) (o := 18) (st := [vI a1]) (m_X0_keptTold G P  hB  _ (fun rc2 hc2 => ⟨rc2, rfl, ?_⟩)) cf_X0_keptTold t_1330 rfl (show kx 18 16 from (⟨by decide, rfl⟩ : kx 18 16)).1 ((show kx 18 16 from (⟨by decide, rfl⟩ : kx 18 16)).sh rfl) rfl rfl (Nat.le_of_ble_eq_true rfl) (by decide) rfl dX0_tellKept_6
    refine g_icmp_lt (tgt := 14) dX0_tellKept_9 (by decide) ⟨by omega, by omega⟩ ⟨by omega, by omega⟩ (fun k3 => ?_) (fun k3 => ?_)
    · refine g_aload_n dX0_tellKept_14 rfl ?_
      refine x_g16_5 (z := (P 18 5)) (⟨by decide, rfl⟩ : kx 18 16) ffX0_31 dX0_tellKept_15 rfl ?_
      refine g_aload_n dX0_tellKept_18 rfl ?_
      refine g_vI (av := []) (o := 18) (st := [vI (P 18 5)]) (m_X0_keptTold G P  hB  _ (fun rc4 hc4 => ⟨rc4, rfl, ?_⟩)) cf_X0_keptTold t_1330 rfl (show kx 18 16 from (⟨by decide, rfl⟩ : kx 18 16)).1 ((show kx 18 16 from (⟨by decide, rfl⟩ : kx 18 16)).sh rfl) rfl rfl (Nat.le_of_ble_eq_true rfl) (by decide) rfl dX0_tellKept_19
      refine g_isub dX0_tellKept_22 ?_
      refine g_norm (fun r5 h_r5 e_r5 => ?_)
      refine g_iload_n dX0_tellKept_23 rfl ?_
      refine g_iadd dX0_tellKept_24 ?_
      refine g_norm (fun r6 h_r6 e_r6 => ?_)
      refine g_sipush dX0_tellKept_25 (by decide) ?_
      refine g_sI (av := [vI r6, vI 1024]) (st := []) (m_J9_floorMod_7cf53 G P r6 1024 ⟨by omega, by omega⟩ (by decide) hB (by omega) _ (fun rc7 hc7 gc7_m => ⟨rc7, rfl, ?_⟩)) cf_J9_floorMod_7cf53 t_1262 rfl (Nat.le_of_ble_eq_true rfl) (by decide) rfl dX0_tellKept_28
      refine g_istore_n (l1 := [(3, vI rc7), (0, vR 18), (1, vI a1), (2, vI a2)]) dX0_tellKept_31 (by decide) rfl ?_
      refine g_iload_n dX0_tellKept_32 rfl ?_
      by_cases k8 : a2 = 0
      · refine g_tswI (tgt := 60) 0 dX0_tellKept_33 ⟨by omega, by omega⟩ (by omega) (by omega) rfl (by decide) ?_
        refine g_aload_n dX0_tellKept_60 rfl ?_
        refine x_g16_0 (n := 19) (⟨by decide, rfl⟩ : kx 18 16) ffX0_9 dX0_tellKept_61 rfl ?_
        refine g_iload_n dX0_tellKept_64 rfl ?_
        refine x_l17 (z := (P 19 rc7)) (⟨by decide, rfl⟩ : kx 19 17) dX0_tellKept_65 ⟨by omega, by omega⟩ rfl ?_
        exact g_retI dX0_tellKept_66 rfl (hQ (P 19 rc7) ⟨by have q0 := bx_17 (o := 19) (k := rc7) hB (⟨by decide, rfl⟩ : kx 19 17); omega, by have q0 := bx_17 (o := 19) (k := rc7) hB (⟨by decide, rfl⟩ : kx 19 17); omega⟩ )
      by_cases k9 : a2 = 1
      · refine g_tswI (tgt := 67) 1 dX0_tellKept_33 ⟨by omega, by omega⟩ (by omega) (by omega) rfl (by decide) ?_
        refine g_aload_n dX0_tellKept_67 rfl ?_
        refine x_g16_1 (n := 20) (⟨by decide, rfl⟩ : kx 18 16) ffX0_15 dX0_tellKept_68 rfl ?_
        refine g_iload_n dX0_tellKept_71 rfl ?_
        refine x_l18 (z := (P 20 rc7)) (⟨by decide, rfl⟩ : kx 20 18) dX0_tellKept_72 ⟨by omega, by omega⟩ rfl ?_
        exact g_retI dX0_tellKept_73 rfl (hQ (P 20 rc7) ⟨by have q0 := bx_18 (o := 20) (k := rc7) hB (⟨by decide, rfl⟩ : kx 20 18); omega, by have q0 := bx_18 (o := 20) (k := rc7) hB (⟨by decide, rfl⟩ : kx 20 18); omega⟩ )
      by_cases k10 : a2 = 2
      · refine g_tswI (tgt := 74) 2 dX0_tellKept_33 ⟨by omega, by omega⟩ (by omega) (by omega) rfl (by decide) ?_
        refine g_aload_n dX0_tellKept_74 rfl ?_
        refine x_g16_2 (n := 21) (⟨by decide, rfl⟩ : kx 18 16) ffX0_18 dX0_tellKept_75 rfl ?_
        refine g_iload_n dX0_tellKept_78 rfl ?_
        refine x_l19 (z := (P 21 rc7)) (⟨by decide, rfl⟩ : kx 21 19) dX0_tellKept_79 ⟨by omega, by omega⟩ rfl ?_
        exact g_retI dX0_tellKept_80 rfl (hQ (P 21 rc7) ⟨by have q0 := bx_19 (o := 21) (k := rc7) hB (⟨by decide, rfl⟩ : kx 21 19); omega, by have q0 := bx_19 (o := 21) (k := rc7) hB (⟨by decide, rfl⟩ : kx 21 19); omega⟩ )
      refine g_tswO (tgt := 81) dX0_tellKept_33 ⟨by omega, by omega⟩ (by omega) (by decide) ?_
      refine g_iconst dX0_tellKept_81 ?_
      exact g_retI dX0_tellKept_82 rfl (hQ (-1) (by decide) )
    · refine g_iconst dX0_tellKept_12 ?_
      exact g_retI dX0_tellKept_13 rfl (hQ (-1) (by decide) )
set_option maxRecDepth 100000 in
set_option maxHeartbeats 4000000 in
theorem m_X8_agrees (G : GT) (P : PH) (o1 : Nat) (o2 : Nat) (a1 : Int) (k_o1 : kx o1 28) (k_o2 : kx o2 14) (h_a1 : (-2147483648) ≤ a1 ∧ a1 ≤ 2147483647) (hB : BdX P) (Q : Option PV → PH → Prop) (hQ : ∀ (r : Int) (_ : 0 ≤ r ∧ r ≤ 1), Q (some (vI r)) P) : Ct WSX G 3 iX8_agrees [vR 64, vR o1, vR o2, vI a1] P Q := by
  refine Ct.of (by decide) (l0 := [(0, vR 64), (1, vR o1), (2, vR o2), (3, vI a1)]) rfl (Nat.le_of_ble_eq_true rfl) ?_
  refine g_iconst dX8_agrees_0 ?_
  refine g_istore (l1 := [(4, vI 0), (0, vR 64), (1, vR o1), (2, vR o2), (3, vI a1)]) dX8_agrees_1 (by decide) rfl ?_
  have L3_0 : ∀ (n3_0 : Nat) (x3_4_0 : Int) (h_x3_4_0 : 0 ≤ x3_4_0 ∧ x3_4_0 ≤ 16) (hm3_0 : ((17 - x3_4_0) : Int).toNat < n3_0), Go WSX G 3 iX8_agrees 3 [(0, vR 64), (1, vR o1), (2, vR o2), (3, vI a1), (4, vI x3_4_0)] [] P Q := by
    intro n3_0
    induction n3_0 with
    | zero => intro x3_4_0 h_x3_4_0 hm3_0; exact absurd hm3_0 (Nat.not_lt_zero _)
    | succ n3_0 ih3_0 =>
    intro x3_4_0 h_x3_4_0 hm3_0
    refine g_iload dX8_agrees_3 rfl ?_
    refine g_aload_n dX8_agrees_5 rfl ?_
    refine x_g22_2 (z := (P 64 2)) (⟨by decide, rfl⟩ : kx 64 22) ffX8_49 dX8_agrees_6 rfl ?_
    have f74 := bx_22_2 (o := 64) hB (⟨by decide, rfl⟩ : kx 64 22)
    refine g_icmp_ge (tgt := 55) dX8_agrees_9 (by decide) ⟨by omega, by omega⟩ ⟨by have q0 := bx_22_2 (o := 64) hB (⟨by decide, rfl⟩ : kx 64 22); omega, by have q0 := bx_22_2 (o := 64) hB (⟨by decide, rfl⟩ : kx 64 22); omega⟩ (fun k75 => ?_) (fun k75 => ?_)
    · refine g_iconst dX8_agrees_55 ?_
      exact g_retZ dX8_agrees_56 rfl (by decide) (hQ 1 (by decide) )
    · refine g_aload_n dX8_agrees_12 rfl ?_
      refine g_aload_n dX8_agrees_13 rfl ?_
      refine g_aload_n dX8_agrees_14 rfl ?_
      refine g_aload_n dX8_agrees_15 rfl ?_
      refine x_g22_0 (n := 65) (⟨by decide, rfl⟩ : kx 64 22) ffX8_9 dX8_agrees_16 rfl ?_
      refine g_iload dX8_agrees_19 rfl ?_
      refine x_l23 (z := (P 65 x3_4_0)) (⟨by decide, rfl⟩ : kx 65 23) dX8_agrees_21 ⟨by omega, by omega⟩ rfl ?_
      have f76 := bx_23 (o := 65) (k := x3_4_0) hB (⟨by decide, rfl⟩ : kx 65 23)
      refine g_vI (av := [vI (P 65 x3_4_0)]) (o := o1) (st := [vR o1, vR o2]) (m_X9_armsOf G P o1 (P 65 x3_4_0) k_o1 ⟨by have q0 := bx_23 (o := 65) (k := x3_4_0) hB (⟨by decide, rfl⟩ : kx 65 23); omega, by have q0 := bx_23 (o := 65) (k := x3_4_0) hB (⟨by decide, rfl⟩ : kx 65 23); omega⟩ hB  _ (fun rc77 hc77 => ⟨rc77, rfl, ?_⟩)) cf_X9_armsOf t_1237 rfl (show kx o1 28 from k_o1).1 ((show kx o1 28 from k_o1).sh rfl) rfl rfl (Nat.le_of_ble_eq_true rfl) (by decide) rfl dX8_agrees_22
      refine g_iload_n dX8_agrees_25 rfl ?_
      refine g_vI (av := [vR o1, vI rc77, vI a1]) (o := o2) (st := []) (m_X5_placeTaking G P o2 o1 rc77 a1 k_o2 k_o1 ⟨by omega, by omega⟩ ⟨by omega, by omega⟩ hB  _ (fun rc78 hc78 => ⟨rc78, rfl, ?_⟩)) cf_X5_placeTaking t_1238 rfl (show kx o2 14 from k_o2).1 ((show kx o2 14 from k_o2).sh rfl) rfl rfl (Nat.le_of_ble_eq_true rfl) (by decide) rfl dX8_agrees_26
      refine g_istore (l1 := [(5, vI rc78), (0, vR 64), (1, vR o1), (2, vR o2), (3, vI a1), (4, vI x3_4_0)]) dX8_agrees_29 (by decide) rfl ?_
      refine g_aload_n dX8_agrees_31 rfl ?_
      refine g_iload dX8_agrees_32 rfl ?_
      refine g_vI (av := [vI rc78]) (o := o2) (st := []) (m_X5_armAt G P o2 rc78 k_o2 ⟨by omega, by omega⟩ hB  _ (fun rc79 hc79 => ⟨rc79, rfl, ?_⟩)) cf_X5_armAt t_1224 rfl (show kx o2 14 from k_o2).1 ((show kx o2 14 from k_o2).sh rfl) rfl rfl (Nat.le_of_ble_eq_true rfl) (by decide) rfl dX8_agrees_34
      refine g_aload_n dX8_agrees_37 rfl ?_
      refine x_g22_1 (n := 66) (⟨by decide, rfl⟩ : kx 64 22) ffX8_15 dX8_agrees_38 rfl ?_
      refine g_iload dX8_agrees_41 rfl ?_
      refine x_l24 (z := (P 66 x3_4_0)) (⟨by decide, rfl⟩ : kx 66 24) dX8_agrees_43 ⟨by omega, by omega⟩ rfl ?_
      have f80 := bx_24 (o := 66) (k := x3_4_0) hB (⟨by decide, rfl⟩ : kx 66 24)
      refine g_icmp_eq (tgt := 49) dX8_agrees_44 (by decide) ⟨by omega, by omega⟩ ⟨by have q0 := bx_24 (o := 66) (k := x3_4_0) hB (⟨by decide, rfl⟩ : kx 66 24); omega, by have q0 := bx_24 (o := 66) (k := x3_4_0) hB (⟨by decide, rfl⟩ : kx 66 24); omega⟩ (fun k81 => ?_) (fun k81 => ?_)
      · refine g_iinc (l1 := [(4, vI (x3_4_0 + 1)), (5, vI rc78), (0, vR 64), (1, vR o1), (2, vR o2), (3, vI a1)]) dX8_agrees_49 rfl (by decide) rfl ?_
        refine g_goto (tgt := 3) dX8_agrees_52 (by decide) ?_
        refine g_forget (l1 := [(0, vR 64), (1, vR o1), (2, vR o2), (3, vI a1), (4, vI (x3_4_0 + 1))]) (by intro q hq; simp only [List.mem_cons, List.not_mem_nil, or_false] at hq ⊢; rcases hq with rfl | rfl | rfl | rfl | rfl <;> simp) ?_
        exact ih3_0 (x3_4_0 + 1) ⟨by omega, by omega⟩ (by omega)
      · refine g_iconst dX8_agrees_47 ?_
        exact g_retZ dX8_agrees_48 rfl (by decide) (hQ 0 (by decide) )
  refine g_forget (l1 := [(0, vR 64), (1, vR o1), (2, vR o2), (3, vI a1), (4, vI 0)]) (by intro q hq; simp only [List.mem_cons, List.not_mem_nil, or_false] at hq ⊢; rcases hq with rfl | rfl | rfl | rfl | rfl <;> simp) ?_
  exact L3_0 _ 0 (by decide) (Nat.lt_succ_self _)
set_option maxRecDepth 100000 in
set_option maxHeartbeats 4000000 in
theorem m_X8_findSets (G : GT) (P : PH) (o1 : Nat) (o2 : Nat) (k_o1 : kx o1 28) (k_o2 : kx o2 14) (hB : BdX P) (Q : Option PV → PH → Prop) (hQ : ∀ (P1 : PH) (_ : BdX P1) (_ : FrX ([(22, 4)], [25]) P P1), Q none P1) : Ct WSX G 4 iX8_findSets [vR 64, vR o1, vR o2] P Q := by
  refine Ct.of (by decide) (l0 := [(0, vR 64), (1, vR o1), (2, vR o2)]) rfl (Nat.le_of_ble_eq_true rfl) ?_
  refine g_aload_n dX8_findSets_0 rfl ?_
  refine g_iconst dX8_findSets_1 ?_
  refine x_p22_4 (⟨by decide, rfl⟩ : kx 64 22) pfX8_55 dX8_findSets_2 ?_
  have hB1 := by_22_4 (z := 0) hB (⟨by decide, rfl⟩ : kx 64 22) (by decide)
  refine g_iconst dX8_findSets_5 ?_
  refine g_istore_n (l1 := [(3, vI 0), (0, vR 64), (1, vR o1), (2, vR o2)]) dX8_findSets_6 (by decide) rfl ?_
  have L7_1 : ∀ (n7_1 : Nat) (x7_3_1 : Int) (h_x7_3_1 : 0 ≤ x7_3_1 ∧ x7_3_1 ≤ 256) (H7_1 : PH) (hB7_1 : BdX H7_1) (hE7_1 : FrX ([(22, 4)], [25]) (up P 64 4 0) H7_1) (i7_0_1 : H7_1 64 4 ≤ x7_3_1) (hm7_1 : ((257 - x7_3_1) : Int).toNat < n7_1), Go WSX G 4 iX8_findSets 7 [(0, vR 64), (1, vR o1), (2, vR o2), (3, vI x7_3_1)] [] H7_1 Q := by
    intro n7_1
    induction n7_1 with
    | zero => intro x7_3_1 h_x7_3_1 H7_1 hB7_1 hE7_1 i7_0_1 hm7_1; exact absurd hm7_1 (Nat.not_lt_zero _)
    | succ n7_1 ih7_1 =>
    intro x7_3_1 h_x7_3_1 H7_1 hB7_1 hE7_1 i7_0_1 hm7_1
    refine g_iload_n dX8_findSets_7 rfl ?_
    refine g_sipush dX8_findSets_8 (by decide) ?_
    refine g_icmp_ge (tgt := 50) dX8_findSets_11 (by decide) ⟨by omega, by omega⟩ (by decide) (fun k68 => ?_) (fun k68 => ?_)
    · exact g_retV dX8_findSets_50 rfl (hQ _ hB7_1 (FrX.c (FrX.s FrX.rf (⟨by decide, rfl⟩ : kx 64 22) rfl) hE7_1 rfl) )
    · refine g_aload_n dX8_findSets_14 rfl ?_
      refine g_aload_n dX8_findSets_15 rfl ?_
      refine g_aload_n dX8_findSets_16 rfl ?_
      refine g_iload_n dX8_findSets_17 rfl ?_
      refine g_vI (av := [vR o1, vR o2, vI x7_3_1]) (o := 64) (st := []) (m_X8_agrees G H7_1 o1 o2 x7_3_1 k_o1 k_o2 ⟨by omega, by omega⟩ hB7_1  _ (fun rc69 hc69 => ⟨rc69, rfl, ?_⟩)) cf_X8_agrees t_1233 rfl (show kx 64 22 from (⟨by decide, rfl⟩ : kx 64 22)).1 ((show kx 64 22 from (⟨by decide, rfl⟩ : kx 64 22)).sh rfl) rfl rfl (Nat.le_of_ble_eq_true rfl) (by decide) rfl dX8_findSets_18
      refine g_if_eq (tgt := 44) dX8_findSets_21 (by decide) ⟨by omega, by omega⟩ (fun k70 => ?_) (fun k70 => ?_)
      · refine g_iinc (l1 := [(3, vI (x7_3_1 + 1)), (0, vR 64), (1, vR o1), (2, vR o2)]) dX8_findSets_44 rfl (by decide) rfl ?_
        refine g_goto (tgt := 7) dX8_findSets_47 (by decide) ?_
        refine g_forget (l1 := [(0, vR 64), (1, vR o1), (2, vR o2), (3, vI (x7_3_1 + 1))]) (by intro q hq; simp only [List.mem_cons, List.not_mem_nil, or_false] at hq ⊢; rcases hq with rfl | rfl | rfl | rfl <;> simp) ?_
        exact ih7_1 (x7_3_1 + 1) ⟨by omega, by omega⟩ _ hB7_1 (FrX.c FrX.rf hE7_1 rfl) (by have q0 := bx_22_4 (o := 64) hB7_1 (⟨by decide, rfl⟩ : kx 64 22); omega) (by omega)
      · refine g_aload_n dX8_findSets_24 rfl ?_
        refine x_g22_3 (n := 67) (⟨by decide, rfl⟩ : kx 64 22) ffX8_18 dX8_findSets_25 rfl ?_
        refine g_aload_n dX8_findSets_28 rfl ?_
        refine x_g22_4 (z := (H7_1 64 4)) (⟨by decide, rfl⟩ : kx 64 22) ffX8_55 dX8_findSets_29 rfl ?_
        refine g_iload_n dX8_findSets_32 rfl ?_
        refine x_s25 (⟨by decide, rfl⟩ : kx 67 25) dX8_findSets_33 ⟨by have q0 := bx_22_4 (o := 64) hB7_1 (⟨by decide, rfl⟩ : kx 64 22); omega, by have q0 := bx_22_4 (o := 64) hB7_1 (⟨by decide, rfl⟩ : kx 64 22); omega⟩ ?_
        have hB71 := by_25 (z := x7_3_1) (k := (H7_1 64 4)) hB7_1 (⟨by decide, rfl⟩ : kx 67 25) ⟨by omega, by omega⟩
        refine g_aload_n dX8_findSets_34 rfl ?_
        refine g_dup dX8_findSets_35 rfl ?_
        refine x_g22_4 (z := (H7_1 64 4)) (⟨by decide, rfl⟩ : kx 64 22) ffX8_55 dX8_findSets_36 ((up_o (kx.ne (⟨by decide, rfl⟩ : kx 64 22) (⟨by decide, rfl⟩ : kx 67 25) rfl)).trans rfl) ?_
        refine g_iconst dX8_findSets_39 ?_
        refine g_iadd dX8_findSets_40 ?_
        refine x_p22_4 (⟨by decide, rfl⟩ : kx 64 22) pfX8_55 dX8_findSets_41 ?_
        have hB72 := by_22_4 (z := ((H7_1 64 4) + 1)) hB71 (⟨by decide, rfl⟩ : kx 64 22) ⟨by have q0 := bx_22_4 (o := 64) hB7_1 (⟨by decide, rfl⟩ : kx 64 22); omega, by have q0 := bx_22_4 (o := 64) hB7_1 (⟨by decide, rfl⟩ : kx 64 22); omega⟩
        refine g_iinc (l1 := [(3, vI (x7_3_1 + 1)), (0, vR 64), (1, vR o1), (2, vR o2)]) dX8_findSets_44 rfl (by decide) rfl ?_
        refine g_goto (tgt := 7) dX8_findSets_47 (by decide) ?_
        refine g_forget (l1 := [(0, vR 64), (1, vR o1), (2, vR o2), (3, vI (x7_3_1 + 1))]) (by intro q hq; simp only [List.mem_cons, List.not_mem_nil, or_false] at hq ⊢; rcases hq with rfl | rfl | rfl | rfl <;> simp) ?_
        exact ih7_1 (x7_3_1 + 1) ⟨by omega, by omega⟩ _ hB72 (FrX.s (FrX.s (FrX.c FrX.rf hE7_1 rfl) (⟨by decide, rfl⟩ : kx 67 25) rfl) (⟨by decide, rfl⟩ : kx 64 22) rfl) (by have q0 := (up_same : (up (up H7_1 67 (H7_1 64 4) x7_3_1) 64 4 ((H7_1 64 4) + 1)) 64 4 = ((H7_1 64 4) + 1)); have q1 := bx_22_4 (o := 64) hB7_1 (⟨by decide, rfl⟩ : kx 64 22); omega) (by omega)
  refine g_forget (l1 := [(0, vR 64), (1, vR o1), (2, vR o2), (3, vI 0)]) (by intro q hq; simp only [List.mem_cons, List.not_mem_nil, or_false] at hq ⊢; rcases hq with rfl | rfl | rfl | rfl <;> simp) ?_
  exact L7_1 _ 0 (by decide) _ hB1 FrX.rf (by have q0 := (up_same : (up P 64 4 0) 64 4 = 0); omega) (Nat.lt_succ_self _)
set_option maxRecDepth 100000 in
set_option maxHeartbeats 4000000 in
theorem m_X8_mostLeft (G : GT) (P : PH) (o1 : Nat) (o2 : Nat) (a1 : Int) (k_o1 : kx o1 28) (k_o2 : kx o2 14) (h_a1 : (-2147483648) ≤ a1 ∧ a1 ≤ 2147483647) (hB : BdX P) (Q : Option PV → PH → Prop) (hQ : ∀ (r : Int) (_ : (-2147483648) ≤ r ∧ r ≤ 2147483647) (P1 : PH) (_ : BdX P1) (_ : FrX ([], [26]) P P1), Q (some (vI r)) P1) : Ct WSX G 3 iX8_mostLeft [vR 64, vR o1, vR o2, vI a1] P Q := by
  refine Ct.of (by decide) (l0 := [(0, vR 64), (1, vR o1), (2, vR o2), (3, vI a1)]) rfl (Nat.le_of_ble_eq_true rfl) ?_
  refine g_iconst dX8_mostLeft_0 ?_
  refine g_istore (l1 := [(4, vI 0), (0, vR 64), (1, vR o1), (2, vR o2), (3, vI a1)]) dX8_mostLeft_1 (by decide) rfl ?_
  have L3_0 : ∀ (n3_0 : Nat) (x3_4_0 : Int) (h_x3_4_0 : 0 ≤ x3_4_0 ∧ x3_4_0 ≤ 13) (H3_0 : PH) (hB3_0 : BdX H3_0) (hE3_0 : FrX ([], [26]) P H3_0) (hm3_0 : ((14 - x3_4_0) : Int).toNat < n3_0), Go WSX G 3 iX8_mostLeft 3 [(0, vR 64), (1, vR o1), (2, vR o2), (3, vI a1), (4, vI x3_4_0)] [] H3_0 Q := by
    intro n3_0
    induction n3_0 with
    | zero => intro x3_4_0 h_x3_4_0 H3_0 hB3_0 hE3_0 hm3_0; exact absurd hm3_0 (Nat.not_lt_zero _)
    | succ n3_0 ih3_0 =>
    intro x3_4_0 h_x3_4_0 H3_0 hB3_0 hE3_0 hm3_0
    refine g_iload dX8_mostLeft_3 rfl ?_
    refine g_bipush dX8_mostLeft_5 (by decide) ?_
    refine g_icmp_gt (tgt := 24) dX8_mostLeft_7 (by decide) ⟨by omega, by omega⟩ (by decide) (fun k841 => ?_) (fun k841 => ?_)
    · refine g_iconst dX8_mostLeft_24 ?_
      refine g_istore (l1 := [(4, vI 0), (0, vR 64), (1, vR o1), (2, vR o2), (3, vI a1)]) dX8_mostLeft_25 (by decide) rfl ?_
      refine g_iconst dX8_mostLeft_27 ?_
      refine g_istore (l1 := [(5, vI 0), (4, vI 0), (0, vR 64), (1, vR o1), (2, vR o2), (3, vI a1)]) dX8_mostLeft_28 (by decide) rfl ?_
      have L30_841 : ∀ (n30_841 : Nat) (x30_5_841 : Int) (h_x30_5_841 : 0 ≤ x30_5_841 ∧ x30_5_841 ≤ 256) (x30_4_841 : Int) (h_x30_4_841 : 0 ≤ x30_4_841 ∧ x30_4_841 ≤ 2147483647) (H30_841 : PH) (hB30_841 : BdX H30_841) (hE30_841 : FrX ([], [26]) H3_0 H30_841) (hm30_841 : ((257 - x30_5_841) : Int).toNat < n30_841), Go WSX G 3 iX8_mostLeft 30 [(0, vR 64), (1, vR o1), (2, vR o2), (3, vI a1), (4, vI x30_4_841), (5, vI x30_5_841)] [] H30_841 Q := by
        intro n30_841
        induction n30_841 with
        | zero => intro x30_5_841 h_x30_5_841 x30_4_841 h_x30_4_841 H30_841 hB30_841 hE30_841 hm30_841; exact absurd hm30_841 (Nat.not_lt_zero _)
        | succ n30_841 ih30_841 =>
        intro x30_5_841 h_x30_5_841 x30_4_841 h_x30_4_841 H30_841 hB30_841 hE30_841 hm30_841
        refine g_iload dX8_mostLeft_30 rfl ?_
        refine g_aload_n dX8_mostLeft_32 rfl ?_
        refine x_g22_4 (z := (P 64 4)) (⟨by decide, rfl⟩ : kx 64 22) ffX8_55 dX8_mostLeft_33 ((FrX.g hE30_841 (⟨by decide, rfl⟩ : kx 64 22) rfl).trans ((FrX.g hE3_0 (⟨by decide, rfl⟩ : kx 64 22) rfl).trans rfl)) ?_
        have f1099 := bx_22_4 (o := 64) hB (⟨by decide, rfl⟩ : kx 64 22)
        refine g_icmp_ge (tgt := 107) dX8_mostLeft_36 (by decide) ⟨by omega, by omega⟩ ⟨by have q0 := bx_22_4 (o := 64) hB (⟨by decide, rfl⟩ : kx 64 22); omega, by have q0 := bx_22_4 (o := 64) hB (⟨by decide, rfl⟩ : kx 64 22); omega⟩ (fun k1100 => ?_) (fun k1100 => ?_)
        · refine g_iload dX8_mostLeft_107 rfl ?_
          exact g_retI dX8_mostLeft_109 rfl (hQ x30_4_841 ⟨by omega, by omega⟩ _ hB30_841 (FrX.c (FrX.c FrX.rf hE3_0 rfl) hE30_841 rfl) )
        · refine g_iload dX8_mostLeft_39 rfl ?_
          refine g_sipush dX8_mostLeft_41 (by decide) ?_
          refine g_icmp_ge (tgt := 107) dX8_mostLeft_44 (by decide) ⟨by omega, by omega⟩ (by decide) (fun k1101 => by exfalso; omega) (fun k1101 => ?_)
          refine g_aload_n dX8_mostLeft_47 rfl ?_
          refine g_aload_n dX8_mostLeft_48 rfl ?_
          refine g_iload_n dX8_mostLeft_49 rfl ?_
          refine g_aload_n dX8_mostLeft_50 rfl ?_
          refine x_g22_3 (n := 67) (⟨by decide, rfl⟩ : kx 64 22) ffX8_18 dX8_mostLeft_51 rfl ?_
          refine g_iload dX8_mostLeft_54 rfl ?_
          refine x_l25 (z := (P 67 x30_5_841)) (⟨by decide, rfl⟩ : kx 67 25) dX8_mostLeft_56 ⟨by omega, by omega⟩ ((FrX.g hE30_841 (⟨by decide, rfl⟩ : kx 67 25) rfl).trans ((FrX.g hE3_0 (⟨by decide, rfl⟩ : kx 67 25) rfl).trans rfl)) ?_
          have f1102 := bx_25 (o := 67) (k := x30_5_841) hB (⟨by decide, rfl⟩ : kx 67 25)
          refine g_vI (av := [vR o1, vI a1, vI (P 67 x30_5_841)]) (o := o2) (st := []) (m_X5_placeTaking G H30_841 o2 o1 a1 (P 67 x30_5_841) k_o2 k_o1 ⟨by omega, by omega⟩ ⟨by have q0 := bx_25 (o := 67) (k := x30_5_841) hB (⟨by decide, rfl⟩ : kx 67 25); omega, by have q0 := bx_25 (o := 67) (k := x30_5_841) hB (⟨by decide, rfl⟩ : kx 67 25); omega⟩ hB30_841  _ (fun rc1103 hc1103 => ⟨rc1103, rfl, ?_⟩)) cf_X5_placeTaking t_1238 rfl (show kx o2 14 from k_o2).1 ((show kx o2 14 from k_o2).sh rfl) rfl rfl (Nat.le_of_ble_eq_true rfl) (by decide) rfl dX8_mostLeft_57
          refine g_iconst dX8_mostLeft_60 ?_
          refine g_iadd dX8_mostLeft_61 ?_
          refine g_istore (l1 := [(6, vI (rc1103 + 1)), (0, vR 64), (1, vR o1), (2, vR o2), (3, vI a1), (4, vI x30_4_841), (5, vI x30_5_841)]) dX8_mostLeft_62 (by decide) rfl ?_
          refine g_iload dX8_mostLeft_64 rfl ?_
          have J101_1108 : ∀ (x101_4_1108 : Int) (h_x101_4_1108 : 0 ≤ x101_4_1108 ∧ x101_4_1108 ≤ 2147483647) (H101_1108 : PH) (hB101_1108 : BdX H101_1108) (hE101_1108 : FrX ([], [26]) H30_841 H101_1108), Go WSX G 3 iX8_mostLeft 101 [(0, vR 64), (1, vR o1), (2, vR o2), (3, vI a1), (4, vI x101_4_1108), (5, vI x30_5_841)] [] H101_1108 Q := by
            intro x101_4_1108 h_x101_4_1108 H101_1108 hB101_1108 hE101_1108
            refine g_iinc (l1 := [(5, vI (x30_5_841 + 1)), (0, vR 64), (1, vR o1), (2, vR o2), (3, vI a1), (4, vI x101_4_1108)]) dX8_mostLeft_101 rfl (by decide) rfl ?_
            refine g_goto (tgt := 30) dX8_mostLeft_104 (by decide) ?_
            refine g_forget (l1 := [(0, vR 64), (1, vR o1), (2, vR o2), (3, vI a1), (4, vI x101_4_1108), (5, vI (x30_5_841 + 1))]) (by intro q hq; simp only [List.mem_cons, List.not_mem_nil, or_false] at hq ⊢; rcases hq with rfl | rfl | rfl | rfl | rfl | rfl <;> simp) ?_
            exact ih30_841 (x30_5_841 + 1) ⟨by omega, by omega⟩ x101_4_1108 ⟨by omega, by omega⟩ _ hB101_1108 (FrX.c (FrX.c FrX.rf hE30_841 rfl) hE101_1108 rfl) (by omega)
          refine g_if_lt (tgt := 101) dX8_mostLeft_66 (by decide) ⟨by omega, by omega⟩ (fun k1110 => by exfalso; omega) (fun k1110 => ?_)
          refine g_iload dX8_mostLeft_69 rfl ?_
          refine g_bipush dX8_mostLeft_71 (by decide) ?_
          refine g_icmp_gt (tgt := 101) dX8_mostLeft_73 (by decide) ⟨by omega, by omega⟩ (by decide) (fun k1111 => by exfalso; omega) (fun k1111 => ?_)
          refine g_aload_n dX8_mostLeft_76 rfl ?_
          refine x_g22_5 (n := 68) (⟨by decide, rfl⟩ : kx 64 22) ffX8_21 dX8_mostLeft_77 rfl ?_
          refine g_iload dX8_mostLeft_80 rfl ?_
          refine g_dup2 dX8_mostLeft_82 rfl rfl ?_
          refine x_l26 (z := (H30_841 68 (rc1103 + 1))) (⟨by decide, rfl⟩ : kx 68 26) dX8_mostLeft_83 ⟨by omega, by omega⟩ rfl ?_
          refine g_iconst dX8_mostLeft_84 ?_
          refine g_iadd dX8_mostLeft_85 ?_
          refine g_norm (fun r1112 h_r1112 e_r1112 => ?_)
          refine x_s26 (⟨by decide, rfl⟩ : kx 68 26) dX8_mostLeft_86 ⟨by omega, by omega⟩ ?_
          have hB1113 := by_26 (z := r1112) (k := (rc1103 + 1)) hB30_841 (⟨by decide, rfl⟩ : kx 68 26) ⟨by omega, by omega⟩
          refine g_iload dX8_mostLeft_87 rfl ?_
          refine g_aload_n dX8_mostLeft_89 rfl ?_
          refine x_g22_5 (n := 68) (⟨by decide, rfl⟩ : kx 64 22) ffX8_21 dX8_mostLeft_90 rfl ?_
          refine g_iload dX8_mostLeft_93 rfl ?_
          refine x_l26 (z := r1112) (⟨by decide, rfl⟩ : kx 68 26) dX8_mostLeft_95 ⟨by omega, by omega⟩ up_same ?_
          refine g_sI (av := [vI x30_4_841, vI r1112]) (st := []) (m_J9_max_7cf53 G (up H30_841 68 (rc1103 + 1) r1112) x30_4_841 r1112 ⟨by omega, by omega⟩ ⟨by omega, by omega⟩ hB1113  _ (fun rc1114 hc1114 gc1114_m => ⟨rc1114, rfl, ?_⟩)) cf_J9_max_7cf53 t_1249 rfl (Nat.le_of_ble_eq_true rfl) (by decide) rfl dX8_mostLeft_96
          refine g_istore (l1 := [(4, vI rc1114), (6, vI (rc1103 + 1)), (0, vR 64), (1, vR o1), (2, vR o2), (3, vI a1), (5, vI x30_5_841)]) dX8_mostLeft_99 (by decide) rfl ?_
          refine g_forget (l1 := [(0, vR 64), (1, vR o1), (2, vR o2), (3, vI a1), (4, vI rc1114), (5, vI x30_5_841)]) (by intro q hq; simp only [List.mem_cons, List.not_mem_nil, or_false] at hq ⊢; rcases hq with rfl | rfl | rfl | rfl | rfl | rfl <;> simp) ?_
          exact J101_1108 rc1114 ⟨by omega, by omega⟩ _ hB1113 (FrX.s FrX.rf (⟨by decide, rfl⟩ : kx 68 26) rfl)
      refine g_forget (l1 := [(0, vR 64), (1, vR o1), (2, vR o2), (3, vI a1), (4, vI 0), (5, vI 0)]) (by intro q hq; simp only [List.mem_cons, List.not_mem_nil, or_false] at hq ⊢; rcases hq with rfl | rfl | rfl | rfl | rfl | rfl <;> simp) ?_
      exact L30_841 _ 0 (by decide) 0 (by decide) _ hB3_0 FrX.rf (Nat.lt_succ_self _)
    · refine g_aload_n dX8_mostLeft_10 rfl ?_
      refine x_g22_5 (n := 68) (⟨by decide, rfl⟩ : kx 64 22) ffX8_21 dX8_mostLeft_11 rfl ?_
      refine g_iload dX8_mostLeft_14 rfl ?_
      refine g_iconst dX8_mostLeft_16 ?_
      refine x_s26 (⟨by decide, rfl⟩ : kx 68 26) dX8_mostLeft_17 ⟨by omega, by omega⟩ ?_
      have hB1115 := by_26 (z := 0) (k := x3_4_0) hB3_0 (⟨by decide, rfl⟩ : kx 68 26) (by decide)
      refine g_iinc (l1 := [(4, vI (x3_4_0 + 1)), (0, vR 64), (1, vR o1), (2, vR o2), (3, vI a1)]) dX8_mostLeft_18 rfl (by decide) rfl ?_
      refine g_goto (tgt := 3) dX8_mostLeft_21 (by decide) ?_
      refine g_forget (l1 := [(0, vR 64), (1, vR o1), (2, vR o2), (3, vI a1), (4, vI (x3_4_0 + 1))]) (by intro q hq; simp only [List.mem_cons, List.not_mem_nil, or_false] at hq ⊢; rcases hq with rfl | rfl | rfl | rfl | rfl <;> simp) ?_
      exact ih3_0 (x3_4_0 + 1) ⟨by omega, by omega⟩ _ hB1115 (FrX.s (FrX.c FrX.rf hE3_0 rfl) (⟨by decide, rfl⟩ : kx 68 26) rfl) (by omega)
  refine g_forget (l1 := [(0, vR 64), (1, vR o1), (2, vR o2), (3, vI a1), (4, vI 0)]) (by intro q hq; simp only [List.mem_cons, List.not_mem_nil, or_false] at hq ⊢; rcases hq with rfl | rfl | rfl | rfl | rfl <;> simp) ?_
  exact L3_0 _ 0 (by decide) _ hB FrX.rf (Nat.lt_succ_self _)
set_option maxRecDepth 100000 in
set_option maxHeartbeats 4000000 in
theorem m_X7_isName (G : GT) (P : PH) (hB : BdX P) (Q : Option PV → PH → Prop) (hQ : ∀ (r : Int) (_ : 0 ≤ r ∧ r ≤ 1), Q (some (vI r)) P) : Ct WSX G 1 iX7_isName [vR 111] P Q := by
  refine Ct.of (by decide) (l0 := [(0, vR 111)]) rfl (Nat.le_of_ble_eq_true rfl) ?_
  refine g_aload_n dX7_isName_0 rfl ?_
  refine x_g46_4 (z := (P 111 4)) (⟨by decide, rfl⟩ : kx 111 46) ffX7_75 dX7_isName_1 rfl ?_
  refine g_iconst dX7_isName_4 ?_
  have f1 := bx_46_4 (o := 111) hB (⟨by decide, rfl⟩ : kx 111 46)
  refine g_icmp_ne (tgt := 20) dX7_isName_5 (by decide) ⟨by have q0 := bx_46_4 (o := 111) hB (⟨by decide, rfl⟩ : kx 111 46); omega, by have q0 := bx_46_4 (o := 111) hB (⟨by decide, rfl⟩ : kx 111 46); omega⟩ (by decide) (fun k2 => ?_) (fun k2 => ?_)
  · refine g_iconst dX7_isName_20 ?_
    exact g_retZ dX7_isName_21 rfl (by decide) (hQ 0 (by decide) )
  · refine g_aload_n dX7_isName_8 rfl ?_
    refine x_g46_8 (z := (P 111 8)) (⟨by decide, rfl⟩ : kx 111 46) ffX7_87 dX7_isName_9 rfl ?_
    refine g_iconst dX7_isName_12 ?_
    have f3 := bx_46_8 (o := 111) hB (⟨by decide, rfl⟩ : kx 111 46)
    refine g_icmp_ne (tgt := 20) dX7_isName_13 (by decide) ⟨by have q0 := bx_46_8 (o := 111) hB (⟨by decide, rfl⟩ : kx 111 46); omega, by have q0 := bx_46_8 (o := 111) hB (⟨by decide, rfl⟩ : kx 111 46); omega⟩ (by decide) (fun k4 => ?_) (fun k4 => ?_)
    · refine g_iconst dX7_isName_20 ?_
      exact g_retZ dX7_isName_21 rfl (by decide) (hQ 0 (by decide) )
    · refine g_iconst dX7_isName_16 ?_
      refine g_goto (tgt := 21) dX7_isName_17 (by decide) ?_
      exact g_retZ dX7_isName_21 rfl (by decide) (hQ 1 (by decide) )
set_option maxRecDepth 100000 in
set_option maxHeartbeats 4000000 in
theorem m_X7_isSign (G : GT) (P : PH) (a1 : Int) (h_a1 : (-2147483648) ≤ a1 ∧ a1 ≤ 2147483647) (hB : BdX P) (Q : Option PV → PH → Prop) (hQ : ∀ (r : Int) (_ : 0 ≤ r ∧ r ≤ 1), Q (some (vI r)) P) : Ct WSX G 1 iX7_isSign [vR 111, vI a1] P Q := by
  refine Ct.of (by decide) (l0 := [(0, vR 111), (1, vI a1)]) rfl (Nat.le_of_ble_eq_true rfl) ?_
  refine g_aload_n dX7_isSign_0 rfl ?_
  refine x_g46_4 (z := (P 111 4)) (⟨by decide, rfl⟩ : kx 111 46) ffX7_75 dX7_isSign_1 rfl ?_
  refine g_iconst dX7_isSign_4 ?_
  have f1 := bx_46_4 (o := 111) hB (⟨by decide, rfl⟩ : kx 111 46)
  refine g_icmp_ne (tgt := 20) dX7_isSign_5 (by decide) ⟨by have q0 := bx_46_4 (o := 111) hB (⟨by decide, rfl⟩ : kx 111 46); omega, by have q0 := bx_46_4 (o := 111) hB (⟨by decide, rfl⟩ : kx 111 46); omega⟩ (by decide) (fun k2 => ?_) (fun k2 => ?_)
  · refine g_iconst dX7_isSign_20 ?_
    exact g_retZ dX7_isSign_21 rfl (by decide) (hQ 0 (by decide) )
  · refine g_aload_n dX7_isSign_8 rfl ?_
    refine x_g46_7 (z := (P 111 7)) (⟨by decide, rfl⟩ : kx 111 46) ffX7_90 dX7_isSign_9 rfl ?_
    refine g_iload_n dX7_isSign_12 rfl ?_
    have f3 := bx_46_7 (o := 111) hB (⟨by decide, rfl⟩ : kx 111 46)
    refine g_icmp_ne (tgt := 20) dX7_isSign_13 (by decide) ⟨by have q0 := bx_46_7 (o := 111) hB (⟨by decide, rfl⟩ : kx 111 46); omega, by have q0 := bx_46_7 (o := 111) hB (⟨by decide, rfl⟩ : kx 111 46); omega⟩ ⟨by omega, by omega⟩ (fun k4 => ?_) (fun k4 => ?_)
    · refine g_iconst dX7_isSign_20 ?_
      exact g_retZ dX7_isSign_21 rfl (by decide) (hQ 0 (by decide) )
    · refine g_iconst dX7_isSign_16 ?_
      refine g_goto (tgt := 21) dX7_isSign_17 (by decide) ?_
      exact g_retZ dX7_isSign_21 rfl (by decide) (hQ 1 (by decide) )
set_option maxRecDepth 100000 in
set_option maxHeartbeats 4000000 in
theorem m_X7_stepNumber (G : GT) (P : PH) (hB : BdX P) (v_TX : TX P) (Q : Option PV → PH → Prop) (hQ : ∀ (P1 : PH) (_ : BdX P1) (_ : FrX ([(46, 3), (46, 4), (46, 6), (46, 7)], []) P P1), Q none P1) : Ct WSX G 1 iX7_stepNumber [vR 111] P Q := by
  refine Ct.of (by decide) (l0 := [(0, vR 111)]) rfl (Nat.le_of_ble_eq_true rfl) ?_
  refine g_aload_n dX7_stepNumber_0 rfl ?_
  refine g_iconst dX7_stepNumber_1 ?_
  refine x_p46_4 (⟨by decide, rfl⟩ : kx 111 46) pfX7_75 dX7_stepNumber_2 ?_
  have hB1 := by_46_4 (z := 2) hB (⟨by decide, rfl⟩ : kx 111 46) (by decide)
  refine g_iconst dX7_stepNumber_5 ?_
  refine g_istore_n (l1 := [(1, vI 0), (0, vR 111)]) dX7_stepNumber_6 (by decide) rfl ?_
  have L7_1 : ∀ (n7_1 : Nat) (x7_1_1 : Int) (h_x7_1_1 : 0 ≤ x7_1_1 ∧ x7_1_1 ≤ 4) (H7_1 : PH) (hB7_1 : BdX H7_1) (hE7_1 : FrX ([(46, 3), (46, 7)], []) (up P 111 4 2) H7_1) (hm7_1 : (1601 - H7_1 111 3 : Int).toNat < n7_1), Go WSX G 1 iX7_stepNumber 7 [(0, vR 111), (1, vI x7_1_1)] [] H7_1 Q := by
    intro n7_1
    induction n7_1 with
    | zero => intro x7_1_1 h_x7_1_1 H7_1 hB7_1 hE7_1 hm7_1; exact absurd hm7_1 (Nat.not_lt_zero _)
    | succ n7_1 ih7_1 =>
    intro x7_1_1 h_x7_1_1 H7_1 hB7_1 hE7_1 hm7_1
    refine g_aload_n dX7_stepNumber_7 rfl ?_
    refine x_g46_3 (z := (H7_1 111 3)) (⟨by decide, rfl⟩ : kx 111 46) ffX7_72 dX7_stepNumber_8 rfl ?_
    have f61 := bx_46_3 (o := 111) hB7_1 (⟨by decide, rfl⟩ : kx 111 46)
    refine g_if_lt (tgt := 112) dX7_stepNumber_11 (by decide) ⟨by have q0 := bx_46_3 (o := 111) hB7_1 (⟨by decide, rfl⟩ : kx 111 46); omega, by have q0 := bx_46_3 (o := 111) hB7_1 (⟨by decide, rfl⟩ : kx 111 46); omega⟩ (fun k62 => by exfalso; have q0 := bx_46_3 (o := 111) hB7_1 (⟨by decide, rfl⟩ : kx 111 46); omega) (fun k62 => ?_)
    refine g_aload_n dX7_stepNumber_14 rfl ?_
    refine x_g46_3 (z := (H7_1 111 3)) (⟨by decide, rfl⟩ : kx 111 46) ffX7_72 dX7_stepNumber_15 rfl ?_
    refine g_aload_n dX7_stepNumber_18 rfl ?_
    refine x_g46_2 (z := (P 111 2)) (⟨by decide, rfl⟩ : kx 111 46) ffX7_71 dX7_stepNumber_19 ((FrX.g hE7_1 (⟨by decide, rfl⟩ : kx 111 46) rfl).trans ((up_k (by decide)).trans rfl)) ?_
    have f63 := bx_46_2 (o := 111) hB (⟨by decide, rfl⟩ : kx 111 46)
    refine g_icmp_ge (tgt := 112) dX7_stepNumber_22 (by decide) ⟨by have q0 := bx_46_3 (o := 111) hB7_1 (⟨by decide, rfl⟩ : kx 111 46); omega, by have q0 := bx_46_3 (o := 111) hB7_1 (⟨by decide, rfl⟩ : kx 111 46); omega⟩ ⟨by have q0 := bx_46_2 (o := 111) hB (⟨by decide, rfl⟩ : kx 111 46); omega, by have q0 := bx_46_2 (o := 111) hB (⟨by decide, rfl⟩ : kx 111 46); omega⟩ (fun k64 => ?_) (fun k64 => ?_)
    · exact g_retV dX7_stepNumber_112 rfl (hQ _ hB7_1 (FrX.c (FrX.s FrX.rf (⟨by decide, rfl⟩ : kx 111 46) rfl) hE7_1 rfl) )
    · refine g_aload_n dX7_stepNumber_25 rfl ?_
      refine x_g46_1 (n := 2) (⟨by decide, rfl⟩ : kx 111 46) ffX7_41 dX7_stepNumber_26 (TX.fr (F := ([(46, 3), (46, 4), (46, 7)], [])) v_TX (FrX.c (FrX.s FrX.rf (⟨by decide, rfl⟩ : kx 111 46) rfl) hE7_1 rfl) rfl) ?_
      refine g_aload_n dX7_stepNumber_29 rfl ?_
      refine x_g46_3 (z := (H7_1 111 3)) (⟨by decide, rfl⟩ : kx 111 46) ffX7_72 dX7_stepNumber_30 rfl ?_
      refine x_l2 (z := (P 2 (H7_1 111 3))) (⟨by decide, rfl⟩ : kx 2 2) dX7_stepNumber_33 ⟨by have q0 := bx_46_3 (o := 111) hB7_1 (⟨by decide, rfl⟩ : kx 111 46); omega, by have q0 := bx_46_3 (o := 111) hB7_1 (⟨by decide, rfl⟩ : kx 111 46); omega⟩ ((FrX.g hE7_1 (⟨by decide, rfl⟩ : kx 2 2) rfl).trans ((up_o (kx.ne (⟨by decide, rfl⟩ : kx 2 2) (⟨by decide, rfl⟩ : kx 111 46) rfl)).trans rfl)) ?_
      refine g_bipush dX7_stepNumber_34 (by decide) ?_
      have f65 := bx_2 (o := 2) (k := (H7_1 111 3)) hB (⟨by decide, rfl⟩ : kx 2 2)
      refine g_icmp_lt (tgt := 112) dX7_stepNumber_36 (by decide) ⟨by have q0 := bx_2 (o := 2) (k := (H7_1 111 3)) hB (⟨by decide, rfl⟩ : kx 2 2); omega, by have q0 := bx_2 (o := 2) (k := (H7_1 111 3)) hB (⟨by decide, rfl⟩ : kx 2 2); omega⟩ (by decide) (fun k66 => ?_) (fun k66 => ?_)
      · exact g_retV dX7_stepNumber_112 rfl (hQ _ hB7_1 (FrX.c (FrX.s FrX.rf (⟨by decide, rfl⟩ : kx 111 46) rfl) hE7_1 rfl) )
      · refine g_aload_n dX7_stepNumber_39 rfl ?_
        refine x_g46_1 (n := 2) (⟨by decide, rfl⟩ : kx 111 46) ffX7_41 dX7_stepNumber_40 (TX.fr (F := ([(46, 3), (46, 4), (46, 7)], [])) v_TX (FrX.c (FrX.s FrX.rf (⟨by decide, rfl⟩ : kx 111 46) rfl) hE7_1 rfl) rfl) ?_
        refine g_aload_n dX7_stepNumber_43 rfl ?_
        refine x_g46_3 (z := (H7_1 111 3)) (⟨by decide, rfl⟩ : kx 111 46) ffX7_72 dX7_stepNumber_44 rfl ?_
        refine x_l2 (z := (P 2 (H7_1 111 3))) (⟨by decide, rfl⟩ : kx 2 2) dX7_stepNumber_47 ⟨by have q0 := bx_46_3 (o := 111) hB7_1 (⟨by decide, rfl⟩ : kx 111 46); omega, by have q0 := bx_46_3 (o := 111) hB7_1 (⟨by decide, rfl⟩ : kx 111 46); omega⟩ ((FrX.g hE7_1 (⟨by decide, rfl⟩ : kx 2 2) rfl).trans ((up_o (kx.ne (⟨by decide, rfl⟩ : kx 2 2) (⟨by decide, rfl⟩ : kx 111 46) rfl)).trans rfl)) ?_
        refine g_bipush dX7_stepNumber_48 (by decide) ?_
        refine g_icmp_gt (tgt := 112) dX7_stepNumber_50 (by decide) ⟨by have q0 := bx_2 (o := 2) (k := (H7_1 111 3)) hB (⟨by decide, rfl⟩ : kx 2 2); omega, by have q0 := bx_2 (o := 2) (k := (H7_1 111 3)) hB (⟨by decide, rfl⟩ : kx 2 2); omega⟩ (by decide) (fun k67 => ?_) (fun k67 => ?_)
        · exact g_retV dX7_stepNumber_112 rfl (hQ _ hB7_1 (FrX.c (FrX.s FrX.rf (⟨by decide, rfl⟩ : kx 111 46) rfl) hE7_1 rfl) )
        · refine g_iload_n dX7_stepNumber_53 rfl ?_
          refine g_iconst dX7_stepNumber_54 ?_
          refine g_icmp_ne (tgt := 72) dX7_stepNumber_55 (by decide) ⟨by omega, by omega⟩ (by decide) (fun k68 => ?_) (fun k68 => ?_)
          · refine g_aload_n dX7_stepNumber_72 rfl ?_
            refine g_aload_n dX7_stepNumber_73 rfl ?_
            refine x_g46_7 (z := (H7_1 111 7)) (⟨by decide, rfl⟩ : kx 111 46) ffX7_90 dX7_stepNumber_74 rfl ?_
            refine g_bipush dX7_stepNumber_77 (by decide) ?_
            refine g_imul dX7_stepNumber_79 ?_
            refine g_norm (fun r69 h_r69 e_r69 => ?_)
            refine g_aload_n dX7_stepNumber_80 rfl ?_
            refine x_g46_1 (n := 2) (⟨by decide, rfl⟩ : kx 111 46) ffX7_41 dX7_stepNumber_81 (TX.fr (F := ([(46, 3), (46, 4), (46, 7)], [])) v_TX (FrX.c (FrX.s FrX.rf (⟨by decide, rfl⟩ : kx 111 46) rfl) hE7_1 rfl) rfl) ?_
            refine g_aload_n dX7_stepNumber_84 rfl ?_
            refine x_g46_3 (z := (H7_1 111 3)) (⟨by decide, rfl⟩ : kx 111 46) ffX7_72 dX7_stepNumber_85 rfl ?_
            refine x_l2 (z := (P 2 (H7_1 111 3))) (⟨by decide, rfl⟩ : kx 2 2) dX7_stepNumber_88 ⟨by have q0 := bx_46_3 (o := 111) hB7_1 (⟨by decide, rfl⟩ : kx 111 46); omega, by have q0 := bx_46_3 (o := 111) hB7_1 (⟨by decide, rfl⟩ : kx 111 46); omega⟩ ((FrX.g hE7_1 (⟨by decide, rfl⟩ : kx 2 2) rfl).trans ((up_o (kx.ne (⟨by decide, rfl⟩ : kx 2 2) (⟨by decide, rfl⟩ : kx 111 46) rfl)).trans rfl)) ?_
            refine g_iadd dX7_stepNumber_89 ?_
            refine g_norm (fun r70 h_r70 e_r70 => ?_)
            refine g_bipush dX7_stepNumber_90 (by decide) ?_
            refine g_isub dX7_stepNumber_92 ?_
            refine g_norm (fun r71 h_r71 e_r71 => ?_)
            refine x_p46_7 (⟨by decide, rfl⟩ : kx 111 46) pfX7_90 dX7_stepNumber_93 ?_
            have hB72 := by_46_7 (z := r71) hB7_1 (⟨by decide, rfl⟩ : kx 111 46) ⟨by omega, by omega⟩
            refine g_iinc (l1 := [(1, vI (x7_1_1 + 1)), (0, vR 111)]) dX7_stepNumber_96 rfl (by decide) rfl ?_
            refine g_aload_n dX7_stepNumber_99 rfl ?_
            refine g_dup dX7_stepNumber_100 rfl ?_
            refine x_g46_3 (z := (H7_1 111 3)) (⟨by decide, rfl⟩ : kx 111 46) ffX7_72 dX7_stepNumber_101 ((up_k (by decide)).trans rfl) ?_
            refine g_iconst dX7_stepNumber_104 ?_
            refine g_iadd dX7_stepNumber_105 ?_
            refine x_p46_3 (⟨by decide, rfl⟩ : kx 111 46) pfX7_72 dX7_stepNumber_106 ?_
            have hB73 := by_46_3 (z := ((H7_1 111 3) + 1)) hB72 (⟨by decide, rfl⟩ : kx 111 46) ⟨by have q0 := bx_46_3 (o := 111) hB7_1 (⟨by decide, rfl⟩ : kx 111 46); omega, by have q0 := bx_46_3 (o := 111) hB7_1 (⟨by decide, rfl⟩ : kx 111 46); omega⟩
            refine g_goto (tgt := 7) dX7_stepNumber_109 (by decide) ?_
            refine g_forget (l1 := [(0, vR 111), (1, vI (x7_1_1 + 1))]) (by intro q hq; simp only [List.mem_cons, List.not_mem_nil, or_false] at hq ⊢; rcases hq with rfl | rfl <;> simp) ?_
            exact ih7_1 (x7_1_1 + 1) ⟨by omega, by omega⟩ _ hB73 (FrX.s (FrX.s (FrX.c FrX.rf hE7_1 rfl) (⟨by decide, rfl⟩ : kx 111 46) rfl) (⟨by decide, rfl⟩ : kx 111 46) rfl) (by have q0 := (up_same : (up (up H7_1 111 7 r71) 111 3 ((H7_1 111 3) + 1)) 111 3 = ((H7_1 111 3) + 1)); have q1 := bx_46_3 (o := 111) hB7_1 (⟨by decide, rfl⟩ : kx 111 46); omega)
          · refine g_aload_n dX7_stepNumber_58 rfl ?_
            refine g_iconst dX7_stepNumber_59 ?_
            refine x_p46_4 (⟨by decide, rfl⟩ : kx 111 46) pfX7_75 dX7_stepNumber_60 ?_
            have hB74 := by_46_4 (z := 4) hB7_1 (⟨by decide, rfl⟩ : kx 111 46) (by decide)
            refine g_aload_n dX7_stepNumber_63 rfl ?_
            refine g_aload_n dX7_stepNumber_64 rfl ?_
            refine x_g46_3 (z := (H7_1 111 3)) (⟨by decide, rfl⟩ : kx 111 46) ffX7_72 dX7_stepNumber_65 ((up_k (by decide)).trans rfl) ?_
            refine x_p46_6 (⟨by decide, rfl⟩ : kx 111 46) pfX7_84 dX7_stepNumber_68 ?_
            have hB75 := by_46_6 (z := (H7_1 111 3)) hB74 (⟨by decide, rfl⟩ : kx 111 46) ⟨by have q0 := bx_46_3 (o := 111) hB7_1 (⟨by decide, rfl⟩ : kx 111 46); omega, by have q0 := bx_46_3 (o := 111) hB7_1 (⟨by decide, rfl⟩ : kx 111 46); omega⟩
            exact g_retV dX7_stepNumber_71 rfl (hQ _ hB75 (FrX.s (FrX.s (FrX.c (FrX.s FrX.rf (⟨by decide, rfl⟩ : kx 111 46) rfl) hE7_1 rfl) (⟨by decide, rfl⟩ : kx 111 46) rfl) (⟨by decide, rfl⟩ : kx 111 46) rfl) )
  refine g_forget (l1 := [(0, vR 111), (1, vI 0)]) (by intro q hq; simp only [List.mem_cons, List.not_mem_nil, or_false] at hq ⊢; rcases hq with rfl | rfl <;> simp) ?_
  exact L7_1 _ 0 (by decide) _ hB1 FrX.rf (Nat.lt_succ_self _)
set_option maxRecDepth 100000 in
set_option maxHeartbeats 4000000 in
theorem m_X7_stepWord (G : GT) (P : PH) (hB : BdX P) (v_TX : TX P) (Q : Option PV → PH → Prop) (hQ : ∀ (P1 : PH) (_ : BdX P1) (_ : FrX ([(46, 3), (46, 4), (46, 6), (46, 7), (46, 8)], []) P P1), Q none P1) : Ct WSX G 1 iX7_stepWord [vR 111] P Q := by
  refine Ct.of (by decide) (l0 := [(0, vR 111)]) rfl (Nat.le_of_ble_eq_true rfl) ?_
  refine g_aload_n dX7_stepWord_0 rfl ?_
  refine g_iconst dX7_stepWord_1 ?_
  refine x_p46_4 (⟨by decide, rfl⟩ : kx 111 46) pfX7_75 dX7_stepWord_2 ?_
  have hB1 := by_46_4 (z := 1) hB (⟨by decide, rfl⟩ : kx 111 46) (by decide)
  refine g_iconst dX7_stepWord_5 ?_
  refine g_istore_n (l1 := [(1, vI 0), (0, vR 111)]) dX7_stepWord_6 (by decide) rfl ?_
  have L7_1 : ∀ (n7_1 : Nat) (x7_1_1 : Int) (h_x7_1_1 : 0 ≤ x7_1_1 ∧ x7_1_1 ≤ 6) (H7_1 : PH) (hB7_1 : BdX H7_1) (hE7_1 : FrX ([(46, 3), (46, 7)], []) (up P 111 4 1) H7_1) (hm7_1 : (1601 - H7_1 111 3 : Int).toNat < n7_1), Go WSX G 1 iX7_stepWord 7 [(0, vR 111), (1, vI x7_1_1)] [] H7_1 Q := by
    intro n7_1
    induction n7_1 with
    | zero => intro x7_1_1 h_x7_1_1 H7_1 hB7_1 hE7_1 hm7_1; exact absurd hm7_1 (Nat.not_lt_zero _)
    | succ n7_1 ih7_1 =>
    intro x7_1_1 h_x7_1_1 H7_1 hB7_1 hE7_1 hm7_1
    refine g_aload_n dX7_stepWord_7 rfl ?_
    refine x_g46_3 (z := (H7_1 111 3)) (⟨by decide, rfl⟩ : kx 111 46) ffX7_72 dX7_stepWord_8 rfl ?_
    have f3965 := bx_46_3 (o := 111) hB7_1 (⟨by decide, rfl⟩ : kx 111 46)
    have J115_4481 : ∀ (_ : True), Go WSX G 1 iX7_stepWord 115 [(0, vR 111), (1, vI x7_1_1)] [] H7_1 Q := by
      intro _
      refine g_iload_n dX7_stepWord_115 rfl ?_
      refine g_istore_n (l1 := [(2, vI x7_1_1), (0, vR 111), (1, vI x7_1_1)]) dX7_stepWord_116 (by decide) rfl ?_
      have L117_4482 : ∀ (n117_4482 : Nat) (x117_2_4482 : Int) (h_x117_2_4482 : 0 ≤ x117_2_4482 ∧ x117_2_4482 ≤ 6) (H117_4482 : PH) (hB117_4482 : BdX H117_4482) (hE117_4482 : FrX ([(46, 7)], []) H7_1 H117_4482) (hm117_4482 : ((7 - x117_2_4482) : Int).toNat < n117_4482), Go WSX G 1 iX7_stepWord 117 [(0, vR 111), (2, vI x117_2_4482)] [] H117_4482 Q := by
        intro n117_4482
        induction n117_4482 with
        | zero => intro x117_2_4482 h_x117_2_4482 H117_4482 hB117_4482 hE117_4482 hm117_4482; exact absurd hm117_4482 (Nat.not_lt_zero _)
        | succ n117_4482 ih117_4482 =>
        intro x117_2_4482 h_x117_2_4482 H117_4482 hB117_4482 hE117_4482 hm117_4482
        refine g_iload_n dX7_stepWord_117 rfl ?_
        refine g_bipush dX7_stepWord_118 (by decide) ?_
        refine g_icmp_ge (tgt := 140) dX7_stepWord_120 (by decide) ⟨by omega, by omega⟩ (by decide) (fun k4884 => ?_) (fun k4884 => ?_)
        · refine g_iconst dX7_stepWord_140 ?_
          refine g_istore_n (l1 := [(2, vI 0), (0, vR 111)]) dX7_stepWord_141 (by decide) rfl ?_
          have L142_4884 : ∀ (n142_4884 : Nat) (x142_2_4884 : Int) (h_x142_2_4884 : 0 ≤ x142_2_4884 ∧ x142_2_4884 ≤ 11) (H142_4884 : PH) (hB142_4884 : BdX H142_4884) (hE142_4884 : FrX ([(46, 8)], []) H117_4482 H142_4884) (hm142_4884 : ((12 - x142_2_4884) : Int).toNat < n142_4884), Go WSX G 1 iX7_stepWord 142 [(0, vR 111), (2, vI x142_2_4884)] [] H142_4884 Q := by
            intro n142_4884
            induction n142_4884 with
            | zero => intro x142_2_4884 h_x142_2_4884 H142_4884 hB142_4884 hE142_4884 hm142_4884; exact absurd hm142_4884 (Nat.not_lt_zero _)
            | succ n142_4884 ih142_4884 =>
            intro x142_2_4884 h_x142_2_4884 H142_4884 hB142_4884 hE142_4884 hm142_4884
            refine g_iload_n dX7_stepWord_142 rfl ?_
            refine g_aload_n dX7_stepWord_143 rfl ?_
            refine x_g46_0 (n := 112) (⟨by decide, rfl⟩ : kx 111 46) ffX7_37 dX7_stepWord_144 rfl ?_
            refine x_n47 (⟨by decide, rfl⟩ : kx 112 47) dX7_stepWord_147 ?_
            refine g_icmp_ge (tgt := 175) dX7_stepWord_148 (by decide) ⟨by omega, by omega⟩ (by decide) (fun k4974 => ?_) (fun k4974 => ?_)
            · exact g_retV dX7_stepWord_175 rfl (hQ _ hB142_4884 (FrX.c (FrX.c (FrX.c (FrX.s FrX.rf (⟨by decide, rfl⟩ : kx 111 46) rfl) hE7_1 rfl) hE117_4482 rfl) hE142_4884 rfl) )
            · refine g_aload_n dX7_stepWord_151 rfl ?_
              refine x_g46_0 (n := 112) (⟨by decide, rfl⟩ : kx 111 46) ffX7_37 dX7_stepWord_152 rfl ?_
              refine g_iload_n dX7_stepWord_155 rfl ?_
              refine x_l47 (z := (P 112 x142_2_4884)) (⟨by decide, rfl⟩ : kx 112 47) dX7_stepWord_156 ⟨by omega, by omega⟩ ((FrX.g hE142_4884 (⟨by decide, rfl⟩ : kx 112 47) rfl).trans ((FrX.g hE117_4482 (⟨by decide, rfl⟩ : kx 112 47) rfl).trans ((FrX.g hE7_1 (⟨by decide, rfl⟩ : kx 112 47) rfl).trans ((up_o (kx.ne (⟨by decide, rfl⟩ : kx 112 47) (⟨by decide, rfl⟩ : kx 111 46) rfl)).trans rfl)))) ?_
              refine g_aload_n dX7_stepWord_157 rfl ?_
              refine x_g46_7 (z := (H117_4482 111 7)) (⟨by decide, rfl⟩ : kx 111 46) ffX7_90 dX7_stepWord_158 ((FrX.g hE142_4884 (⟨by decide, rfl⟩ : kx 111 46) rfl).trans rfl) ?_
              have f4975 := bx_47 (o := 112) (k := x142_2_4884) hB (⟨by decide, rfl⟩ : kx 112 47)
              have f4976 := bx_46_7 (o := 111) hB117_4482 (⟨by decide, rfl⟩ : kx 111 46)
              have J169_4978 : ∀ (H169_4978 : PH) (hB169_4978 : BdX H169_4978) (hE169_4978 : FrX ([(46, 8)], []) H142_4884 H169_4978), Go WSX G 1 iX7_stepWord 169 [(0, vR 111), (2, vI x142_2_4884)] [] H169_4978 Q := by
                intro H169_4978 hB169_4978 hE169_4978
                refine g_iinc (l1 := [(2, vI (x142_2_4884 + 1)), (0, vR 111)]) dX7_stepWord_169 rfl (by decide) rfl ?_
                refine g_goto (tgt := 142) dX7_stepWord_172 (by decide) ?_
                refine g_forget (l1 := [(0, vR 111), (2, vI (x142_2_4884 + 1))]) (by intro q hq; simp only [List.mem_cons, List.not_mem_nil, or_false] at hq ⊢; rcases hq with rfl | rfl <;> simp) ?_
                exact ih142_4884 (x142_2_4884 + 1) ⟨by omega, by omega⟩ _ hB169_4978 (FrX.c (FrX.c FrX.rf hE142_4884 rfl) hE169_4978 rfl) (by omega)
              refine g_icmp_ne (tgt := 169) dX7_stepWord_161 (by decide) ⟨by have q0 := bx_47 (o := 112) (k := x142_2_4884) hB (⟨by decide, rfl⟩ : kx 112 47); omega, by have q0 := bx_47 (o := 112) (k := x142_2_4884) hB (⟨by decide, rfl⟩ : kx 112 47); omega⟩ ⟨by have q0 := bx_46_7 (o := 111) hB117_4482 (⟨by decide, rfl⟩ : kx 111 46); omega, by have q0 := bx_46_7 (o := 111) hB117_4482 (⟨by decide, rfl⟩ : kx 111 46); omega⟩ (fun k4980 => ?_) (fun k4980 => ?_)
              · refine g_forget (l1 := [(0, vR 111), (2, vI x142_2_4884)]) (by intro q hq; simp only [List.mem_cons, List.not_mem_nil, or_false] at hq ⊢; rcases hq with rfl | rfl <;> simp) ?_
                exact J169_4978 _ hB142_4884 FrX.rf
              · refine g_aload_n dX7_stepWord_164 rfl ?_
                refine g_iload_n dX7_stepWord_165 rfl ?_
                refine x_p46_8 (⟨by decide, rfl⟩ : kx 111 46) pfX7_87 dX7_stepWord_166 ?_
                have hB4981 := by_46_8 (z := x142_2_4884) hB142_4884 (⟨by decide, rfl⟩ : kx 111 46) ⟨by omega, by omega⟩
                refine g_forget (l1 := [(0, vR 111), (2, vI x142_2_4884)]) (by intro q hq; simp only [List.mem_cons, List.not_mem_nil, or_false] at hq ⊢; rcases hq with rfl | rfl <;> simp) ?_
                exact J169_4978 _ hB4981 (FrX.s FrX.rf (⟨by decide, rfl⟩ : kx 111 46) rfl)
          refine g_forget (l1 := [(0, vR 111), (2, vI 0)]) (by intro q hq; simp only [List.mem_cons, List.not_mem_nil, or_false] at hq ⊢; rcases hq with rfl | rfl <;> simp) ?_
          exact L142_4884 _ 0 (by decide) _ hB117_4482 FrX.rf (Nat.lt_succ_self _)
        · refine g_aload_n dX7_stepWord_123 rfl ?_
          refine g_dup dX7_stepWord_124 rfl ?_
          refine x_g46_7 (z := (H117_4482 111 7)) (⟨by decide, rfl⟩ : kx 111 46) ffX7_90 dX7_stepWord_125 rfl ?_
          refine g_bipush dX7_stepWord_128 (by decide) ?_
          refine g_imul dX7_stepWord_130 ?_
          refine g_norm (fun r4982 h_r4982 e_r4982 => ?_)
          refine x_p46_7 (⟨by decide, rfl⟩ : kx 111 46) pfX7_90 dX7_stepWord_131 ?_
          have hB4983 := by_46_7 (z := r4982) hB117_4482 (⟨by decide, rfl⟩ : kx 111 46) ⟨by omega, by omega⟩
          refine g_iinc (l1 := [(2, vI (x117_2_4482 + 1)), (0, vR 111)]) dX7_stepWord_134 rfl (by decide) rfl ?_
          refine g_goto (tgt := 117) dX7_stepWord_137 (by decide) ?_
          refine g_forget (l1 := [(0, vR 111), (2, vI (x117_2_4482 + 1))]) (by intro q hq; simp only [List.mem_cons, List.not_mem_nil, or_false] at hq ⊢; rcases hq with rfl | rfl <;> simp) ?_
          exact ih117_4482 (x117_2_4482 + 1) ⟨by omega, by omega⟩ _ hB4983 (FrX.s (FrX.c FrX.rf hE117_4482 rfl) (⟨by decide, rfl⟩ : kx 111 46) rfl) (by omega)
      refine g_forget (l1 := [(0, vR 111), (2, vI x7_1_1)]) (by intro q hq; simp only [List.mem_cons, List.not_mem_nil, or_false] at hq ⊢; rcases hq with rfl | rfl <;> simp) ?_
      exact L117_4482 _ x7_1_1 ⟨by omega, by omega⟩ _ hB7_1 FrX.rf (Nat.lt_succ_self _)
    refine g_if_lt (tgt := 115) dX7_stepWord_11 (by decide) ⟨by have q0 := bx_46_3 (o := 111) hB7_1 (⟨by decide, rfl⟩ : kx 111 46); omega, by have q0 := bx_46_3 (o := 111) hB7_1 (⟨by decide, rfl⟩ : kx 111 46); omega⟩ (fun k4984 => by exfalso; have q0 := bx_46_3 (o := 111) hB7_1 (⟨by decide, rfl⟩ : kx 111 46); omega) (fun k4984 => ?_)
    refine g_aload_n dX7_stepWord_14 rfl ?_
    refine x_g46_3 (z := (H7_1 111 3)) (⟨by decide, rfl⟩ : kx 111 46) ffX7_72 dX7_stepWord_15 rfl ?_
    refine g_aload_n dX7_stepWord_18 rfl ?_
    refine x_g46_2 (z := (P 111 2)) (⟨by decide, rfl⟩ : kx 111 46) ffX7_71 dX7_stepWord_19 ((FrX.g hE7_1 (⟨by decide, rfl⟩ : kx 111 46) rfl).trans ((up_k (by decide)).trans rfl)) ?_
    have f4985 := bx_46_2 (o := 111) hB (⟨by decide, rfl⟩ : kx 111 46)
    refine g_icmp_ge (tgt := 115) dX7_stepWord_22 (by decide) ⟨by have q0 := bx_46_3 (o := 111) hB7_1 (⟨by decide, rfl⟩ : kx 111 46); omega, by have q0 := bx_46_3 (o := 111) hB7_1 (⟨by decide, rfl⟩ : kx 111 46); omega⟩ ⟨by have q0 := bx_46_2 (o := 111) hB (⟨by decide, rfl⟩ : kx 111 46); omega, by have q0 := bx_46_2 (o := 111) hB (⟨by decide, rfl⟩ : kx 111 46); omega⟩ (fun k4986 => ?_) (fun k4986 => ?_)
    · refine g_forget (l1 := [(0, vR 111), (1, vI x7_1_1)]) (by intro q hq; simp only [List.mem_cons, List.not_mem_nil, or_false] at hq ⊢; rcases hq with rfl | rfl <;> simp) ?_
      exact J115_4481 trivial
    · refine g_aload_n dX7_stepWord_25 rfl ?_
      refine x_g46_1 (n := 2) (⟨by decide, rfl⟩ : kx 111 46) ffX7_41 dX7_stepWord_26 (TX.fr (F := ([(46, 3), (46, 4), (46, 7)], [])) v_TX (FrX.c (FrX.s FrX.rf (⟨by decide, rfl⟩ : kx 111 46) rfl) hE7_1 rfl) rfl) ?_
      refine g_aload_n dX7_stepWord_29 rfl ?_
      refine x_g46_3 (z := (H7_1 111 3)) (⟨by decide, rfl⟩ : kx 111 46) ffX7_72 dX7_stepWord_30 rfl ?_
      refine x_l2 (z := (P 2 (H7_1 111 3))) (⟨by decide, rfl⟩ : kx 2 2) dX7_stepWord_33 ⟨by have q0 := bx_46_3 (o := 111) hB7_1 (⟨by decide, rfl⟩ : kx 111 46); omega, by have q0 := bx_46_3 (o := 111) hB7_1 (⟨by decide, rfl⟩ : kx 111 46); omega⟩ ((FrX.g hE7_1 (⟨by decide, rfl⟩ : kx 2 2) rfl).trans ((up_o (kx.ne (⟨by decide, rfl⟩ : kx 2 2) (⟨by decide, rfl⟩ : kx 111 46) rfl)).trans rfl)) ?_
      refine g_bipush dX7_stepWord_34 (by decide) ?_
      have f4987 := bx_2 (o := 2) (k := (H7_1 111 3)) hB (⟨by decide, rfl⟩ : kx 2 2)
      refine g_icmp_lt (tgt := 115) dX7_stepWord_36 (by decide) ⟨by have q0 := bx_2 (o := 2) (k := (H7_1 111 3)) hB (⟨by decide, rfl⟩ : kx 2 2); omega, by have q0 := bx_2 (o := 2) (k := (H7_1 111 3)) hB (⟨by decide, rfl⟩ : kx 2 2); omega⟩ (by decide) (fun k4988 => ?_) (fun k4988 => ?_)
      · refine g_forget (l1 := [(0, vR 111), (1, vI x7_1_1)]) (by intro q hq; simp only [List.mem_cons, List.not_mem_nil, or_false] at hq ⊢; rcases hq with rfl | rfl <;> simp) ?_
        exact J115_4481 trivial
      · refine g_aload_n dX7_stepWord_39 rfl ?_
        refine x_g46_1 (n := 2) (⟨by decide, rfl⟩ : kx 111 46) ffX7_41 dX7_stepWord_40 (TX.fr (F := ([(46, 3), (46, 4), (46, 7)], [])) v_TX (FrX.c (FrX.s FrX.rf (⟨by decide, rfl⟩ : kx 111 46) rfl) hE7_1 rfl) rfl) ?_
        refine g_aload_n dX7_stepWord_43 rfl ?_
        refine x_g46_3 (z := (H7_1 111 3)) (⟨by decide, rfl⟩ : kx 111 46) ffX7_72 dX7_stepWord_44 rfl ?_
        refine x_l2 (z := (P 2 (H7_1 111 3))) (⟨by decide, rfl⟩ : kx 2 2) dX7_stepWord_47 ⟨by have q0 := bx_46_3 (o := 111) hB7_1 (⟨by decide, rfl⟩ : kx 111 46); omega, by have q0 := bx_46_3 (o := 111) hB7_1 (⟨by decide, rfl⟩ : kx 111 46); omega⟩ ((FrX.g hE7_1 (⟨by decide, rfl⟩ : kx 2 2) rfl).trans ((up_o (kx.ne (⟨by decide, rfl⟩ : kx 2 2) (⟨by decide, rfl⟩ : kx 111 46) rfl)).trans rfl)) ?_
        refine g_bipush dX7_stepWord_48 (by decide) ?_
        refine g_icmp_gt (tgt := 115) dX7_stepWord_50 (by decide) ⟨by have q0 := bx_2 (o := 2) (k := (H7_1 111 3)) hB (⟨by decide, rfl⟩ : kx 2 2); omega, by have q0 := bx_2 (o := 2) (k := (H7_1 111 3)) hB (⟨by decide, rfl⟩ : kx 2 2); omega⟩ (by decide) (fun k4989 => ?_) (fun k4989 => ?_)
        · refine g_forget (l1 := [(0, vR 111), (1, vI x7_1_1)]) (by intro q hq; simp only [List.mem_cons, List.not_mem_nil, or_false] at hq ⊢; rcases hq with rfl | rfl <;> simp) ?_
          exact J115_4481 trivial
        · refine g_iload_n dX7_stepWord_53 rfl ?_
          refine g_bipush dX7_stepWord_54 (by decide) ?_
          refine g_icmp_ne (tgt := 73) dX7_stepWord_56 (by decide) ⟨by omega, by omega⟩ (by decide) (fun k4990 => ?_) (fun k4990 => ?_)
          · refine g_aload_n dX7_stepWord_73 rfl ?_
            refine g_aload_n dX7_stepWord_74 rfl ?_
            refine x_g46_7 (z := (H7_1 111 7)) (⟨by decide, rfl⟩ : kx 111 46) ffX7_90 dX7_stepWord_75 rfl ?_
            refine g_bipush dX7_stepWord_78 (by decide) ?_
            refine g_imul dX7_stepWord_80 ?_
            refine g_norm (fun r4991 h_r4991 e_r4991 => ?_)
            refine g_aload_n dX7_stepWord_81 rfl ?_
            refine x_g46_1 (n := 2) (⟨by decide, rfl⟩ : kx 111 46) ffX7_41 dX7_stepWord_82 (TX.fr (F := ([(46, 3), (46, 4), (46, 7)], [])) v_TX (FrX.c (FrX.s FrX.rf (⟨by decide, rfl⟩ : kx 111 46) rfl) hE7_1 rfl) rfl) ?_
            refine g_aload_n dX7_stepWord_85 rfl ?_
            refine x_g46_3 (z := (H7_1 111 3)) (⟨by decide, rfl⟩ : kx 111 46) ffX7_72 dX7_stepWord_86 rfl ?_
            refine x_l2 (z := (P 2 (H7_1 111 3))) (⟨by decide, rfl⟩ : kx 2 2) dX7_stepWord_89 ⟨by have q0 := bx_46_3 (o := 111) hB7_1 (⟨by decide, rfl⟩ : kx 111 46); omega, by have q0 := bx_46_3 (o := 111) hB7_1 (⟨by decide, rfl⟩ : kx 111 46); omega⟩ ((FrX.g hE7_1 (⟨by decide, rfl⟩ : kx 2 2) rfl).trans ((up_o (kx.ne (⟨by decide, rfl⟩ : kx 2 2) (⟨by decide, rfl⟩ : kx 111 46) rfl)).trans rfl)) ?_
            refine g_iadd dX7_stepWord_90 ?_
            refine g_norm (fun r4992 h_r4992 e_r4992 => ?_)
            refine g_bipush dX7_stepWord_91 (by decide) ?_
            refine g_isub dX7_stepWord_93 ?_
            refine g_norm (fun r4993 h_r4993 e_r4993 => ?_)
            refine g_iconst dX7_stepWord_94 ?_
            refine g_iadd dX7_stepWord_95 ?_
            refine g_norm (fun r4994 h_r4994 e_r4994 => ?_)
            refine x_p46_7 (⟨by decide, rfl⟩ : kx 111 46) pfX7_90 dX7_stepWord_96 ?_
            have hB4995 := by_46_7 (z := r4994) hB7_1 (⟨by decide, rfl⟩ : kx 111 46) ⟨by omega, by omega⟩
            refine g_iinc (l1 := [(1, vI (x7_1_1 + 1)), (0, vR 111)]) dX7_stepWord_99 rfl (by decide) rfl ?_
            refine g_aload_n dX7_stepWord_102 rfl ?_
            refine g_dup dX7_stepWord_103 rfl ?_
            refine x_g46_3 (z := (H7_1 111 3)) (⟨by decide, rfl⟩ : kx 111 46) ffX7_72 dX7_stepWord_104 ((up_k (by decide)).trans rfl) ?_
            refine g_iconst dX7_stepWord_107 ?_
            refine g_iadd dX7_stepWord_108 ?_
            refine x_p46_3 (⟨by decide, rfl⟩ : kx 111 46) pfX7_72 dX7_stepWord_109 ?_
            have hB4996 := by_46_3 (z := ((H7_1 111 3) + 1)) hB4995 (⟨by decide, rfl⟩ : kx 111 46) ⟨by have q0 := bx_46_3 (o := 111) hB7_1 (⟨by decide, rfl⟩ : kx 111 46); omega, by have q0 := bx_46_3 (o := 111) hB7_1 (⟨by decide, rfl⟩ : kx 111 46); omega⟩
            refine g_goto (tgt := 7) dX7_stepWord_112 (by decide) ?_
            refine g_forget (l1 := [(0, vR 111), (1, vI (x7_1_1 + 1))]) (by intro q hq; simp only [List.mem_cons, List.not_mem_nil, or_false] at hq ⊢; rcases hq with rfl | rfl <;> simp) ?_
            exact ih7_1 (x7_1_1 + 1) ⟨by omega, by omega⟩ _ hB4996 (FrX.s (FrX.s (FrX.c FrX.rf hE7_1 rfl) (⟨by decide, rfl⟩ : kx 111 46) rfl) (⟨by decide, rfl⟩ : kx 111 46) rfl) (by have q0 := (up_same : (up (up H7_1 111 7 r4994) 111 3 ((H7_1 111 3) + 1)) 111 3 = ((H7_1 111 3) + 1)); have q1 := bx_46_3 (o := 111) hB7_1 (⟨by decide, rfl⟩ : kx 111 46); omega)
          · refine g_aload_n dX7_stepWord_59 rfl ?_
            refine g_iconst dX7_stepWord_60 ?_
            refine x_p46_4 (⟨by decide, rfl⟩ : kx 111 46) pfX7_75 dX7_stepWord_61 ?_
            have hB4997 := by_46_4 (z := 4) hB7_1 (⟨by decide, rfl⟩ : kx 111 46) (by decide)
            refine g_aload_n dX7_stepWord_64 rfl ?_
            refine g_aload_n dX7_stepWord_65 rfl ?_
            refine x_g46_3 (z := (H7_1 111 3)) (⟨by decide, rfl⟩ : kx 111 46) ffX7_72 dX7_stepWord_66 ((up_k (by decide)).trans rfl) ?_
            refine x_p46_6 (⟨by decide, rfl⟩ : kx 111 46) pfX7_84 dX7_stepWord_69 ?_
            have hB4998 := by_46_6 (z := (H7_1 111 3)) hB4997 (⟨by decide, rfl⟩ : kx 111 46) ⟨by have q0 := bx_46_3 (o := 111) hB7_1 (⟨by decide, rfl⟩ : kx 111 46); omega, by have q0 := bx_46_3 (o := 111) hB7_1 (⟨by decide, rfl⟩ : kx 111 46); omega⟩
            exact g_retV dX7_stepWord_72 rfl (hQ _ hB4998 (FrX.s (FrX.s (FrX.c (FrX.s FrX.rf (⟨by decide, rfl⟩ : kx 111 46) rfl) hE7_1 rfl) (⟨by decide, rfl⟩ : kx 111 46) rfl) (⟨by decide, rfl⟩ : kx 111 46) rfl) )
  refine g_forget (l1 := [(0, vR 111), (1, vI 0)]) (by intro q hq; simp only [List.mem_cons, List.not_mem_nil, or_false] at hq ⊢; rcases hq with rfl | rfl <;> simp) ?_
  exact L7_1 _ 0 (by decide) _ hB1 FrX.rf (Nat.lt_succ_self _)
set_option maxRecDepth 100000 in
set_option maxHeartbeats 4000000 in
theorem m_X7_step (G : GT) (P : PH) (hB : BdX P) (v_TX : TX P) (Q : Option PV → PH → Prop) (hQ : ∀ (P1 : PH) (_ : BdX P1) (_ : FrX ([(46, 3), (46, 4), (46, 5), (46, 6), (46, 7), (46, 8)], []) P P1), Q none P1) : Ct WSX G 2 iX7_step [vR 111] P Q := by
  refine Ct.of (by decide) (l0 := [(0, vR 111)]) rfl (Nat.le_of_ble_eq_true rfl) ?_
  refine g_aload_n dX7_step_0 rfl ?_
  refine x_g46_4 (z := (P 111 4)) (⟨by decide, rfl⟩ : kx 111 46) ffX7_75 dX7_step_1 rfl ?_
  refine g_iconst dX7_step_4 ?_
  have f1 := bx_46_4 (o := 111) hB (⟨by decide, rfl⟩ : kx 111 46)
  have J16_5421 : ∀ (_ : True), Go WSX G 2 iX7_step 16 [(0, vR 111)] [] P Q := by
    intro _
    refine g_iconst dX7_step_16 ?_
    refine g_goto (tgt := 21) dX7_step_17 (by decide) ?_
    refine g_istore_n (l1 := [(1, vI 1), (0, vR 111)]) dX7_step_21 (by decide) rfl ?_
    refine g_aload_n dX7_step_22 rfl ?_
    refine x_g46_3 (z := (P 111 3)) (⟨by decide, rfl⟩ : kx 111 46) ffX7_72 dX7_step_23 rfl ?_
    refine g_istore_n (l1 := [(2, vI (P 111 3)), (1, vI 1), (0, vR 111)]) dX7_step_26 (by decide) rfl ?_
    have L27_5422 : ∀ (n27_5422 : Nat) (H27_5422 : PH) (hB27_5422 : BdX H27_5422) (hE27_5422 : FrX ([(46, 3)], []) P H27_5422) (hm27_5422 : (1601 - H27_5422 111 3 : Int).toNat < n27_5422), Go WSX G 2 iX7_step 27 [(0, vR 111), (1, vI 1), (2, vI (P 111 3))] [] H27_5422 Q := by
      intro n27_5422
      induction n27_5422 with
      | zero => intro H27_5422 hB27_5422 hE27_5422 hm27_5422; exact absurd hm27_5422 (Nat.not_lt_zero _)
      | succ n27_5422 ih27_5422 =>
      intro H27_5422 hB27_5422 hE27_5422 hm27_5422
      refine g_aload_n dX7_step_27 rfl ?_
      refine x_g46_3 (z := (H27_5422 111 3)) (⟨by decide, rfl⟩ : kx 111 46) ffX7_72 dX7_step_28 rfl ?_
      have f7936 := bx_46_3 (o := 111) hB27_5422 (⟨by decide, rfl⟩ : kx 111 46)
      have J86_8257 : ∀ (_ : True), Go WSX G 2 iX7_step 86 [(0, vR 111), (1, vI 1), (2, vI (P 111 3))] [] H27_5422 Q := by
        intro _
        refine g_aload_n dX7_step_86 rfl ?_
        refine g_aload_n dX7_step_87 rfl ?_
        refine x_g46_3 (z := (H27_5422 111 3)) (⟨by decide, rfl⟩ : kx 111 46) ffX7_72 dX7_step_88 rfl ?_
        refine x_p46_5 (⟨by decide, rfl⟩ : kx 111 46) pfX7_81 dX7_step_91 ?_
        have hB8259 := by_46_5 (z := (H27_5422 111 3)) hB27_5422 (⟨by decide, rfl⟩ : kx 111 46) ⟨by have q0 := bx_46_3 (o := 111) hB27_5422 (⟨by decide, rfl⟩ : kx 111 46); omega, by have q0 := bx_46_3 (o := 111) hB27_5422 (⟨by decide, rfl⟩ : kx 111 46); omega⟩
        refine g_aload_n dX7_step_94 rfl ?_
        refine g_aload_n dX7_step_95 rfl ?_
        refine x_g46_3 (z := (H27_5422 111 3)) (⟨by decide, rfl⟩ : kx 111 46) ffX7_72 dX7_step_96 ((up_k (by decide)).trans rfl) ?_
        refine x_p46_6 (⟨by decide, rfl⟩ : kx 111 46) pfX7_84 dX7_step_99 ?_
        have hB8260 := by_46_6 (z := (H27_5422 111 3)) hB8259 (⟨by decide, rfl⟩ : kx 111 46) ⟨by have q0 := bx_46_3 (o := 111) hB27_5422 (⟨by decide, rfl⟩ : kx 111 46); omega, by have q0 := bx_46_3 (o := 111) hB27_5422 (⟨by decide, rfl⟩ : kx 111 46); omega⟩
        refine g_aload_n dX7_step_102 rfl ?_
        refine g_iconst dX7_step_103 ?_
        refine x_p46_8 (⟨by decide, rfl⟩ : kx 111 46) pfX7_87 dX7_step_104 ?_
        have hB8261 := by_46_8 (z := (-1)) hB8260 (⟨by decide, rfl⟩ : kx 111 46) (by decide)
        refine g_aload_n dX7_step_107 rfl ?_
        refine g_iconst dX7_step_108 ?_
        refine x_p46_7 (⟨by decide, rfl⟩ : kx 111 46) pfX7_90 dX7_step_109 ?_
        have hB8262 := by_46_7 (z := 0) hB8261 (⟨by decide, rfl⟩ : kx 111 46) (by decide)
        refine g_aload_n dX7_step_112 rfl ?_
        refine x_g46_3 (z := (H27_5422 111 3)) (⟨by decide, rfl⟩ : kx 111 46) ffX7_72 dX7_step_113 ((up_k (by decide)).trans ((up_k (by decide)).trans ((up_k (by decide)).trans ((up_k (by decide)).trans rfl)))) ?_
        refine g_if_lt (tgt := 130) dX7_step_116 (by decide) ⟨by have q0 := bx_46_3 (o := 111) hB27_5422 (⟨by decide, rfl⟩ : kx 111 46); omega, by have q0 := bx_46_3 (o := 111) hB27_5422 (⟨by decide, rfl⟩ : kx 111 46); omega⟩ (fun k8263 => by exfalso; have q0 := bx_46_3 (o := 111) hB27_5422 (⟨by decide, rfl⟩ : kx 111 46); omega) (fun k8263 => ?_)
        refine g_aload_n dX7_step_119 rfl ?_
        refine x_g46_3 (z := (H27_5422 111 3)) (⟨by decide, rfl⟩ : kx 111 46) ffX7_72 dX7_step_120 ((up_k (by decide)).trans ((up_k (by decide)).trans ((up_k (by decide)).trans ((up_k (by decide)).trans rfl)))) ?_
        refine g_aload_n dX7_step_123 rfl ?_
        refine x_g46_2 (z := (P 111 2)) (⟨by decide, rfl⟩ : kx 111 46) ffX7_71 dX7_step_124 ((up_k (by decide)).trans ((up_k (by decide)).trans ((up_k (by decide)).trans ((up_k (by decide)).trans ((FrX.g hE27_5422 (⟨by decide, rfl⟩ : kx 111 46) rfl).trans rfl))))) ?_
        have f8264 := bx_46_2 (o := 111) hB (⟨by decide, rfl⟩ : kx 111 46)
        refine g_icmp_lt (tgt := 136) dX7_step_127 (by decide) ⟨by have q0 := bx_46_3 (o := 111) hB27_5422 (⟨by decide, rfl⟩ : kx 111 46); omega, by have q0 := bx_46_3 (o := 111) hB27_5422 (⟨by decide, rfl⟩ : kx 111 46); omega⟩ ⟨by have q0 := bx_46_2 (o := 111) hB (⟨by decide, rfl⟩ : kx 111 46); omega, by have q0 := bx_46_2 (o := 111) hB (⟨by decide, rfl⟩ : kx 111 46); omega⟩ (fun k8265 => ?_) (fun k8265 => ?_)
        · refine g_aload_n dX7_step_136 rfl ?_
          refine x_g46_1 (n := 2) (⟨by decide, rfl⟩ : kx 111 46) ffX7_41 dX7_step_137 (TX.fr (F := ([(46, 3), (46, 5), (46, 6), (46, 7), (46, 8)], [])) v_TX (FrX.s (FrX.s (FrX.s (FrX.s (FrX.c FrX.rf hE27_5422 rfl) (⟨by decide, rfl⟩ : kx 111 46) rfl) (⟨by decide, rfl⟩ : kx 111 46) rfl) (⟨by decide, rfl⟩ : kx 111 46) rfl) (⟨by decide, rfl⟩ : kx 111 46) rfl) rfl) ?_
          refine g_aload_n dX7_step_140 rfl ?_
          refine x_g46_3 (z := (H27_5422 111 3)) (⟨by decide, rfl⟩ : kx 111 46) ffX7_72 dX7_step_141 ((up_k (by decide)).trans ((up_k (by decide)).trans ((up_k (by decide)).trans ((up_k (by decide)).trans rfl)))) ?_
          refine x_l2 (z := (P 2 (H27_5422 111 3))) (⟨by decide, rfl⟩ : kx 2 2) dX7_step_144 ⟨by have q0 := bx_46_3 (o := 111) hB27_5422 (⟨by decide, rfl⟩ : kx 111 46); omega, by have q0 := bx_46_3 (o := 111) hB27_5422 (⟨by decide, rfl⟩ : kx 111 46); omega⟩ ((up_o (kx.ne (⟨by decide, rfl⟩ : kx 2 2) (⟨by decide, rfl⟩ : kx 111 46) rfl)).trans ((up_o (kx.ne (⟨by decide, rfl⟩ : kx 2 2) (⟨by decide, rfl⟩ : kx 111 46) rfl)).trans ((up_o (kx.ne (⟨by decide, rfl⟩ : kx 2 2) (⟨by decide, rfl⟩ : kx 111 46) rfl)).trans ((up_o (kx.ne (⟨by decide, rfl⟩ : kx 2 2) (⟨by decide, rfl⟩ : kx 111 46) rfl)).trans ((FrX.g hE27_5422 (⟨by decide, rfl⟩ : kx 2 2) rfl).trans rfl))))) ?_
          refine g_istore_n (l1 := [(3, vI (P 2 (H27_5422 111 3))), (0, vR 111), (1, vI 1), (2, vI (P 111 3))]) dX7_step_145 (by decide) rfl ?_
          refine g_iload_n dX7_step_146 rfl ?_
          refine g_bipush dX7_step_147 (by decide) ?_
          have f8266 := bx_2 (o := 2) (k := (H27_5422 111 3)) hB (⟨by decide, rfl⟩ : kx 2 2)
          have J162_8416 : ∀ (_ : True), Go WSX G 2 iX7_step 162 [(0, vR 111), (1, vI 1), (2, vI (P 111 3)), (3, vI (P 2 (H27_5422 111 3)))] [] (up (up (up (up H27_5422 111 5 (H27_5422 111 3)) 111 6 (H27_5422 111 3)) 111 8 (-1)) 111 7 0) Q := by
            intro _
            refine g_iconst dX7_step_162 ?_
            refine g_istore (l1 := [(4, vI 0), (0, vR 111), (1, vI 1), (2, vI (P 111 3)), (3, vI (P 2 (H27_5422 111 3)))]) dX7_step_163 (by decide) rfl ?_
            refine g_iload_n dX7_step_165 rfl ?_
            refine g_bipush dX7_step_166 (by decide) ?_
            have J181_8459 : ∀ (_ : True), Go WSX G 2 iX7_step 181 [(0, vR 111), (1, vI 1), (2, vI (P 111 3)), (3, vI (P 2 (H27_5422 111 3))), (4, vI 0)] [] (up (up (up (up H27_5422 111 5 (H27_5422 111 3)) 111 6 (H27_5422 111 3)) 111 8 (-1)) 111 7 0) Q := by
              intro _
              refine g_iconst dX7_step_181 ?_
              refine g_istore (l1 := [(5, vI 0), (0, vR 111), (1, vI 1), (2, vI (P 111 3)), (3, vI (P 2 (H27_5422 111 3))), (4, vI 0)]) dX7_step_182 (by decide) rfl ?_
              refine g_iload dX7_step_184 rfl ?_
              refine g_if_ne (tgt := 217) dX7_step_186 (by decide) (by decide) (fun k8465 => by exfalso; omega) (fun k8465 => ?_)
              refine g_iload dX7_step_189 rfl ?_
              refine g_if_ne (tgt := 217) dX7_step_191 (by decide) (by decide) (fun k8466 => by exfalso; omega) (fun k8466 => ?_)
              refine g_aload_n dX7_step_194 rfl ?_
              refine g_iconst dX7_step_195 ?_
              refine x_p46_4 (⟨by decide, rfl⟩ : kx 111 46) pfX7_75 dX7_step_196 ?_
              have hB8467 := by_46_4 (z := 3) hB8262 (⟨by decide, rfl⟩ : kx 111 46) (by decide)
              refine g_aload_n dX7_step_199 rfl ?_
              refine g_iload_n dX7_step_200 rfl ?_
              refine x_p46_7 (⟨by decide, rfl⟩ : kx 111 46) pfX7_90 dX7_step_201 ?_
              have hB8468 := by_46_7 (z := (P 2 (H27_5422 111 3))) hB8467 (⟨by decide, rfl⟩ : kx 111 46) ⟨by have q0 := bx_2 (o := 2) (k := (H27_5422 111 3)) hB (⟨by decide, rfl⟩ : kx 2 2); omega, by have q0 := bx_2 (o := 2) (k := (H27_5422 111 3)) hB (⟨by decide, rfl⟩ : kx 2 2); omega⟩
              refine g_aload_n dX7_step_204 rfl ?_
              refine g_dup dX7_step_205 rfl ?_
              refine x_g46_3 (z := (H27_5422 111 3)) (⟨by decide, rfl⟩ : kx 111 46) ffX7_72 dX7_step_206 ((up_k (by decide)).trans ((up_k (by decide)).trans ((up_k (by decide)).trans ((up_k (by decide)).trans ((up_k (by decide)).trans ((up_k (by decide)).trans rfl)))))) ?_
              refine g_iconst dX7_step_209 ?_
              refine g_iadd dX7_step_210 ?_
              refine x_p46_3 (⟨by decide, rfl⟩ : kx 111 46) pfX7_72 dX7_step_211 ?_
              have hB8469 := by_46_3 (z := ((H27_5422 111 3) + 1)) hB8468 (⟨by decide, rfl⟩ : kx 111 46) ⟨by have q0 := bx_46_3 (o := 111) hB27_5422 (⟨by decide, rfl⟩ : kx 111 46); omega, by have q0 := bx_46_3 (o := 111) hB27_5422 (⟨by decide, rfl⟩ : kx 111 46); omega⟩
              refine g_goto (tgt := 253) dX7_step_214 (by decide) ?_
              exact g_retV dX7_step_253 rfl (hQ _ hB8469 (FrX.s (FrX.s (FrX.s (FrX.s (FrX.s (FrX.s (FrX.s (FrX.c FrX.rf hE27_5422 rfl) (⟨by decide, rfl⟩ : kx 111 46) rfl) (⟨by decide, rfl⟩ : kx 111 46) rfl) (⟨by decide, rfl⟩ : kx 111 46) rfl) (⟨by decide, rfl⟩ : kx 111 46) rfl) (⟨by decide, rfl⟩ : kx 111 46) rfl) (⟨by decide, rfl⟩ : kx 111 46) rfl) (⟨by decide, rfl⟩ : kx 111 46) rfl) )
            refine g_icmp_lt (tgt := 181) dX7_step_168 (by decide) ⟨by have q0 := bx_2 (o := 2) (k := (H27_5422 111 3)) hB (⟨by decide, rfl⟩ : kx 2 2); omega, by have q0 := bx_2 (o := 2) (k := (H27_5422 111 3)) hB (⟨by decide, rfl⟩ : kx 2 2); omega⟩ (by decide) (fun k8470 => ?_) (fun k8470 => ?_)
            · refine g_forget (l1 := [(0, vR 111), (1, vI 1), (2, vI (P 111 3)), (3, vI (P 2 (H27_5422 111 3))), (4, vI 0)]) (by intro q hq; simp only [List.mem_cons, List.not_mem_nil, or_false] at hq ⊢; rcases hq with rfl | rfl | rfl | rfl | rfl <;> simp) ?_
              exact J181_8459 trivial
            · refine g_iload_n dX7_step_171 rfl ?_
              refine g_bipush dX7_step_172 (by decide) ?_
              refine g_icmp_gt (tgt := 181) dX7_step_174 (by decide) ⟨by have q0 := bx_2 (o := 2) (k := (H27_5422 111 3)) hB (⟨by decide, rfl⟩ : kx 2 2); omega, by have q0 := bx_2 (o := 2) (k := (H27_5422 111 3)) hB (⟨by decide, rfl⟩ : kx 2 2); omega⟩ (by decide) (fun k8471 => ?_) (fun k8471 => ?_)
              · refine g_forget (l1 := [(0, vR 111), (1, vI 1), (2, vI (P 111 3)), (3, vI (P 2 (H27_5422 111 3))), (4, vI 0)]) (by intro q hq; simp only [List.mem_cons, List.not_mem_nil, or_false] at hq ⊢; rcases hq with rfl | rfl | rfl | rfl | rfl <;> simp) ?_
                exact J181_8459 trivial
              · refine g_iconst dX7_step_177 ?_
                refine g_goto (tgt := 182) dX7_step_178 (by decide) ?_
                refine g_istore (l1 := [(5, vI 1), (4, vI 0), (0, vR 111), (1, vI 1), (2, vI (P 111 3)), (3, vI (P 2 (H27_5422 111 3)))]) dX7_step_182 (by decide) rfl ?_
                refine g_iload dX7_step_184 rfl ?_
                have J217_8486 : ∀ (_ : True), Go WSX G 2 iX7_step 217 [(0, vR 111), (1, vI 1), (2, vI (P 111 3)), (4, vI 0)] [] (up (up (up (up H27_5422 111 5 (H27_5422 111 3)) 111 6 (H27_5422 111 3)) 111 8 (-1)) 111 7 0) Q := by
                  intro _
                  refine g_iload_n dX7_step_217 rfl ?_
                  have J237_8493 : ∀ (_ : True), Go WSX G 2 iX7_step 237 [(0, vR 111), (4, vI 0)] [] (up (up (up (up H27_5422 111 5 (H27_5422 111 3)) 111 6 (H27_5422 111 3)) 111 8 (-1)) 111 7 0) Q := by
                    intro _
                    refine g_iload dX7_step_237 rfl ?_
                    refine g_if_eq (tgt := 249) dX7_step_239 (by decide) (by decide) (fun k8495 => ?_) (fun k8495 => by exfalso; omega)
                    refine g_aload_n dX7_step_249 rfl ?_
                    refine g_vV (av := []) (o := 111) (st := []) (m_X7_stepNumber G (up (up (up (up H27_5422 111 5 (H27_5422 111 3)) 111 6 (H27_5422 111 3)) 111 8 (-1)) 111 7 0)  hB8262 (TX.fr (F := ([(46, 3), (46, 5), (46, 6), (46, 7), (46, 8)], [])) v_TX (FrX.s (FrX.s (FrX.s (FrX.s (FrX.c FrX.rf hE27_5422 rfl) (⟨by decide, rfl⟩ : kx 111 46) rfl) (⟨by decide, rfl⟩ : kx 111 46) rfl) (⟨by decide, rfl⟩ : kx 111 46) rfl) (⟨by decide, rfl⟩ : kx 111 46) rfl) rfl) _ (fun Pc8496 hBc8496 hFc8496 => ⟨rfl, ?_⟩)) cf_X7_stepNumber t_715 rfl (show kx 111 46 from (⟨by decide, rfl⟩ : kx 111 46)).1 ((show kx 111 46 from (⟨by decide, rfl⟩ : kx 111 46)).sh rfl) rfl rfl (Nat.le_of_ble_eq_true rfl) (by decide) rfl dX7_step_250
                    exact g_retV dX7_step_253 rfl (hQ _ hBc8496 (FrX.c (FrX.s (FrX.s (FrX.s (FrX.s (FrX.c FrX.rf hE27_5422 rfl) (⟨by decide, rfl⟩ : kx 111 46) rfl) (⟨by decide, rfl⟩ : kx 111 46) rfl) (⟨by decide, rfl⟩ : kx 111 46) rfl) (⟨by decide, rfl⟩ : kx 111 46) rfl) hFc8496 rfl) )
                  refine g_if_eq (tgt := 237) dX7_step_218 (by decide) (by decide) (fun k8497 => by exfalso; omega) (fun k8497 => ?_)
                  refine g_iload_n dX7_step_221 rfl ?_
                  refine g_aload_n dX7_step_222 rfl ?_
                  refine x_g46_5 (z := (H27_5422 111 3)) (⟨by decide, rfl⟩ : kx 111 46) ffX7_81 dX7_step_223 ((up_k (by decide)).trans ((up_k (by decide)).trans ((up_k (by decide)).trans up_same))) ?_
                  have f8498 := bx_46_3 (o := 111) hB (⟨by decide, rfl⟩ : kx 111 46)
                  refine g_icmp_ne (tgt := 237) dX7_step_226 (by decide) ⟨by have q0 := bx_46_3 (o := 111) hB (⟨by decide, rfl⟩ : kx 111 46); omega, by have q0 := bx_46_3 (o := 111) hB (⟨by decide, rfl⟩ : kx 111 46); omega⟩ ⟨by have q0 := bx_46_3 (o := 111) hB27_5422 (⟨by decide, rfl⟩ : kx 111 46); omega, by have q0 := bx_46_3 (o := 111) hB27_5422 (⟨by decide, rfl⟩ : kx 111 46); omega⟩ (fun k8499 => ?_) (fun k8499 => ?_)
                  · refine g_forget (l1 := [(0, vR 111), (4, vI 0)]) (by intro q hq; simp only [List.mem_cons, List.not_mem_nil, or_false] at hq ⊢; rcases hq with rfl | rfl <;> simp) ?_
                    exact J237_8493 trivial
                  · refine g_aload_n dX7_step_229 rfl ?_
                    refine g_iconst dX7_step_230 ?_
                    refine x_p46_4 (⟨by decide, rfl⟩ : kx 111 46) pfX7_75 dX7_step_231 ?_
                    have hB8500 := by_46_4 (z := 4) hB8262 (⟨by decide, rfl⟩ : kx 111 46) (by decide)
                    refine g_goto (tgt := 253) dX7_step_234 (by decide) ?_
                    exact g_retV dX7_step_253 rfl (hQ _ hB8500 (FrX.s (FrX.s (FrX.s (FrX.s (FrX.s (FrX.c FrX.rf hE27_5422 rfl) (⟨by decide, rfl⟩ : kx 111 46) rfl) (⟨by decide, rfl⟩ : kx 111 46) rfl) (⟨by decide, rfl⟩ : kx 111 46) rfl) (⟨by decide, rfl⟩ : kx 111 46) rfl) (⟨by decide, rfl⟩ : kx 111 46) rfl) )
                refine g_if_ne (tgt := 217) dX7_step_186 (by decide) (by decide) (fun k8501 => by exfalso; omega) (fun k8501 => ?_)
                refine g_iload dX7_step_189 rfl ?_
                refine g_if_ne (tgt := 217) dX7_step_191 (by decide) (by decide) (fun k8502 => ?_) (fun k8502 => by exfalso; omega)
                refine g_forget (l1 := [(0, vR 111), (1, vI 1), (2, vI (P 111 3)), (4, vI 0)]) (by intro q hq; simp only [List.mem_cons, List.not_mem_nil, or_false] at hq ⊢; rcases hq with rfl | rfl | rfl | rfl <;> simp) ?_
                exact J217_8486 trivial
          refine g_icmp_lt (tgt := 162) dX7_step_149 (by decide) ⟨by have q0 := bx_2 (o := 2) (k := (H27_5422 111 3)) hB (⟨by decide, rfl⟩ : kx 2 2); omega, by have q0 := bx_2 (o := 2) (k := (H27_5422 111 3)) hB (⟨by decide, rfl⟩ : kx 2 2); omega⟩ (by decide) (fun k8503 => ?_) (fun k8503 => ?_)
          · refine g_forget (l1 := [(0, vR 111), (1, vI 1), (2, vI (P 111 3)), (3, vI (P 2 (H27_5422 111 3)))]) (by intro q hq; simp only [List.mem_cons, List.not_mem_nil, or_false] at hq ⊢; rcases hq with rfl | rfl | rfl | rfl <;> simp) ?_
            exact J162_8416 trivial
          · refine g_iload_n dX7_step_152 rfl ?_
            refine g_bipush dX7_step_153 (by decide) ?_
            refine g_icmp_gt (tgt := 162) dX7_step_155 (by decide) ⟨by have q0 := bx_2 (o := 2) (k := (H27_5422 111 3)) hB (⟨by decide, rfl⟩ : kx 2 2); omega, by have q0 := bx_2 (o := 2) (k := (H27_5422 111 3)) hB (⟨by decide, rfl⟩ : kx 2 2); omega⟩ (by decide) (fun k8504 => ?_) (fun k8504 => ?_)
            · refine g_forget (l1 := [(0, vR 111), (1, vI 1), (2, vI (P 111 3)), (3, vI (P 2 (H27_5422 111 3)))]) (by intro q hq; simp only [List.mem_cons, List.not_mem_nil, or_false] at hq ⊢; rcases hq with rfl | rfl | rfl | rfl <;> simp) ?_
              exact J162_8416 trivial
            · refine g_iconst dX7_step_158 ?_
              refine g_goto (tgt := 163) dX7_step_159 (by decide) ?_
              refine g_istore (l1 := [(4, vI 1), (3, vI (P 2 (H27_5422 111 3))), (0, vR 111), (1, vI 1), (2, vI (P 111 3))]) dX7_step_163 (by decide) rfl ?_
              refine g_iload_n dX7_step_165 rfl ?_
              refine g_bipush dX7_step_166 (by decide) ?_
              have J181_8535 : ∀ (_ : True), Go WSX G 2 iX7_step 181 [(0, vR 111), (1, vI 1), (2, vI (P 111 3)), (3, vI (P 2 (H27_5422 111 3))), (4, vI 1)] [] (up (up (up (up H27_5422 111 5 (H27_5422 111 3)) 111 6 (H27_5422 111 3)) 111 8 (-1)) 111 7 0) Q := by
                intro _
                refine g_iconst dX7_step_181 ?_
                refine g_istore (l1 := [(5, vI 0), (0, vR 111), (1, vI 1), (2, vI (P 111 3)), (3, vI (P 2 (H27_5422 111 3))), (4, vI 1)]) dX7_step_182 (by decide) rfl ?_
                refine g_iload dX7_step_184 rfl ?_
                have J217_8550 : ∀ (_ : True), Go WSX G 2 iX7_step 217 [(0, vR 111), (1, vI 1), (2, vI (P 111 3)), (4, vI 1)] [] (up (up (up (up H27_5422 111 5 (H27_5422 111 3)) 111 6 (H27_5422 111 3)) 111 8 (-1)) 111 7 0) Q := by
                  intro _
                  refine g_iload_n dX7_step_217 rfl ?_
                  have J237_8557 : ∀ (_ : True), Go WSX G 2 iX7_step 237 [(0, vR 111), (4, vI 1)] [] (up (up (up (up H27_5422 111 5 (H27_5422 111 3)) 111 6 (H27_5422 111 3)) 111 8 (-1)) 111 7 0) Q := by
                    intro _
                    refine g_iload dX7_step_237 rfl ?_
                    refine g_if_eq (tgt := 249) dX7_step_239 (by decide) (by decide) (fun k8559 => by exfalso; omega) (fun k8559 => ?_)
                    refine g_aload_n dX7_step_242 rfl ?_
                    refine g_vV (av := []) (o := 111) (st := []) (m_X7_stepWord G (up (up (up (up H27_5422 111 5 (H27_5422 111 3)) 111 6 (H27_5422 111 3)) 111 8 (-1)) 111 7 0)  hB8262 (TX.fr (F := ([(46, 3), (46, 5), (46, 6), (46, 7), (46, 8)], [])) v_TX (FrX.s (FrX.s (FrX.s (FrX.s (FrX.c FrX.rf hE27_5422 rfl) (⟨by decide, rfl⟩ : kx 111 46) rfl) (⟨by decide, rfl⟩ : kx 111 46) rfl) (⟨by decide, rfl⟩ : kx 111 46) rfl) (⟨by decide, rfl⟩ : kx 111 46) rfl) rfl) _ (fun Pc8560 hBc8560 hFc8560 => ⟨rfl, ?_⟩)) cf_X7_stepWord t_711 rfl (show kx 111 46 from (⟨by decide, rfl⟩ : kx 111 46)).1 ((show kx 111 46 from (⟨by decide, rfl⟩ : kx 111 46)).sh rfl) rfl rfl (Nat.le_of_ble_eq_true rfl) (by decide) rfl dX7_step_243
                    refine g_goto (tgt := 253) dX7_step_246 (by decide) ?_
                    exact g_retV dX7_step_253 rfl (hQ _ hBc8560 (FrX.c (FrX.s (FrX.s (FrX.s (FrX.s (FrX.c FrX.rf hE27_5422 rfl) (⟨by decide, rfl⟩ : kx 111 46) rfl) (⟨by decide, rfl⟩ : kx 111 46) rfl) (⟨by decide, rfl⟩ : kx 111 46) rfl) (⟨by decide, rfl⟩ : kx 111 46) rfl) hFc8560 rfl) )
                  refine g_if_eq (tgt := 237) dX7_step_218 (by decide) (by decide) (fun k8561 => by exfalso; omega) (fun k8561 => ?_)
                  refine g_iload_n dX7_step_221 rfl ?_
                  refine g_aload_n dX7_step_222 rfl ?_
                  refine x_g46_5 (z := (H27_5422 111 3)) (⟨by decide, rfl⟩ : kx 111 46) ffX7_81 dX7_step_223 ((up_k (by decide)).trans ((up_k (by decide)).trans ((up_k (by decide)).trans up_same))) ?_
                  have f8562 := bx_46_3 (o := 111) hB (⟨by decide, rfl⟩ : kx 111 46)
                  refine g_icmp_ne (tgt := 237) dX7_step_226 (by decide) ⟨by have q0 := bx_46_3 (o := 111) hB (⟨by decide, rfl⟩ : kx 111 46); omega, by have q0 := bx_46_3 (o := 111) hB (⟨by decide, rfl⟩ : kx 111 46); omega⟩ ⟨by have q0 := bx_46_3 (o := 111) hB27_5422 (⟨by decide, rfl⟩ : kx 111 46); omega, by have q0 := bx_46_3 (o := 111) hB27_5422 (⟨by decide, rfl⟩ : kx 111 46); omega⟩ (fun k8563 => ?_) (fun k8563 => ?_)
                  · refine g_forget (l1 := [(0, vR 111), (4, vI 1)]) (by intro q hq; simp only [List.mem_cons, List.not_mem_nil, or_false] at hq ⊢; rcases hq with rfl | rfl <;> simp) ?_
                    exact J237_8557 trivial
                  · refine g_aload_n dX7_step_229 rfl ?_
                    refine g_iconst dX7_step_230 ?_
                    refine x_p46_4 (⟨by decide, rfl⟩ : kx 111 46) pfX7_75 dX7_step_231 ?_
                    have hB8564 := by_46_4 (z := 4) hB8262 (⟨by decide, rfl⟩ : kx 111 46) (by decide)
                    refine g_goto (tgt := 253) dX7_step_234 (by decide) ?_
                    exact g_retV dX7_step_253 rfl (hQ _ hB8564 (FrX.s (FrX.s (FrX.s (FrX.s (FrX.s (FrX.c FrX.rf hE27_5422 rfl) (⟨by decide, rfl⟩ : kx 111 46) rfl) (⟨by decide, rfl⟩ : kx 111 46) rfl) (⟨by decide, rfl⟩ : kx 111 46) rfl) (⟨by decide, rfl⟩ : kx 111 46) rfl) (⟨by decide, rfl⟩ : kx 111 46) rfl) )
                refine g_if_ne (tgt := 217) dX7_step_186 (by decide) (by decide) (fun k8565 => ?_) (fun k8565 => by exfalso; omega)
                refine g_forget (l1 := [(0, vR 111), (1, vI 1), (2, vI (P 111 3)), (4, vI 1)]) (by intro q hq; simp only [List.mem_cons, List.not_mem_nil, or_false] at hq ⊢; rcases hq with rfl | rfl | rfl | rfl <;> simp) ?_
                exact J217_8550 trivial
              refine g_icmp_lt (tgt := 181) dX7_step_168 (by decide) ⟨by have q0 := bx_2 (o := 2) (k := (H27_5422 111 3)) hB (⟨by decide, rfl⟩ : kx 2 2); omega, by have q0 := bx_2 (o := 2) (k := (H27_5422 111 3)) hB (⟨by decide, rfl⟩ : kx 2 2); omega⟩ (by decide) (fun k8566 => by exfalso; have q0 := bx_2 (o := 2) (k := (H27_5422 111 3)) hB (⟨by decide, rfl⟩ : kx 2 2); omega) (fun k8566 => ?_)
              refine g_iload_n dX7_step_171 rfl ?_
              refine g_bipush dX7_step_172 (by decide) ?_
              refine g_icmp_gt (tgt := 181) dX7_step_174 (by decide) ⟨by have q0 := bx_2 (o := 2) (k := (H27_5422 111 3)) hB (⟨by decide, rfl⟩ : kx 2 2); omega, by have q0 := bx_2 (o := 2) (k := (H27_5422 111 3)) hB (⟨by decide, rfl⟩ : kx 2 2); omega⟩ (by decide) (fun k8567 => ?_) (fun k8567 => by exfalso; have q0 := bx_2 (o := 2) (k := (H27_5422 111 3)) hB (⟨by decide, rfl⟩ : kx 2 2); omega)
              refine g_forget (l1 := [(0, vR 111), (1, vI 1), (2, vI (P 111 3)), (3, vI (P 2 (H27_5422 111 3))), (4, vI 1)]) (by intro q hq; simp only [List.mem_cons, List.not_mem_nil, or_false] at hq ⊢; rcases hq with rfl | rfl | rfl | rfl | rfl <;> simp) ?_
              exact J181_8535 trivial
        · refine g_aload_n dX7_step_130 rfl ?_
          refine g_iconst dX7_step_131 ?_
          refine x_p46_4 (⟨by decide, rfl⟩ : kx 111 46) pfX7_75 dX7_step_132 ?_
          have hB8568 := by_46_4 (z := 0) hB8262 (⟨by decide, rfl⟩ : kx 111 46) (by decide)
          exact g_retV dX7_step_135 rfl (hQ _ hB8568 (FrX.s (FrX.s (FrX.s (FrX.s (FrX.s (FrX.c FrX.rf hE27_5422 rfl) (⟨by decide, rfl⟩ : kx 111 46) rfl) (⟨by decide, rfl⟩ : kx 111 46) rfl) (⟨by decide, rfl⟩ : kx 111 46) rfl) (⟨by decide, rfl⟩ : kx 111 46) rfl) (⟨by decide, rfl⟩ : kx 111 46) rfl) )
      refine g_if_lt (tgt := 86) dX7_step_31 (by decide) ⟨by have q0 := bx_46_3 (o := 111) hB27_5422 (⟨by decide, rfl⟩ : kx 111 46); omega, by have q0 := bx_46_3 (o := 111) hB27_5422 (⟨by decide, rfl⟩ : kx 111 46); omega⟩ (fun k8569 => by exfalso; have q0 := bx_46_3 (o := 111) hB27_5422 (⟨by decide, rfl⟩ : kx 111 46); omega) (fun k8569 => ?_)
      refine g_aload_n dX7_step_34 rfl ?_
      refine x_g46_3 (z := (H27_5422 111 3)) (⟨by decide, rfl⟩ : kx 111 46) ffX7_72 dX7_step_35 rfl ?_
      refine g_aload_n dX7_step_38 rfl ?_
      refine x_g46_2 (z := (P 111 2)) (⟨by decide, rfl⟩ : kx 111 46) ffX7_71 dX7_step_39 ((FrX.g hE27_5422 (⟨by decide, rfl⟩ : kx 111 46) rfl).trans rfl) ?_
      have f8570 := bx_46_2 (o := 111) hB (⟨by decide, rfl⟩ : kx 111 46)
      refine g_icmp_ge (tgt := 86) dX7_step_42 (by decide) ⟨by have q0 := bx_46_3 (o := 111) hB27_5422 (⟨by decide, rfl⟩ : kx 111 46); omega, by have q0 := bx_46_3 (o := 111) hB27_5422 (⟨by decide, rfl⟩ : kx 111 46); omega⟩ ⟨by have q0 := bx_46_2 (o := 111) hB (⟨by decide, rfl⟩ : kx 111 46); omega, by have q0 := bx_46_2 (o := 111) hB (⟨by decide, rfl⟩ : kx 111 46); omega⟩ (fun k8571 => ?_) (fun k8571 => ?_)
      · refine g_forget (l1 := [(0, vR 111), (1, vI 1), (2, vI (P 111 3))]) (by intro q hq; simp only [List.mem_cons, List.not_mem_nil, or_false] at hq ⊢; rcases hq with rfl | rfl | rfl <;> simp) ?_
        exact J86_8257 trivial
      · refine g_aload_n dX7_step_45 rfl ?_
        refine x_g46_1 (n := 2) (⟨by decide, rfl⟩ : kx 111 46) ffX7_41 dX7_step_46 (TX.fr (F := ([(46, 3)], [])) v_TX (FrX.c FrX.rf hE27_5422 rfl) rfl) ?_
        refine g_aload_n dX7_step_49 rfl ?_
        refine x_g46_3 (z := (H27_5422 111 3)) (⟨by decide, rfl⟩ : kx 111 46) ffX7_72 dX7_step_50 rfl ?_
        refine x_l2 (z := (P 2 (H27_5422 111 3))) (⟨by decide, rfl⟩ : kx 2 2) dX7_step_53 ⟨by have q0 := bx_46_3 (o := 111) hB27_5422 (⟨by decide, rfl⟩ : kx 111 46); omega, by have q0 := bx_46_3 (o := 111) hB27_5422 (⟨by decide, rfl⟩ : kx 111 46); omega⟩ ((FrX.g hE27_5422 (⟨by decide, rfl⟩ : kx 2 2) rfl).trans rfl) ?_
        refine g_bipush dX7_step_54 (by decide) ?_
        have f8572 := bx_2 (o := 2) (k := (H27_5422 111 3)) hB (⟨by decide, rfl⟩ : kx 2 2)
        have J73_8575 : ∀ (_ : True), Go WSX G 2 iX7_step 73 [(0, vR 111), (1, vI 1), (2, vI (P 111 3))] [] H27_5422 Q := by
          intro _
          refine g_aload_n dX7_step_73 rfl ?_
          refine g_dup dX7_step_74 rfl ?_
          refine x_g46_3 (z := (H27_5422 111 3)) (⟨by decide, rfl⟩ : kx 111 46) ffX7_72 dX7_step_75 rfl ?_
          refine g_iconst dX7_step_78 ?_
          refine g_iadd dX7_step_79 ?_
          refine x_p46_3 (⟨by decide, rfl⟩ : kx 111 46) pfX7_72 dX7_step_80 ?_
          have hB8577 := by_46_3 (z := ((H27_5422 111 3) + 1)) hB27_5422 (⟨by decide, rfl⟩ : kx 111 46) ⟨by have q0 := bx_46_3 (o := 111) hB27_5422 (⟨by decide, rfl⟩ : kx 111 46); omega, by have q0 := bx_46_3 (o := 111) hB27_5422 (⟨by decide, rfl⟩ : kx 111 46); omega⟩
          refine g_goto (tgt := 27) dX7_step_83 (by decide) ?_
          refine g_forget (l1 := [(0, vR 111), (1, vI 1), (2, vI (P 111 3))]) (by intro q hq; simp only [List.mem_cons, List.not_mem_nil, or_false] at hq ⊢; rcases hq with rfl | rfl | rfl <;> simp) ?_
          exact ih27_5422 _ hB8577 (FrX.s (FrX.c FrX.rf hE27_5422 rfl) (⟨by decide, rfl⟩ : kx 111 46) rfl) (by have q0 := (up_same : (up H27_5422 111 3 ((H27_5422 111 3) + 1)) 111 3 = ((H27_5422 111 3) + 1)); have q1 := bx_46_3 (o := 111) hB27_5422 (⟨by decide, rfl⟩ : kx 111 46); omega)
        refine g_icmp_eq (tgt := 73) dX7_step_56 (by decide) ⟨by have q0 := bx_2 (o := 2) (k := (H27_5422 111 3)) hB (⟨by decide, rfl⟩ : kx 2 2); omega, by have q0 := bx_2 (o := 2) (k := (H27_5422 111 3)) hB (⟨by decide, rfl⟩ : kx 2 2); omega⟩ (by decide) (fun k8578 => ?_) (fun k8578 => ?_)
        · refine g_forget (l1 := [(0, vR 111), (1, vI 1), (2, vI (P 111 3))]) (by intro q hq; simp only [List.mem_cons, List.not_mem_nil, or_false] at hq ⊢; rcases hq with rfl | rfl | rfl <;> simp) ?_
          exact J73_8575 trivial
        · refine g_aload_n dX7_step_59 rfl ?_
          refine x_g46_1 (n := 2) (⟨by decide, rfl⟩ : kx 111 46) ffX7_41 dX7_step_60 (TX.fr (F := ([(46, 3)], [])) v_TX (FrX.c FrX.rf hE27_5422 rfl) rfl) ?_
          refine g_aload_n dX7_step_63 rfl ?_
          refine x_g46_3 (z := (H27_5422 111 3)) (⟨by decide, rfl⟩ : kx 111 46) ffX7_72 dX7_step_64 rfl ?_
          refine x_l2 (z := (P 2 (H27_5422 111 3))) (⟨by decide, rfl⟩ : kx 2 2) dX7_step_67 ⟨by have q0 := bx_46_3 (o := 111) hB27_5422 (⟨by decide, rfl⟩ : kx 111 46); omega, by have q0 := bx_46_3 (o := 111) hB27_5422 (⟨by decide, rfl⟩ : kx 111 46); omega⟩ ((FrX.g hE27_5422 (⟨by decide, rfl⟩ : kx 2 2) rfl).trans rfl) ?_
          refine g_bipush dX7_step_68 (by decide) ?_
          refine g_icmp_ne (tgt := 86) dX7_step_70 (by decide) ⟨by have q0 := bx_2 (o := 2) (k := (H27_5422 111 3)) hB (⟨by decide, rfl⟩ : kx 2 2); omega, by have q0 := bx_2 (o := 2) (k := (H27_5422 111 3)) hB (⟨by decide, rfl⟩ : kx 2 2); omega⟩ (by decide) (fun k8579 => ?_) (fun k8579 => ?_)
          · refine g_forget (l1 := [(0, vR 111), (1, vI 1), (2, vI (P 111 3))]) (by intro q hq; simp only [List.mem_cons, List.not_mem_nil, or_false] at hq ⊢; rcases hq with rfl | rfl | rfl <;> simp) ?_
            exact J86_8257 trivial
          · refine g_forget (l1 := [(0, vR 111), (1, vI 1), (2, vI (P 111 3))]) (by intro q hq; simp only [List.mem_cons, List.not_mem_nil, or_false] at hq ⊢; rcases hq with rfl | rfl | rfl <;> simp) ?_
            exact J73_8575 trivial
    refine g_forget (l1 := [(0, vR 111), (1, vI 1), (2, vI (P 111 3))]) (by intro q hq; simp only [List.mem_cons, List.not_mem_nil, or_false] at hq ⊢; rcases hq with rfl | rfl | rfl <;> simp) ?_
    exact L27_5422 _ _ hB FrX.rf (Nat.lt_succ_self _)
  refine g_icmp_eq (tgt := 16) dX7_step_5 (by decide) ⟨by have q0 := bx_46_4 (o := 111) hB (⟨by decide, rfl⟩ : kx 111 46); omega, by have q0 := bx_46_4 (o := 111) hB (⟨by decide, rfl⟩ : kx 111 46); omega⟩ (by decide) (fun k8580 => ?_) (fun k8580 => ?_)
  · refine g_forget (l1 := [(0, vR 111)]) (by intro q hq; simp only [List.mem_cons, List.not_mem_nil, or_false] at hq ⊢; rcases hq with rfl <;> simp) ?_
    exact J16_5421 trivial
  · refine g_aload_n dX7_step_8 rfl ?_
    refine x_g46_4 (z := (P 111 4)) (⟨by decide, rfl⟩ : kx 111 46) ffX7_75 dX7_step_9 rfl ?_
    refine g_iconst dX7_step_12 ?_
    refine g_icmp_ne (tgt := 20) dX7_step_13 (by decide) ⟨by have q0 := bx_46_4 (o := 111) hB (⟨by decide, rfl⟩ : kx 111 46); omega, by have q0 := bx_46_4 (o := 111) hB (⟨by decide, rfl⟩ : kx 111 46); omega⟩ (by decide) (fun k8581 => ?_) (fun k8581 => ?_)
    · refine g_iconst dX7_step_20 ?_
      refine g_istore_n (l1 := [(1, vI 0), (0, vR 111)]) dX7_step_21 (by decide) rfl ?_
      refine g_aload_n dX7_step_22 rfl ?_
      refine x_g46_3 (z := (P 111 3)) (⟨by decide, rfl⟩ : kx 111 46) ffX7_72 dX7_step_23 rfl ?_
      refine g_istore_n (l1 := [(2, vI (P 111 3)), (1, vI 0), (0, vR 111)]) dX7_step_26 (by decide) rfl ?_
      have L27_8581 : ∀ (n27_8581 : Nat) (H27_8581 : PH) (hB27_8581 : BdX H27_8581) (hE27_8581 : FrX ([(46, 3)], []) P H27_8581) (hm27_8581 : (1601 - H27_8581 111 3 : Int).toNat < n27_8581), Go WSX G 2 iX7_step 27 [(0, vR 111), (1, vI 0), (2, vI (P 111 3))] [] H27_8581 Q := by
        intro n27_8581
        induction n27_8581 with
        | zero => intro H27_8581 hB27_8581 hE27_8581 hm27_8581; exact absurd hm27_8581 (Nat.not_lt_zero _)
        | succ n27_8581 ih27_8581 =>
        intro H27_8581 hB27_8581 hE27_8581 hm27_8581
        refine g_aload_n dX7_step_27 rfl ?_
        refine x_g46_3 (z := (H27_8581 111 3)) (⟨by decide, rfl⟩ : kx 111 46) ffX7_72 dX7_step_28 rfl ?_
        have f10391 := bx_46_3 (o := 111) hB27_8581 (⟨by decide, rfl⟩ : kx 111 46)
        have J86_10616 : ∀ (_ : True), Go WSX G 2 iX7_step 86 [(0, vR 111), (1, vI 0), (2, vI (P 111 3))] [] H27_8581 Q := by
          intro _
          refine g_aload_n dX7_step_86 rfl ?_
          refine g_aload_n dX7_step_87 rfl ?_
          refine x_g46_3 (z := (H27_8581 111 3)) (⟨by decide, rfl⟩ : kx 111 46) ffX7_72 dX7_step_88 rfl ?_
          refine x_p46_5 (⟨by decide, rfl⟩ : kx 111 46) pfX7_81 dX7_step_91 ?_
          have hB10618 := by_46_5 (z := (H27_8581 111 3)) hB27_8581 (⟨by decide, rfl⟩ : kx 111 46) ⟨by have q0 := bx_46_3 (o := 111) hB27_8581 (⟨by decide, rfl⟩ : kx 111 46); omega, by have q0 := bx_46_3 (o := 111) hB27_8581 (⟨by decide, rfl⟩ : kx 111 46); omega⟩
          refine g_aload_n dX7_step_94 rfl ?_
          refine g_aload_n dX7_step_95 rfl ?_
          refine x_g46_3 (z := (H27_8581 111 3)) (⟨by decide, rfl⟩ : kx 111 46) ffX7_72 dX7_step_96 ((up_k (by decide)).trans rfl) ?_
          refine x_p46_6 (⟨by decide, rfl⟩ : kx 111 46) pfX7_84 dX7_step_99 ?_
          have hB10619 := by_46_6 (z := (H27_8581 111 3)) hB10618 (⟨by decide, rfl⟩ : kx 111 46) ⟨by have q0 := bx_46_3 (o := 111) hB27_8581 (⟨by decide, rfl⟩ : kx 111 46); omega, by have q0 := bx_46_3 (o := 111) hB27_8581 (⟨by decide, rfl⟩ : kx 111 46); omega⟩
          refine g_aload_n dX7_step_102 rfl ?_
          refine g_iconst dX7_step_103 ?_
          refine x_p46_8 (⟨by decide, rfl⟩ : kx 111 46) pfX7_87 dX7_step_104 ?_
          have hB10620 := by_46_8 (z := (-1)) hB10619 (⟨by decide, rfl⟩ : kx 111 46) (by decide)
          refine g_aload_n dX7_step_107 rfl ?_
          refine g_iconst dX7_step_108 ?_
          refine x_p46_7 (⟨by decide, rfl⟩ : kx 111 46) pfX7_90 dX7_step_109 ?_
          have hB10621 := by_46_7 (z := 0) hB10620 (⟨by decide, rfl⟩ : kx 111 46) (by decide)
          refine g_aload_n dX7_step_112 rfl ?_
          refine x_g46_3 (z := (H27_8581 111 3)) (⟨by decide, rfl⟩ : kx 111 46) ffX7_72 dX7_step_113 ((up_k (by decide)).trans ((up_k (by decide)).trans ((up_k (by decide)).trans ((up_k (by decide)).trans rfl)))) ?_
          refine g_if_lt (tgt := 130) dX7_step_116 (by decide) ⟨by have q0 := bx_46_3 (o := 111) hB27_8581 (⟨by decide, rfl⟩ : kx 111 46); omega, by have q0 := bx_46_3 (o := 111) hB27_8581 (⟨by decide, rfl⟩ : kx 111 46); omega⟩ (fun k10622 => by exfalso; have q0 := bx_46_3 (o := 111) hB27_8581 (⟨by decide, rfl⟩ : kx 111 46); omega) (fun k10622 => ?_)
          refine g_aload_n dX7_step_119 rfl ?_
          refine x_g46_3 (z := (H27_8581 111 3)) (⟨by decide, rfl⟩ : kx 111 46) ffX7_72 dX7_step_120 ((up_k (by decide)).trans ((up_k (by decide)).trans ((up_k (by decide)).trans ((up_k (by decide)).trans rfl)))) ?_
          refine g_aload_n dX7_step_123 rfl ?_
          refine x_g46_2 (z := (P 111 2)) (⟨by decide, rfl⟩ : kx 111 46) ffX7_71 dX7_step_124 ((up_k (by decide)).trans ((up_k (by decide)).trans ((up_k (by decide)).trans ((up_k (by decide)).trans ((FrX.g hE27_8581 (⟨by decide, rfl⟩ : kx 111 46) rfl).trans rfl))))) ?_
          have f10623 := bx_46_2 (o := 111) hB (⟨by decide, rfl⟩ : kx 111 46)
          refine g_icmp_lt (tgt := 136) dX7_step_127 (by decide) ⟨by have q0 := bx_46_3 (o := 111) hB27_8581 (⟨by decide, rfl⟩ : kx 111 46); omega, by have q0 := bx_46_3 (o := 111) hB27_8581 (⟨by decide, rfl⟩ : kx 111 46); omega⟩ ⟨by have q0 := bx_46_2 (o := 111) hB (⟨by decide, rfl⟩ : kx 111 46); omega, by have q0 := bx_46_2 (o := 111) hB (⟨by decide, rfl⟩ : kx 111 46); omega⟩ (fun k10624 => ?_) (fun k10624 => ?_)
          · refine g_aload_n dX7_step_136 rfl ?_
            refine x_g46_1 (n := 2) (⟨by decide, rfl⟩ : kx 111 46) ffX7_41 dX7_step_137 (TX.fr (F := ([(46, 3), (46, 5), (46, 6), (46, 7), (46, 8)], [])) v_TX (FrX.s (FrX.s (FrX.s (FrX.s (FrX.c FrX.rf hE27_8581 rfl) (⟨by decide, rfl⟩ : kx 111 46) rfl) (⟨by decide, rfl⟩ : kx 111 46) rfl) (⟨by decide, rfl⟩ : kx 111 46) rfl) (⟨by decide, rfl⟩ : kx 111 46) rfl) rfl) ?_
            refine g_aload_n dX7_step_140 rfl ?_
            refine x_g46_3 (z := (H27_8581 111 3)) (⟨by decide, rfl⟩ : kx 111 46) ffX7_72 dX7_step_141 ((up_k (by decide)).trans ((up_k (by decide)).trans ((up_k (by decide)).trans ((up_k (by decide)).trans rfl)))) ?_
            refine x_l2 (z := (P 2 (H27_8581 111 3))) (⟨by decide, rfl⟩ : kx 2 2) dX7_step_144 ⟨by have q0 := bx_46_3 (o := 111) hB27_8581 (⟨by decide, rfl⟩ : kx 111 46); omega, by have q0 := bx_46_3 (o := 111) hB27_8581 (⟨by decide, rfl⟩ : kx 111 46); omega⟩ ((up_o (kx.ne (⟨by decide, rfl⟩ : kx 2 2) (⟨by decide, rfl⟩ : kx 111 46) rfl)).trans ((up_o (kx.ne (⟨by decide, rfl⟩ : kx 2 2) (⟨by decide, rfl⟩ : kx 111 46) rfl)).trans ((up_o (kx.ne (⟨by decide, rfl⟩ : kx 2 2) (⟨by decide, rfl⟩ : kx 111 46) rfl)).trans ((up_o (kx.ne (⟨by decide, rfl⟩ : kx 2 2) (⟨by decide, rfl⟩ : kx 111 46) rfl)).trans ((FrX.g hE27_8581 (⟨by decide, rfl⟩ : kx 2 2) rfl).trans rfl))))) ?_
            refine g_istore_n (l1 := [(3, vI (P 2 (H27_8581 111 3))), (0, vR 111), (1, vI 0), (2, vI (P 111 3))]) dX7_step_145 (by decide) rfl ?_
            refine g_iload_n dX7_step_146 rfl ?_
            refine g_bipush dX7_step_147 (by decide) ?_
            have f10625 := bx_2 (o := 2) (k := (H27_8581 111 3)) hB (⟨by decide, rfl⟩ : kx 2 2)
            have J162_10727 : ∀ (_ : True), Go WSX G 2 iX7_step 162 [(0, vR 111), (1, vI 0), (2, vI (P 111 3)), (3, vI (P 2 (H27_8581 111 3)))] [] (up (up (up (up H27_8581 111 5 (H27_8581 111 3)) 111 6 (H27_8581 111 3)) 111 8 (-1)) 111 7 0) Q := by
              intro _
              refine g_iconst dX7_step_162 ?_
              refine g_istore (l1 := [(4, vI 0), (0, vR 111), (1, vI 0), (2, vI (P 111 3)), (3, vI (P 2 (H27_8581 111 3)))]) dX7_step_163 (by decide) rfl ?_
              refine g_iload_n dX7_step_165 rfl ?_
              refine g_bipush dX7_step_166 (by decide) ?_
              have J181_10758 : ∀ (_ : True), Go WSX G 2 iX7_step 181 [(0, vR 111), (1, vI 0), (2, vI (P 111 3)), (3, vI (P 2 (H27_8581 111 3))), (4, vI 0)] [] (up (up (up (up H27_8581 111 5 (H27_8581 111 3)) 111 6 (H27_8581 111 3)) 111 8 (-1)) 111 7 0) Q := by
                intro _
                refine g_iconst dX7_step_181 ?_
                refine g_istore (l1 := [(5, vI 0), (0, vR 111), (1, vI 0), (2, vI (P 111 3)), (3, vI (P 2 (H27_8581 111 3))), (4, vI 0)]) dX7_step_182 (by decide) rfl ?_
                refine g_iload dX7_step_184 rfl ?_
                refine g_if_ne (tgt := 217) dX7_step_186 (by decide) (by decide) (fun k10764 => by exfalso; omega) (fun k10764 => ?_)
                refine g_iload dX7_step_189 rfl ?_
                refine g_if_ne (tgt := 217) dX7_step_191 (by decide) (by decide) (fun k10765 => by exfalso; omega) (fun k10765 => ?_)
                refine g_aload_n dX7_step_194 rfl ?_
                refine g_iconst dX7_step_195 ?_
                refine x_p46_4 (⟨by decide, rfl⟩ : kx 111 46) pfX7_75 dX7_step_196 ?_
                have hB10766 := by_46_4 (z := 3) hB10621 (⟨by decide, rfl⟩ : kx 111 46) (by decide)
                refine g_aload_n dX7_step_199 rfl ?_
                refine g_iload_n dX7_step_200 rfl ?_
                refine x_p46_7 (⟨by decide, rfl⟩ : kx 111 46) pfX7_90 dX7_step_201 ?_
                have hB10767 := by_46_7 (z := (P 2 (H27_8581 111 3))) hB10766 (⟨by decide, rfl⟩ : kx 111 46) ⟨by have q0 := bx_2 (o := 2) (k := (H27_8581 111 3)) hB (⟨by decide, rfl⟩ : kx 2 2); omega, by have q0 := bx_2 (o := 2) (k := (H27_8581 111 3)) hB (⟨by decide, rfl⟩ : kx 2 2); omega⟩
                refine g_aload_n dX7_step_204 rfl ?_
                refine g_dup dX7_step_205 rfl ?_
                refine x_g46_3 (z := (H27_8581 111 3)) (⟨by decide, rfl⟩ : kx 111 46) ffX7_72 dX7_step_206 ((up_k (by decide)).trans ((up_k (by decide)).trans ((up_k (by decide)).trans ((up_k (by decide)).trans ((up_k (by decide)).trans ((up_k (by decide)).trans rfl)))))) ?_
                refine g_iconst dX7_step_209 ?_
                refine g_iadd dX7_step_210 ?_
                refine x_p46_3 (⟨by decide, rfl⟩ : kx 111 46) pfX7_72 dX7_step_211 ?_
                have hB10768 := by_46_3 (z := ((H27_8581 111 3) + 1)) hB10767 (⟨by decide, rfl⟩ : kx 111 46) ⟨by have q0 := bx_46_3 (o := 111) hB27_8581 (⟨by decide, rfl⟩ : kx 111 46); omega, by have q0 := bx_46_3 (o := 111) hB27_8581 (⟨by decide, rfl⟩ : kx 111 46); omega⟩
                refine g_goto (tgt := 253) dX7_step_214 (by decide) ?_
                exact g_retV dX7_step_253 rfl (hQ _ hB10768 (FrX.s (FrX.s (FrX.s (FrX.s (FrX.s (FrX.s (FrX.s (FrX.c FrX.rf hE27_8581 rfl) (⟨by decide, rfl⟩ : kx 111 46) rfl) (⟨by decide, rfl⟩ : kx 111 46) rfl) (⟨by decide, rfl⟩ : kx 111 46) rfl) (⟨by decide, rfl⟩ : kx 111 46) rfl) (⟨by decide, rfl⟩ : kx 111 46) rfl) (⟨by decide, rfl⟩ : kx 111 46) rfl) (⟨by decide, rfl⟩ : kx 111 46) rfl) )
              refine g_icmp_lt (tgt := 181) dX7_step_168 (by decide) ⟨by have q0 := bx_2 (o := 2) (k := (H27_8581 111 3)) hB (⟨by decide, rfl⟩ : kx 2 2); omega, by have q0 := bx_2 (o := 2) (k := (H27_8581 111 3)) hB (⟨by decide, rfl⟩ : kx 2 2); omega⟩ (by decide) (fun k10769 => ?_) (fun k10769 => ?_)
              · refine g_forget (l1 := [(0, vR 111), (1, vI 0), (2, vI (P 111 3)), (3, vI (P 2 (H27_8581 111 3))), (4, vI 0)]) (by intro q hq; simp only [List.mem_cons, List.not_mem_nil, or_false] at hq ⊢; rcases hq with rfl | rfl | rfl | rfl | rfl <;> simp) ?_
                exact J181_10758 trivial
              · refine g_iload_n dX7_step_171 rfl ?_
                refine g_bipush dX7_step_172 (by decide) ?_
                refine g_icmp_gt (tgt := 181) dX7_step_174 (by decide) ⟨by have q0 := bx_2 (o := 2) (k := (H27_8581 111 3)) hB (⟨by decide, rfl⟩ : kx 2 2); omega, by have q0 := bx_2 (o := 2) (k := (H27_8581 111 3)) hB (⟨by decide, rfl⟩ : kx 2 2); omega⟩ (by decide) (fun k10770 => ?_) (fun k10770 => ?_)
                · refine g_forget (l1 := [(0, vR 111), (1, vI 0), (2, vI (P 111 3)), (3, vI (P 2 (H27_8581 111 3))), (4, vI 0)]) (by intro q hq; simp only [List.mem_cons, List.not_mem_nil, or_false] at hq ⊢; rcases hq with rfl | rfl | rfl | rfl | rfl <;> simp) ?_
                  exact J181_10758 trivial
                · refine g_iconst dX7_step_177 ?_
                  refine g_goto (tgt := 182) dX7_step_178 (by decide) ?_
                  refine g_istore (l1 := [(5, vI 1), (4, vI 0), (0, vR 111), (1, vI 0), (2, vI (P 111 3)), (3, vI (P 2 (H27_8581 111 3)))]) dX7_step_182 (by decide) rfl ?_
                  refine g_iload dX7_step_184 rfl ?_
                  have J217_10779 : ∀ (_ : True), Go WSX G 2 iX7_step 217 [(0, vR 111), (1, vI 0), (2, vI (P 111 3)), (4, vI 0)] [] (up (up (up (up H27_8581 111 5 (H27_8581 111 3)) 111 6 (H27_8581 111 3)) 111 8 (-1)) 111 7 0) Q := by
                    intro _
                    refine g_iload_n dX7_step_217 rfl ?_
                    have J237_10783 : ∀ (_ : True), Go WSX G 2 iX7_step 237 [(0, vR 111), (4, vI 0)] [] (up (up (up (up H27_8581 111 5 (H27_8581 111 3)) 111 6 (H27_8581 111 3)) 111 8 (-1)) 111 7 0) Q := by
                      intro _
                      refine g_iload dX7_step_237 rfl ?_
                      refine g_if_eq (tgt := 249) dX7_step_239 (by decide) (by decide) (fun k10785 => ?_) (fun k10785 => by exfalso; omega)
                      refine g_aload_n dX7_step_249 rfl ?_
                      refine g_vV (av := []) (o := 111) (st := []) (m_X7_stepNumber G (up (up (up (up H27_8581 111 5 (H27_8581 111 3)) 111 6 (H27_8581 111 3)) 111 8 (-1)) 111 7 0)  hB10621 (TX.fr (F := ([(46, 3), (46, 5), (46, 6), (46, 7), (46, 8)], [])) v_TX (FrX.s (FrX.s (FrX.s (FrX.s (FrX.c FrX.rf hE27_8581 rfl) (⟨by decide, rfl⟩ : kx 111 46) rfl) (⟨by decide, rfl⟩ : kx 111 46) rfl) (⟨by decide, rfl⟩ : kx 111 46) rfl) (⟨by decide, rfl⟩ : kx 111 46) rfl) rfl) _ (fun Pc10786 hBc10786 hFc10786 => ⟨rfl, ?_⟩)) cf_X7_stepNumber t_715 rfl (show kx 111 46 from (⟨by decide, rfl⟩ : kx 111 46)).1 ((show kx 111 46 from (⟨by decide, rfl⟩ : kx 111 46)).sh rfl) rfl rfl (Nat.le_of_ble_eq_true rfl) (by decide) rfl dX7_step_250
                      exact g_retV dX7_step_253 rfl (hQ _ hBc10786 (FrX.c (FrX.s (FrX.s (FrX.s (FrX.s (FrX.c FrX.rf hE27_8581 rfl) (⟨by decide, rfl⟩ : kx 111 46) rfl) (⟨by decide, rfl⟩ : kx 111 46) rfl) (⟨by decide, rfl⟩ : kx 111 46) rfl) (⟨by decide, rfl⟩ : kx 111 46) rfl) hFc10786 rfl) )
                    refine g_if_eq (tgt := 237) dX7_step_218 (by decide) (by decide) (fun k10787 => ?_) (fun k10787 => by exfalso; omega)
                    refine g_forget (l1 := [(0, vR 111), (4, vI 0)]) (by intro q hq; simp only [List.mem_cons, List.not_mem_nil, or_false] at hq ⊢; rcases hq with rfl | rfl <;> simp) ?_
                    exact J237_10783 trivial
                  refine g_if_ne (tgt := 217) dX7_step_186 (by decide) (by decide) (fun k10788 => by exfalso; omega) (fun k10788 => ?_)
                  refine g_iload dX7_step_189 rfl ?_
                  refine g_if_ne (tgt := 217) dX7_step_191 (by decide) (by decide) (fun k10789 => ?_) (fun k10789 => by exfalso; omega)
                  refine g_forget (l1 := [(0, vR 111), (1, vI 0), (2, vI (P 111 3)), (4, vI 0)]) (by intro q hq; simp only [List.mem_cons, List.not_mem_nil, or_false] at hq ⊢; rcases hq with rfl | rfl | rfl | rfl <;> simp) ?_
                  exact J217_10779 trivial
            refine g_icmp_lt (tgt := 162) dX7_step_149 (by decide) ⟨by have q0 := bx_2 (o := 2) (k := (H27_8581 111 3)) hB (⟨by decide, rfl⟩ : kx 2 2); omega, by have q0 := bx_2 (o := 2) (k := (H27_8581 111 3)) hB (⟨by decide, rfl⟩ : kx 2 2); omega⟩ (by decide) (fun k10790 => ?_) (fun k10790 => ?_)
            · refine g_forget (l1 := [(0, vR 111), (1, vI 0), (2, vI (P 111 3)), (3, vI (P 2 (H27_8581 111 3)))]) (by intro q hq; simp only [List.mem_cons, List.not_mem_nil, or_false] at hq ⊢; rcases hq with rfl | rfl | rfl | rfl <;> simp) ?_
              exact J162_10727 trivial
            · refine g_iload_n dX7_step_152 rfl ?_
              refine g_bipush dX7_step_153 (by decide) ?_
              refine g_icmp_gt (tgt := 162) dX7_step_155 (by decide) ⟨by have q0 := bx_2 (o := 2) (k := (H27_8581 111 3)) hB (⟨by decide, rfl⟩ : kx 2 2); omega, by have q0 := bx_2 (o := 2) (k := (H27_8581 111 3)) hB (⟨by decide, rfl⟩ : kx 2 2); omega⟩ (by decide) (fun k10791 => ?_) (fun k10791 => ?_)
              · refine g_forget (l1 := [(0, vR 111), (1, vI 0), (2, vI (P 111 3)), (3, vI (P 2 (H27_8581 111 3)))]) (by intro q hq; simp only [List.mem_cons, List.not_mem_nil, or_false] at hq ⊢; rcases hq with rfl | rfl | rfl | rfl <;> simp) ?_
                exact J162_10727 trivial
              · refine g_iconst dX7_step_158 ?_
                refine g_goto (tgt := 163) dX7_step_159 (by decide) ?_
                refine g_istore (l1 := [(4, vI 1), (3, vI (P 2 (H27_8581 111 3))), (0, vR 111), (1, vI 0), (2, vI (P 111 3))]) dX7_step_163 (by decide) rfl ?_
                refine g_iload_n dX7_step_165 rfl ?_
                refine g_bipush dX7_step_166 (by decide) ?_
                have J181_10810 : ∀ (_ : True), Go WSX G 2 iX7_step 181 [(0, vR 111), (1, vI 0), (2, vI (P 111 3)), (3, vI (P 2 (H27_8581 111 3))), (4, vI 1)] [] (up (up (up (up H27_8581 111 5 (H27_8581 111 3)) 111 6 (H27_8581 111 3)) 111 8 (-1)) 111 7 0) Q := by
                  intro _
                  refine g_iconst dX7_step_181 ?_
                  refine g_istore (l1 := [(5, vI 0), (0, vR 111), (1, vI 0), (2, vI (P 111 3)), (3, vI (P 2 (H27_8581 111 3))), (4, vI 1)]) dX7_step_182 (by decide) rfl ?_
                  refine g_iload dX7_step_184 rfl ?_
                  have J217_10819 : ∀ (_ : True), Go WSX G 2 iX7_step 217 [(0, vR 111), (1, vI 0), (2, vI (P 111 3)), (4, vI 1)] [] (up (up (up (up H27_8581 111 5 (H27_8581 111 3)) 111 6 (H27_8581 111 3)) 111 8 (-1)) 111 7 0) Q := by
                    intro _
                    refine g_iload_n dX7_step_217 rfl ?_
                    have J237_10823 : ∀ (_ : True), Go WSX G 2 iX7_step 237 [(0, vR 111), (4, vI 1)] [] (up (up (up (up H27_8581 111 5 (H27_8581 111 3)) 111 6 (H27_8581 111 3)) 111 8 (-1)) 111 7 0) Q := by
                      intro _
                      refine g_iload dX7_step_237 rfl ?_
                      refine g_if_eq (tgt := 249) dX7_step_239 (by decide) (by decide) (fun k10825 => by exfalso; omega) (fun k10825 => ?_)
                      refine g_aload_n dX7_step_242 rfl ?_
                      refine g_vV (av := []) (o := 111) (st := []) (m_X7_stepWord G (up (up (up (up H27_8581 111 5 (H27_8581 111 3)) 111 6 (H27_8581 111 3)) 111 8 (-1)) 111 7 0)  hB10621 (TX.fr (F := ([(46, 3), (46, 5), (46, 6), (46, 7), (46, 8)], [])) v_TX (FrX.s (FrX.s (FrX.s (FrX.s (FrX.c FrX.rf hE27_8581 rfl) (⟨by decide, rfl⟩ : kx 111 46) rfl) (⟨by decide, rfl⟩ : kx 111 46) rfl) (⟨by decide, rfl⟩ : kx 111 46) rfl) (⟨by decide, rfl⟩ : kx 111 46) rfl) rfl) _ (fun Pc10826 hBc10826 hFc10826 => ⟨rfl, ?_⟩)) cf_X7_stepWord t_711 rfl (show kx 111 46 from (⟨by decide, rfl⟩ : kx 111 46)).1 ((show kx 111 46 from (⟨by decide, rfl⟩ : kx 111 46)).sh rfl) rfl rfl (Nat.le_of_ble_eq_true rfl) (by decide) rfl dX7_step_243
                      refine g_goto (tgt := 253) dX7_step_246 (by decide) ?_
                      exact g_retV dX7_step_253 rfl (hQ _ hBc10826 (FrX.c (FrX.s (FrX.s (FrX.s (FrX.s (FrX.c FrX.rf hE27_8581 rfl) (⟨by decide, rfl⟩ : kx 111 46) rfl) (⟨by decide, rfl⟩ : kx 111 46) rfl) (⟨by decide, rfl⟩ : kx 111 46) rfl) (⟨by decide, rfl⟩ : kx 111 46) rfl) hFc10826 rfl) )
                    refine g_if_eq (tgt := 237) dX7_step_218 (by decide) (by decide) (fun k10827 => ?_) (fun k10827 => by exfalso; omega)
                    refine g_forget (l1 := [(0, vR 111), (4, vI 1)]) (by intro q hq; simp only [List.mem_cons, List.not_mem_nil, or_false] at hq ⊢; rcases hq with rfl | rfl <;> simp) ?_
                    exact J237_10823 trivial
                  refine g_if_ne (tgt := 217) dX7_step_186 (by decide) (by decide) (fun k10828 => ?_) (fun k10828 => by exfalso; omega)
                  refine g_forget (l1 := [(0, vR 111), (1, vI 0), (2, vI (P 111 3)), (4, vI 1)]) (by intro q hq; simp only [List.mem_cons, List.not_mem_nil, or_false] at hq ⊢; rcases hq with rfl | rfl | rfl | rfl <;> simp) ?_
                  exact J217_10819 trivial
                refine g_icmp_lt (tgt := 181) dX7_step_168 (by decide) ⟨by have q0 := bx_2 (o := 2) (k := (H27_8581 111 3)) hB (⟨by decide, rfl⟩ : kx 2 2); omega, by have q0 := bx_2 (o := 2) (k := (H27_8581 111 3)) hB (⟨by decide, rfl⟩ : kx 2 2); omega⟩ (by decide) (fun k10829 => by exfalso; have q0 := bx_2 (o := 2) (k := (H27_8581 111 3)) hB (⟨by decide, rfl⟩ : kx 2 2); omega) (fun k10829 => ?_)
                refine g_iload_n dX7_step_171 rfl ?_
                refine g_bipush dX7_step_172 (by decide) ?_
                refine g_icmp_gt (tgt := 181) dX7_step_174 (by decide) ⟨by have q0 := bx_2 (o := 2) (k := (H27_8581 111 3)) hB (⟨by decide, rfl⟩ : kx 2 2); omega, by have q0 := bx_2 (o := 2) (k := (H27_8581 111 3)) hB (⟨by decide, rfl⟩ : kx 2 2); omega⟩ (by decide) (fun k10830 => ?_) (fun k10830 => by exfalso; have q0 := bx_2 (o := 2) (k := (H27_8581 111 3)) hB (⟨by decide, rfl⟩ : kx 2 2); omega)
                refine g_forget (l1 := [(0, vR 111), (1, vI 0), (2, vI (P 111 3)), (3, vI (P 2 (H27_8581 111 3))), (4, vI 1)]) (by intro q hq; simp only [List.mem_cons, List.not_mem_nil, or_false] at hq ⊢; rcases hq with rfl | rfl | rfl | rfl | rfl <;> simp) ?_
                exact J181_10810 trivial
          · refine g_aload_n dX7_step_130 rfl ?_
            refine g_iconst dX7_step_131 ?_
            refine x_p46_4 (⟨by decide, rfl⟩ : kx 111 46) pfX7_75 dX7_step_132 ?_
            have hB10831 := by_46_4 (z := 0) hB10621 (⟨by decide, rfl⟩ : kx 111 46) (by decide)
            exact g_retV dX7_step_135 rfl (hQ _ hB10831 (FrX.s (FrX.s (FrX.s (FrX.s (FrX.s (FrX.c FrX.rf hE27_8581 rfl) (⟨by decide, rfl⟩ : kx 111 46) rfl) (⟨by decide, rfl⟩ : kx 111 46) rfl) (⟨by decide, rfl⟩ : kx 111 46) rfl) (⟨by decide, rfl⟩ : kx 111 46) rfl) (⟨by decide, rfl⟩ : kx 111 46) rfl) )
        refine g_if_lt (tgt := 86) dX7_step_31 (by decide) ⟨by have q0 := bx_46_3 (o := 111) hB27_8581 (⟨by decide, rfl⟩ : kx 111 46); omega, by have q0 := bx_46_3 (o := 111) hB27_8581 (⟨by decide, rfl⟩ : kx 111 46); omega⟩ (fun k10832 => by exfalso; have q0 := bx_46_3 (o := 111) hB27_8581 (⟨by decide, rfl⟩ : kx 111 46); omega) (fun k10832 => ?_)
        refine g_aload_n dX7_step_34 rfl ?_
        refine x_g46_3 (z := (H27_8581 111 3)) (⟨by decide, rfl⟩ : kx 111 46) ffX7_72 dX7_step_35 rfl ?_
        refine g_aload_n dX7_step_38 rfl ?_
        refine x_g46_2 (z := (P 111 2)) (⟨by decide, rfl⟩ : kx 111 46) ffX7_71 dX7_step_39 ((FrX.g hE27_8581 (⟨by decide, rfl⟩ : kx 111 46) rfl).trans rfl) ?_
        have f10833 := bx_46_2 (o := 111) hB (⟨by decide, rfl⟩ : kx 111 46)
        refine g_icmp_ge (tgt := 86) dX7_step_42 (by decide) ⟨by have q0 := bx_46_3 (o := 111) hB27_8581 (⟨by decide, rfl⟩ : kx 111 46); omega, by have q0 := bx_46_3 (o := 111) hB27_8581 (⟨by decide, rfl⟩ : kx 111 46); omega⟩ ⟨by have q0 := bx_46_2 (o := 111) hB (⟨by decide, rfl⟩ : kx 111 46); omega, by have q0 := bx_46_2 (o := 111) hB (⟨by decide, rfl⟩ : kx 111 46); omega⟩ (fun k10834 => ?_) (fun k10834 => ?_)
        · refine g_forget (l1 := [(0, vR 111), (1, vI 0), (2, vI (P 111 3))]) (by intro q hq; simp only [List.mem_cons, List.not_mem_nil, or_false] at hq ⊢; rcases hq with rfl | rfl | rfl <;> simp) ?_
          exact J86_10616 trivial
        · refine g_aload_n dX7_step_45 rfl ?_
          refine x_g46_1 (n := 2) (⟨by decide, rfl⟩ : kx 111 46) ffX7_41 dX7_step_46 (TX.fr (F := ([(46, 3)], [])) v_TX (FrX.c FrX.rf hE27_8581 rfl) rfl) ?_
          refine g_aload_n dX7_step_49 rfl ?_
          refine x_g46_3 (z := (H27_8581 111 3)) (⟨by decide, rfl⟩ : kx 111 46) ffX7_72 dX7_step_50 rfl ?_
          refine x_l2 (z := (P 2 (H27_8581 111 3))) (⟨by decide, rfl⟩ : kx 2 2) dX7_step_53 ⟨by have q0 := bx_46_3 (o := 111) hB27_8581 (⟨by decide, rfl⟩ : kx 111 46); omega, by have q0 := bx_46_3 (o := 111) hB27_8581 (⟨by decide, rfl⟩ : kx 111 46); omega⟩ ((FrX.g hE27_8581 (⟨by decide, rfl⟩ : kx 2 2) rfl).trans rfl) ?_
          refine g_bipush dX7_step_54 (by decide) ?_
          have f10835 := bx_2 (o := 2) (k := (H27_8581 111 3)) hB (⟨by decide, rfl⟩ : kx 2 2)
          have J73_10838 : ∀ (_ : True), Go WSX G 2 iX7_step 73 [(0, vR 111), (1, vI 0), (2, vI (P 111 3))] [] H27_8581 Q := by
            intro _
            refine g_aload_n dX7_step_73 rfl ?_
            refine g_dup dX7_step_74 rfl ?_
            refine x_g46_3 (z := (H27_8581 111 3)) (⟨by decide, rfl⟩ : kx 111 46) ffX7_72 dX7_step_75 rfl ?_
            refine g_iconst dX7_step_78 ?_
            refine g_iadd dX7_step_79 ?_
            refine x_p46_3 (⟨by decide, rfl⟩ : kx 111 46) pfX7_72 dX7_step_80 ?_
            have hB10840 := by_46_3 (z := ((H27_8581 111 3) + 1)) hB27_8581 (⟨by decide, rfl⟩ : kx 111 46) ⟨by have q0 := bx_46_3 (o := 111) hB27_8581 (⟨by decide, rfl⟩ : kx 111 46); omega, by have q0 := bx_46_3 (o := 111) hB27_8581 (⟨by decide, rfl⟩ : kx 111 46); omega⟩
            refine g_goto (tgt := 27) dX7_step_83 (by decide) ?_
            refine g_forget (l1 := [(0, vR 111), (1, vI 0), (2, vI (P 111 3))]) (by intro q hq; simp only [List.mem_cons, List.not_mem_nil, or_false] at hq ⊢; rcases hq with rfl | rfl | rfl <;> simp) ?_
            exact ih27_8581 _ hB10840 (FrX.s (FrX.c FrX.rf hE27_8581 rfl) (⟨by decide, rfl⟩ : kx 111 46) rfl) (by have q0 := (up_same : (up H27_8581 111 3 ((H27_8581 111 3) + 1)) 111 3 = ((H27_8581 111 3) + 1)); have q1 := bx_46_3 (o := 111) hB27_8581 (⟨by decide, rfl⟩ : kx 111 46); omega)
          refine g_icmp_eq (tgt := 73) dX7_step_56 (by decide) ⟨by have q0 := bx_2 (o := 2) (k := (H27_8581 111 3)) hB (⟨by decide, rfl⟩ : kx 2 2); omega, by have q0 := bx_2 (o := 2) (k := (H27_8581 111 3)) hB (⟨by decide, rfl⟩ : kx 2 2); omega⟩ (by decide) (fun k10841 => ?_) (fun k10841 => ?_)
          · refine g_forget (l1 := [(0, vR 111), (1, vI 0), (2, vI (P 111 3))]) (by intro q hq; simp only [List.mem_cons, List.not_mem_nil, or_false] at hq ⊢; rcases hq with rfl | rfl | rfl <;> simp) ?_
            exact J73_10838 trivial
          · refine g_aload_n dX7_step_59 rfl ?_
            refine x_g46_1 (n := 2) (⟨by decide, rfl⟩ : kx 111 46) ffX7_41 dX7_step_60 (TX.fr (F := ([(46, 3)], [])) v_TX (FrX.c FrX.rf hE27_8581 rfl) rfl) ?_
            refine g_aload_n dX7_step_63 rfl ?_
            refine x_g46_3 (z := (H27_8581 111 3)) (⟨by decide, rfl⟩ : kx 111 46) ffX7_72 dX7_step_64 rfl ?_
            refine x_l2 (z := (P 2 (H27_8581 111 3))) (⟨by decide, rfl⟩ : kx 2 2) dX7_step_67 ⟨by have q0 := bx_46_3 (o := 111) hB27_8581 (⟨by decide, rfl⟩ : kx 111 46); omega, by have q0 := bx_46_3 (o := 111) hB27_8581 (⟨by decide, rfl⟩ : kx 111 46); omega⟩ ((FrX.g hE27_8581 (⟨by decide, rfl⟩ : kx 2 2) rfl).trans rfl) ?_
            refine g_bipush dX7_step_68 (by decide) ?_
            refine g_icmp_ne (tgt := 86) dX7_step_70 (by decide) ⟨by have q0 := bx_2 (o := 2) (k := (H27_8581 111 3)) hB (⟨by decide, rfl⟩ : kx 2 2); omega, by have q0 := bx_2 (o := 2) (k := (H27_8581 111 3)) hB (⟨by decide, rfl⟩ : kx 2 2); omega⟩ (by decide) (fun k10842 => ?_) (fun k10842 => ?_)
            · refine g_forget (l1 := [(0, vR 111), (1, vI 0), (2, vI (P 111 3))]) (by intro q hq; simp only [List.mem_cons, List.not_mem_nil, or_false] at hq ⊢; rcases hq with rfl | rfl | rfl <;> simp) ?_
              exact J86_10616 trivial
            · refine g_forget (l1 := [(0, vR 111), (1, vI 0), (2, vI (P 111 3))]) (by intro q hq; simp only [List.mem_cons, List.not_mem_nil, or_false] at hq ⊢; rcases hq with rfl | rfl | rfl <;> simp) ?_
              exact J73_10838 trivial
      refine g_forget (l1 := [(0, vR 111), (1, vI 0), (2, vI (P 111 3))]) (by intro q hq; simp only [List.mem_cons, List.not_mem_nil, or_false] at hq ⊢; rcases hq with rfl | rfl | rfl <;> simp) ?_
      exact L27_8581 _ _ hB FrX.rf (Nat.lt_succ_self _)
    · refine g_forget (l1 := [(0, vR 111)]) (by intro q hq; simp only [List.mem_cons, List.not_mem_nil, or_false] at hq ⊢; rcases hq with rfl <;> simp) ?_
      exact J16_5421 trivial
set_option maxRecDepth 100000 in
set_option maxHeartbeats 4000000 in
theorem m_X7_begin_B16 (G : GT) (P : PH) (hB : BdX P) (Q : Option PV → PH → Prop) (hQ : ∀ (P1 : PH) (_ : BdX P1) (_ : FrX ([(46, 1), (46, 2), (46, 3), (46, 4), (46, 5), (46, 6), (46, 7), (46, 8)], []) P P1) (_ : TX P1), Q none P1) : Ct WSX G 3 iX7_begin [vR 111, vR 1] P Q := by
  refine Ct.of (by decide) (l0 := [(0, vR 111), (1, vR 1)]) rfl (Nat.le_of_ble_eq_true rfl) ?_
  refine g_aload_n dX7_begin_0 rfl ?_
  refine g_aload_n dX7_begin_1 rfl ?_
  refine x_g1_0 (n := 2) (⟨by decide, rfl⟩ : kx 1 1) ffX7_54 dX7_begin_2 rfl ?_
  refine x_p46_1 (⟨by decide, rfl⟩ : kx 111 46) pfX7_41 dX7_begin_5 ?_
  have hB1 := bw_111_1 (x := 2) hB
  have iv2 : TX (up P 111 1 ((2 : Nat) : Int)) := up_same
  refine g_aload_n dX7_begin_8 rfl ?_
  refine g_iconst dX7_begin_9 ?_
  refine g_aload_n dX7_begin_10 rfl ?_
  refine x_g1_1 (z := (P 1 1)) (⟨by decide, rfl⟩ : kx 1 1) ffX7_59 dX7_begin_11 ((up_o (kx.ne (⟨by decide, rfl⟩ : kx 1 1) (⟨by decide, rfl⟩ : kx 111 46) rfl)).trans rfl) ?_
  refine g_aload_n dX7_begin_14 rfl ?_
  refine x_g46_1 (n := 2) (⟨by decide, rfl⟩ : kx 111 46) ffX7_41 dX7_begin_15 up_same ?_
  refine x_n2 (⟨by decide, rfl⟩ : kx 2 2) dX7_begin_18 ?_
  have f3 := bx_1_1 (o := 1) hB (⟨by decide, rfl⟩ : kx 1 1)
  refine g_sI (av := [vI (P 1 1), vI 1600]) (st := [vI 0, vR 111]) (m_J9_min_7cf53 G (up P 111 1 ((2 : Nat) : Int)) (P 1 1) 1600 ⟨by have q0 := bx_1_1 (o := 1) hB (⟨by decide, rfl⟩ : kx 1 1); omega, by have q0 := bx_1_1 (o := 1) hB (⟨by decide, rfl⟩ : kx 1 1); omega⟩ (by decide) hB1  _ (fun rc4 hc4 gc4_m => ⟨rc4, rfl, ?_⟩)) cf_J9_min_7cf53 t_703 rfl (Nat.le_of_ble_eq_true rfl) (by decide) rfl dX7_begin_19
  refine g_sI (av := [vI 0, vI rc4]) (st := [vR 111]) (m_J9_max_7cf53 G (up P 111 1 ((2 : Nat) : Int)) 0 rc4 (by decide) ⟨by omega, by omega⟩ hB1  _ (fun rc5 hc5 gc5_m => ⟨rc5, rfl, ?_⟩)) cf_J9_max_7cf53 t_706 rfl (Nat.le_of_ble_eq_true rfl) (by decide) rfl dX7_begin_22
  refine x_p46_2 (⟨by decide, rfl⟩ : kx 111 46) pfX7_71 dX7_begin_25 ?_
  have hB6 := by_46_2 (z := rc5) hB1 (⟨by decide, rfl⟩ : kx 111 46) ⟨by omega, by omega⟩
  refine g_aload_n dX7_begin_28 rfl ?_
  refine g_iconst dX7_begin_29 ?_
  refine x_p46_3 (⟨by decide, rfl⟩ : kx 111 46) pfX7_72 dX7_begin_30 ?_
  have hB7 := by_46_3 (z := 0) hB6 (⟨by decide, rfl⟩ : kx 111 46) (by decide)
  refine g_aload_n dX7_begin_33 rfl ?_
  refine g_iconst dX7_begin_34 ?_
  refine x_p46_4 (⟨by decide, rfl⟩ : kx 111 46) pfX7_75 dX7_begin_35 ?_
  have hB8 := by_46_4 (z := 0) hB7 (⟨by decide, rfl⟩ : kx 111 46) (by decide)
  refine g_aload_n dX7_begin_38 rfl ?_
  refine g_vV (av := []) (o := 111) (st := []) (m_X7_step G (up (up (up (up P 111 1 ((2 : Nat) : Int)) 111 2 rc5) 111 3 0) 111 4 0)  hB8 (TX.fr (F := ([(46, 2), (46, 3), (46, 4)], [])) iv2 (FrX.s (FrX.s (FrX.s FrX.rf (⟨by decide, rfl⟩ : kx 111 46) rfl) (⟨by decide, rfl⟩ : kx 111 46) rfl) (⟨by decide, rfl⟩ : kx 111 46) rfl) rfl) _ (fun Pc9 hBc9 hFc9 => ⟨rfl, ?_⟩)) cf_X7_step t_707 rfl (show kx 111 46 from (⟨by decide, rfl⟩ : kx 111 46)).1 ((show kx 111 46 from (⟨by decide, rfl⟩ : kx 111 46)).sh rfl) rfl rfl (Nat.le_of_ble_eq_true rfl) (by decide) rfl dX7_begin_39
  exact g_retV dX7_begin_42 rfl (hQ _ hBc9 (FrX.c (FrX.s (FrX.s (FrX.s (FrX.s FrX.rf (⟨by decide, rfl⟩ : kx 111 46) rfl) (⟨by decide, rfl⟩ : kx 111 46) rfl) (⟨by decide, rfl⟩ : kx 111 46) rfl) (⟨by decide, rfl⟩ : kx 111 46) rfl) hFc9 rfl) (TX.fr (F := ([(46, 2), (46, 3), (46, 4), (46, 5), (46, 6), (46, 7), (46, 8)], [])) iv2 (FrX.c (FrX.s (FrX.s (FrX.s FrX.rf (⟨by decide, rfl⟩ : kx 111 46) rfl) (⟨by decide, rfl⟩ : kx 111 46) rfl) (⟨by decide, rfl⟩ : kx 111 46) rfl) hFc9 rfl) rfl))
end
