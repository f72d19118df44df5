/-! Contracts of the reference: m1. -/
set_option maxRecDepth 100000 in
set_option maxHeartbeats 4000000 in
theorem m_X12_is (G : GT) (P : PH) (a1 : Int) (a2 : Int) (a3 : Int) (h_a1 : (-2147483648) ≤ a1 ∧ a1 ≤ 2147483647) (h_a2 : (-2147483648) ≤ a2 ∧ a2 ≤ 2147483647) (h_a3 : (-2147483648) ≤ a3 ∧ a3 ≤ 2147483647) (hB : BdM P) (Q : Option PV → PH → Prop) (hQ : ∀ (r : Int) (_ : 0 ≤ r ∧ r ≤ 1) (_ : (r = 1 ∧ a2 ≤ a1 ∧ a1 ≤ a3) ∨ (r = 0 ∧ (a1 < a2 ∨ a3 < a1))), Q (some (vI r)) P) : Ct WSM G 1 iX12_is [vI a1, vI a2, vI a3] P Q := by
  refine Ct.of (by decide) (l0 := [(0, vI a1), (1, vI a2), (2, vI a3)]) rfl (Nat.le_of_ble_eq_true rfl) ?_
  refine g_iload_n dX12_is_0 rfl ?_
  refine g_iload_n dX12_is_1 rfl ?_
  refine g_icmp_lt (tgt := 14) dX12_is_2 (by decide) ⟨by omega, by omega⟩ ⟨by omega, by omega⟩ (fun k1 => ?_) (fun k1 => ?_)
  · refine g_iconst dX12_is_14 ?_
    exact g_retZ dX12_is_15 rfl (by decide) (hQ 0 (by decide) (by omega))
  · refine g_iload_n dX12_is_5 rfl ?_
    refine g_iload_n dX12_is_6 rfl ?_
    refine g_icmp_gt (tgt := 14) dX12_is_7 (by decide) ⟨by omega, by omega⟩ ⟨by omega, by omega⟩ (fun k2 => ?_) (fun k2 => ?_)
    · refine g_iconst dX12_is_14 ?_
      exact g_retZ dX12_is_15 rfl (by decide) (hQ 0 (by decide) (by omega))
    · refine g_iconst dX12_is_10 ?_
      refine g_goto (tgt := 15) dX12_is_11 (by decide) ?_
      exact g_retZ dX12_is_15 rfl (by decide) (hQ 1 (by decide) (by omega))
set_option maxRecDepth 100000 in
set_option maxHeartbeats 4000000 in
theorem m_X12_put (G : GT) (P : PH) (a1 : Int) (h_a1 : (-2147483648) ≤ a1 ∧ a1 ≤ 2147483647) (hB : BdM P) (p_t : P 0 1 ≤ 1596) (Q : Option PV → PH → Prop) (hQ : ∀ (P1 : PH) (_ : BdM P1) (_ : FrM ([1], [1]) P P1) (_ : P1 0 1 = P 0 1 + 4), Q none P1) : Ct WSM G 1 iX12_put [vR 0, vI a1] P Q := by
  refine Ct.of (by decide) (l0 := [(0, vR 0), (1, vI a1)]) rfl (Nat.le_of_ble_eq_true rfl) ?_
  refine g_bipush dX12_put_0 (by decide) ?_
  refine g_istore_n (l1 := [(2, vI 24), (0, vR 0), (1, vI a1)]) dX12_put_2 (by decide) rfl ?_
  have L3_0 : ∀ (n3_0 : Nat) (x3_2_0 : Int) (h_x3_2_0 : (-8) ≤ x3_2_0 ∧ x3_2_0 ≤ 24) (H3_0 : PH) (hB3_0 : BdM H3_0) (hE3_0 : FrM ([1], [1]) P H3_0) (i3_0_0 : H3_0 0 1 = P 0 1 + (24 - x3_2_0) / 8) (i3_1_0 : x3_2_0 % 8 = 0) (hm3_0 : (x3_2_0 + 9 : Int).toNat < n3_0), Go WSM G 1 iX12_put 3 [(0, vR 0), (1, vI a1), (2, vI x3_2_0)] [] H3_0 Q := by
    intro n3_0
    induction n3_0 with
    | zero => intro x3_2_0 h_x3_2_0 H3_0 hB3_0 hE3_0 i3_0_0 i3_1_0 hm3_0; exact absurd hm3_0 (Nat.not_lt_zero _)
    | succ n3_0 ih3_0 =>
    intro x3_2_0 h_x3_2_0 H3_0 hB3_0 hE3_0 i3_0_0 i3_1_0 hm3_0
    refine g_iload_n dX12_put_3 rfl ?_
    refine g_if_lt (tgt := 39) dX12_put_4 (by decide) ⟨by omega, by omega⟩ (fun k22 => ?_) (fun k22 => ?_)
    · exact g_retV dX12_put_39 rfl (hQ _ hB3_0 (FrM.c FrM.rf hE3_0 rfl) (by have q0 := b0_1 hB3_0; omega))
    · refine g_aload_n dX12_put_7 rfl ?_
      refine m_g0 rfl dX12_put_8 ?_
      refine g_aload_n dX12_put_11 rfl ?_
      refine m_g1 (z := (H3_0 0 1)) rfl dX12_put_12 rfl ?_
      refine g_iload_n dX12_put_15 rfl ?_
      refine g_iload_n dX12_put_16 rfl ?_
      refine g_ishr dX12_put_17 ?_
      refine g_nm (fun b23 e_b23 => ?_)
      have h_b23 := ishr_ir a1 x3_2_0
      rw [← e_b23] at h_b23
      refine g_sipush dX12_put_18 (by decide) ?_
      refine g_iand dX12_put_21 ?_
      refine g_nm (fun b24 e_b24 => ?_)
      have h_b24 := iand_r (x := b23) (y := 255) ⟨by omega, by omega⟩
      rw [← e_b24] at h_b24
      refine m_s1 dX12_put_22 ⟨by have q0 := b0_1 hB3_0; omega, by have q0 := b0_1 hB3_0; omega⟩ ?_
      have hB25 := ba_1 (z := b24) (k := (H3_0 0 1)) hB3_0 ⟨by omega, by omega⟩
      refine g_aload_n dX12_put_23 rfl ?_
      refine g_dup dX12_put_24 rfl ?_
      refine m_g1 (z := (H3_0 0 1)) rfl dX12_put_25 ((up_o (by decide)).trans rfl) ?_
      refine g_iconst dX12_put_28 ?_
      refine g_iadd dX12_put_29 ?_
      refine m_p1 rfl dX12_put_30 ?_
      have hB26 := bs_1 (z := ((H3_0 0 1) + 1)) hB25 ⟨by have q0 := b0_1 hB3_0; omega, by have q0 := b0_1 hB3_0; omega⟩
      refine g_iinc (l1 := [(2, vI (x3_2_0 + (-8))), (0, vR 0), (1, vI a1)]) dX12_put_33 rfl (by decide) rfl ?_
      refine g_goto (tgt := 3) dX12_put_36 (by decide) ?_
      refine g_forget (l1 := [(0, vR 0), (1, vI a1), (2, vI (x3_2_0 + (-8)))]) (by intro q hq; simp only [List.mem_cons, List.not_mem_nil, or_false] at hq ⊢; rcases hq with rfl | rfl | rfl <;> simp) ?_
      exact ih3_0 (x3_2_0 + (-8)) ⟨by omega, by omega⟩ _ hB26 (FrM.s (FrM.a (FrM.c FrM.rf hE3_0 rfl) rfl rfl) rfl) (by have q0 := (up_same : (up (up H3_0 1 (H3_0 0 1) b24) 0 1 ((H3_0 0 1) + 1)) 0 1 = ((H3_0 0 1) + 1)); have q1 := b0_1 hB3_0; omega) (by omega) (by omega)
  refine g_forget (l1 := [(0, vR 0), (1, vI a1), (2, vI 24)]) (by intro q hq; simp only [List.mem_cons, List.not_mem_nil, or_false] at hq ⊢; rcases hq with rfl | rfl | rfl <;> simp) ?_
  exact L3_0 _ 24 (by decide) _ hB FrM.rf (by have q0 := b0_1 hB; omega) (by omega) (Nat.lt_succ_self _)
set_option maxRecDepth 100000 in
set_option maxHeartbeats 4000000 in
theorem m_X12_blame (G : GT) (P : PH) (a1 : Int) (a2 : Int) (h_a1 : 0 ≤ a1 ∧ a1 ≤ 6) (h_a2 : (-1) ≤ a2 ∧ a2 ≤ 1600) (hB : BdM P) (Q : Option PV → PH → Prop) (hQ : ∀ (P1 : PH) (_ : BdM P1) (_ : FrM ([8, 9], []) P P1) (_ : 0 < P1 0 8 ∨ a1 ≤ 0) (_ : P 0 8 ≤ 0 ∨ 0 < P1 0 8), Q none P1) : Ct WSM G 1 iX12_blame [vR 0, vI a1, vI a2] P Q := by
  refine Ct.of (by decide) (l0 := [(0, vR 0), (1, vI a1), (2, vI a2)]) rfl (Nat.le_of_ble_eq_true rfl) ?_
  refine g_aload_n dX12_blame_0 rfl ?_
  refine m_g8 (z := (P 0 8)) rfl dX12_blame_1 rfl ?_
  have f1 := b0_8 hB
  refine g_if_le (tgt := 8) dX12_blame_4 (by decide) ⟨by have q0 := b0_8 hB; omega, by have q0 := b0_8 hB; omega⟩ (fun k2 => ?_) (fun k2 => ?_)
  · refine g_aload_n dX12_blame_8 rfl ?_
    refine g_iload_n dX12_blame_9 rfl ?_
    refine m_p8 rfl dX12_blame_10 ?_
    have hB3 := bs_8 (z := a1) hB ⟨by omega, by omega⟩
    refine g_aload_n dX12_blame_13 rfl ?_
    refine g_iload_n dX12_blame_14 rfl ?_
    refine m_p9 rfl dX12_blame_15 ?_
    have hB4 := bs_9 (z := a2) hB3 ⟨by omega, by omega⟩
    exact g_retV dX12_blame_18 rfl (hQ _ hB4 (FrM.s (FrM.s FrM.rf rfl) rfl) (by have q0 := (((up_k (by decide)).trans up_same) : (up (up P 0 8 a1) 0 9 a2) 0 8 = a1); omega) (by have q0 := (((up_k (by decide)).trans up_same) : (up (up P 0 8 a1) 0 9 a2) 0 8 = a1); omega))
  · exact g_retV dX12_blame_7 rfl (hQ _ hB FrM.rf (by have q0 := b0_8 hB; omega) (by have q0 := b0_8 hB; omega))
set_option maxRecDepth 100000 in
set_option maxHeartbeats 4000000 in
theorem m_X12_isLetter (G : GT) (P : PH) (a1 : Int) (h_a1 : (-2147483648) ≤ a1 ∧ a1 ≤ 2147483647) (hB : BdM P) (Q : Option PV → PH → Prop) (hQ : ∀ (r : Int) (_ : 0 ≤ r ∧ r ≤ 1) (_ : r = 1 ↔ 97 ≤ a1 ∧ a1 ≤ 122), Q (some (vI r)) P) : Ct WSM G 1 iX12_isLetter [vI a1] P Q := by
  refine Ct.of (by decide) (l0 := [(0, vI a1)]) rfl (Nat.le_of_ble_eq_true rfl) ?_
  refine g_iload_n dX12_isLetter_0 rfl ?_
  refine g_bipush dX12_isLetter_1 (by decide) ?_
  refine g_icmp_lt (tgt := 16) dX12_isLetter_3 (by decide) ⟨by omega, by omega⟩ (by decide) (fun k1 => ?_) (fun k1 => ?_)
  · refine g_iconst dX12_isLetter_16 ?_
    exact g_retZ dX12_isLetter_17 rfl (by decide) (hQ 0 (by decide) (by omega))
  · refine g_iload_n dX12_isLetter_6 rfl ?_
    refine g_bipush dX12_isLetter_7 (by decide) ?_
    refine g_icmp_gt (tgt := 16) dX12_isLetter_9 (by decide) ⟨by omega, by omega⟩ (by decide) (fun k2 => ?_) (fun k2 => ?_)
    · refine g_iconst dX12_isLetter_16 ?_
      exact g_retZ dX12_isLetter_17 rfl (by decide) (hQ 0 (by decide) (by omega))
    · refine g_iconst dX12_isLetter_12 ?_
      refine g_goto (tgt := 17) dX12_isLetter_13 (by decide) ?_
      exact g_retZ dX12_isLetter_17 rfl (by decide) (hQ 1 (by decide) (by omega))
set_option maxRecDepth 100000 in
set_option maxHeartbeats 4000000 in
theorem m_X12_isDigit (G : GT) (P : PH) (a1 : Int) (h_a1 : (-2147483648) ≤ a1 ∧ a1 ≤ 2147483647) (hB : BdM P) (Q : Option PV → PH → Prop) (hQ : ∀ (r : Int) (_ : 0 ≤ r ∧ r ≤ 1) (_ : r = 1 ↔ 48 ≤ a1 ∧ a1 ≤ 57), Q (some (vI r)) P) : Ct WSM G 1 iX12_isDigit [vI a1] P Q := by
  refine Ct.of (by decide) (l0 := [(0, vI a1)]) rfl (Nat.le_of_ble_eq_true rfl) ?_
  refine g_iload_n dX12_isDigit_0 rfl ?_
  refine g_bipush dX12_isDigit_1 (by decide) ?_
  refine g_icmp_lt (tgt := 16) dX12_isDigit_3 (by decide) ⟨by omega, by omega⟩ (by decide) (fun k1 => ?_) (fun k1 => ?_)
  · refine g_iconst dX12_isDigit_16 ?_
    exact g_retZ dX12_isDigit_17 rfl (by decide) (hQ 0 (by decide) (by omega))
  · refine g_iload_n dX12_isDigit_6 rfl ?_
    refine g_bipush dX12_isDigit_7 (by decide) ?_
    refine g_icmp_gt (tgt := 16) dX12_isDigit_9 (by decide) ⟨by omega, by omega⟩ (by decide) (fun k2 => ?_) (fun k2 => ?_)
    · refine g_iconst dX12_isDigit_16 ?_
      exact g_retZ dX12_isDigit_17 rfl (by decide) (hQ 0 (by decide) (by omega))
    · refine g_iconst dX12_isDigit_12 ?_
      refine g_goto (tgt := 17) dX12_isDigit_13 (by decide) ?_
      exact g_retZ dX12_isDigit_17 rfl (by decide) (hQ 1 (by decide) (by omega))
set_option maxRecDepth 100000 in
set_option maxHeartbeats 4000000 in
theorem m_X12_lex (G : GT) (P : PH) (hB : BdM P) (Q : Option PV → PH → Prop) (hQ : ∀ (P1 : PH) (_ : BdM P1) (_ : FrM ([8, 9], []) P P1) (_ : P 0 8 ≤ 0 ∨ 0 < P1 0 8), Q none P1) : Ct WSM G 2 iX12_lex [vR 0] P Q := by
  refine Ct.of (by decide) (l0 := [(0, vR 0)]) rfl (Nat.le_of_ble_eq_true rfl) ?_
  refine g_aload_n dX12_lex_0 rfl ?_
  refine m_g12 (z := (P 0 12)) rfl dX12_lex_1 rfl ?_
  refine g_iconst dX12_lex_4 ?_
  have f1 := b0_12 hB
  refine g_icmp_eq (tgt := 17) dX12_lex_5 (by decide) ⟨by have q0 := b0_12 hB; omega, by have q0 := b0_12 hB; omega⟩ (by decide) (fun k2 => ?_) (fun k2 => ?_)
  · exact g_retV dX12_lex_17 rfl (hQ _ hB FrM.rf (by have q0 := b0_8 hB; omega))
  · refine g_aload_n dX12_lex_8 rfl ?_
    refine g_iconst dX12_lex_9 ?_
    refine g_aload_n dX12_lex_10 rfl ?_
    refine m_g12 (z := (P 0 12)) rfl dX12_lex_11 rfl ?_
    refine g_vV (av := [vI 1, vI (P 0 12)]) (o := 0) (st := []) (m_X12_blame G P 1 (P 0 12) (by decide) ⟨by have q0 := b0_12 hB; omega, by have q0 := b0_12 hB; omega⟩ hB  _ (fun Pc3 hBc3 hFc3 gc3_f gc3_pe => ⟨rfl, ?_⟩)) cf_X12_blame t_1701 rfl (by decide) rfl rfl rfl (Nat.le_of_ble_eq_true rfl) (by decide) rfl dX12_lex_14
    exact g_retV dX12_lex_17 rfl (hQ _ hBc3 (FrM.c FrM.rf hFc3 rfl) (by have q0 := b0_8 hBc3; omega))
set_option maxRecDepth 100000 in
set_option maxHeartbeats 4000000 in
theorem m_X12_isSign (G : GT) (P : PH) (a1 : Int) (h_a1 : (-2147483648) ≤ a1 ∧ a1 ≤ 2147483647) (hB : BdM P) (Q : Option PV → PH → Prop) (hQ : ∀ (r : Int) (_ : 0 ≤ r ∧ r ≤ 1) (_ : r = 0 ∨ (P 0 3 = 3 ∧ P 0 6 = a1)), Q (some (vI r)) P) : Ct WSM G 1 iX12_isSign [vR 0, vI a1] P Q := by
  refine Ct.of (by decide) (l0 := [(0, vR 0), (1, vI a1)]) rfl (Nat.le_of_ble_eq_true rfl) ?_
  refine g_aload_n dX12_isSign_0 rfl ?_
  refine m_g3 (z := (P 0 3)) rfl dX12_isSign_1 rfl ?_
  refine g_iconst dX12_isSign_4 ?_
  have f1 := b0_3 hB
  refine g_icmp_ne (tgt := 20) dX12_isSign_5 (by decide) ⟨by have q0 := b0_3 hB; omega, by have q0 := b0_3 hB; omega⟩ (by decide) (fun k2 => ?_) (fun k2 => ?_)
  · refine g_iconst dX12_isSign_20 ?_
    exact g_retZ dX12_isSign_21 rfl (by decide) (hQ 0 (by decide) (by have q0 := b0_3 hB; have q1 := b0_6 hB; omega))
  · refine g_aload_n dX12_isSign_8 rfl ?_
    refine m_g6 (z := (P 0 6)) rfl dX12_isSign_9 rfl ?_
    refine g_iload_n dX12_isSign_12 rfl ?_
    have f3 := b0_6 hB
    refine g_icmp_ne (tgt := 20) dX12_isSign_13 (by decide) ⟨by have q0 := b0_6 hB; omega, by have q0 := b0_6 hB; omega⟩ ⟨by omega, by omega⟩ (fun k4 => ?_) (fun k4 => ?_)
    · refine g_iconst dX12_isSign_20 ?_
      exact g_retZ dX12_isSign_21 rfl (by decide) (hQ 0 (by decide) (by have q0 := b0_3 hB; have q1 := b0_6 hB; omega))
    · refine g_iconst dX12_isSign_16 ?_
      refine g_goto (tgt := 21) dX12_isSign_17 (by decide) ?_
      exact g_retZ dX12_isSign_21 rfl (by decide) (hQ 1 (by decide) (by have q0 := b0_3 hB; have q1 := b0_6 hB; omega))
set_option maxRecDepth 100000 in
set_option maxHeartbeats 4000000 in
theorem m_X12_slot (G : GT) (P : PH) (a1 : Int) (h_a1 : 0 ≤ a1 ∧ a1 ≤ 20) (hB : BdM P) (Q : Option PV → PH → Prop) (hQ : ∀ (r : Int) (_ : 2 ≤ r ∧ r ≤ 21), Q (some (vI r)) P) : Ct WSM G 1 iX12_slot [vR 0, vI a1] P Q := by
  refine Ct.of (by decide) (l0 := [(0, vR 0), (1, vI a1)]) rfl (Nat.le_of_ble_eq_true rfl) ?_
  refine g_iconst dX12_slot_0 ?_
  refine g_aload_n dX12_slot_1 rfl ?_
  refine m_g59 (z := (P 0 59)) rfl dX12_slot_2 rfl ?_
  refine g_iload_n dX12_slot_5 rfl ?_
  refine g_iadd dX12_slot_6 ?_
  refine g_bipush dX12_slot_7 (by decide) ?_
  refine g_irem dX12_slot_9 ⟨(by decide), by decide⟩ ?_
  refine g_nm (fun b1 e_b1 => ?_)
  have h_b1 := irem_b (x := ((P 0 59) + a1)) (y := 20) ⟨by have q0 := b0_59 hB; omega, by have q0 := b0_59 hB; omega⟩ ⟨by omega, by omega⟩
  rw [← e_b1] at h_b1
  have f_b1_0 := b0_59 hB
  refine g_iadd dX12_slot_10 ?_
  exact g_retI dX12_slot_11 rfl (hQ (2 + b1) ⟨by omega, by omega⟩ )
set_option maxRecDepth 100000 in
set_option maxHeartbeats 4000000 in
theorem m_X12_columns (G : GT) (P : PH) (hB : BdM P) (Q : Option PV → PH → Prop) (hQ : ∀ (r : Int) (_ : 0 ≤ r ∧ r ≤ 4) (_ : r = P 11 (P 0 13)), Q (some (vI r)) P) : Ct WSM G 1 iX12_columns [vR 0] P Q := by
  refine Ct.of (by decide) (l0 := [(0, vR 0)]) rfl (Nat.le_of_ble_eq_true rfl) ?_
  refine g_aload_n dX12_columns_0 rfl ?_
  refine m_g23 rfl dX12_columns_1 ?_
  refine g_aload_n dX12_columns_4 rfl ?_
  refine m_g13 (z := (P 0 13)) rfl dX12_columns_5 rfl ?_
  refine m_l11 (z := (P 11 (P 0 13))) dX12_columns_8 ⟨by have q0 := b0_13 hB; omega, by have q0 := b0_13 hB; omega⟩ rfl ?_
  exact g_retI dX12_columns_9 rfl (hQ (P 11 (P 0 13)) ⟨by have q0 := bl_11 (k := (P 0 13)) hB; omega, by have q0 := bl_11 (k := (P 0 13)) hB; omega⟩ (by have q0 := bl_11 (k := (P 0 13)) hB; omega))
set_option maxRecDepth 100000 in
set_option maxHeartbeats 4000000 in
theorem m_X12_valuesOf (G : GT) (P : PH) (a1 : Int) (a2 : Int) (h_a1 : 0 ≤ a1 ∧ a1 ≤ 1) (h_a2 : 0 ≤ a2 ∧ a2 ≤ 4) (hB : BdM P) (Q : Option PV → PH → Prop) (hQ : ∀ (r : Int) (_ : 0 ≤ r ∧ r ≤ 2006) (_ : (a2 = 4 ∧ r = 20) ∨ (a2 < 4 ∧ r = P 3 ((4 * a1) + a2))), Q (some (vI r)) P) : Ct WSM G 1 iX12_valuesOf [vR 0, vI a1, vI a2] P Q := by
  refine Ct.of (by decide) (l0 := [(0, vR 0), (1, vI a1), (2, vI a2)]) rfl (Nat.le_of_ble_eq_true rfl) ?_
  refine g_iload_n dX12_valuesOf_0 rfl ?_
  refine g_iconst dX12_valuesOf_1 ?_
  refine g_icmp_ne (tgt := 10) dX12_valuesOf_2 (by decide) ⟨by omega, by omega⟩ (by decide) (fun k1 => ?_) (fun k1 => ?_)
  · refine g_aload_n dX12_valuesOf_10 rfl ?_
    refine m_g15 rfl dX12_valuesOf_11 ?_
    refine g_iconst dX12_valuesOf_14 ?_
    refine g_iload_n dX12_valuesOf_15 rfl ?_
    refine g_imul dX12_valuesOf_16 ?_
    refine g_iload_n dX12_valuesOf_17 rfl ?_
    refine g_iadd dX12_valuesOf_18 ?_
    refine m_l3 (z := (P 3 ((4 * a1) + a2))) dX12_valuesOf_19 ⟨by omega, by omega⟩ rfl ?_
    exact g_retI dX12_valuesOf_20 rfl (hQ (P 3 ((4 * a1) + a2)) ⟨by have q0 := bl_3 (k := ((4 * a1) + a2)) hB; omega, by have q0 := bl_3 (k := ((4 * a1) + a2)) hB; omega⟩ (by have q0 := bl_3 (k := ((4 * a1) + a2)) hB; omega))
  · refine g_bipush dX12_valuesOf_5 (by decide) ?_
    refine g_goto (tgt := 20) dX12_valuesOf_7 (by decide) ?_
    exact g_retI dX12_valuesOf_20 rfl (hQ 20 (by decide) (by omega))
set_option maxRecDepth 100000 in
set_option maxHeartbeats 4000000 in
theorem m_X12_fault (G : GT) (P : PH) (a1 : Int) (h_a1 : (-2147483648) ≤ a1 ∧ a1 ≤ 2147483647) (hB : BdM P) (Q : Option PV → PH → Prop) (hQ : ∀ (r : Int) (_ : (-1) ≤ r ∧ r ≤ 1600), Q (some (vI r)) P) : Ct WSM G 1 iX12_fault [vR 0, vI a1] P Q := by
  refine Ct.of (by decide) (l0 := [(0, vR 0), (1, vI a1)]) rfl (Nat.le_of_ble_eq_true rfl) ?_
  refine g_iload_n dX12_fault_0 rfl ?_
  refine g_if_ne (tgt := 11) dX12_fault_1 (by decide) ⟨by omega, by omega⟩ (fun k1 => ?_) (fun k1 => ?_)
  · refine g_iload_n dX12_fault_11 rfl ?_
    refine g_iconst dX12_fault_12 ?_
    refine g_icmp_ne (tgt := 23) dX12_fault_13 (by decide) ⟨by omega, by omega⟩ (by decide) (fun k2 => ?_) (fun k2 => ?_)
    · refine g_iconst dX12_fault_23 ?_
      exact g_retI dX12_fault_24 rfl (hQ (-1) (by decide) )
    · refine g_aload_n dX12_fault_16 rfl ?_
      refine m_g11 (z := (P 0 11)) rfl dX12_fault_17 rfl ?_
      refine g_goto (tgt := 24) dX12_fault_20 (by decide) ?_
      exact g_retI dX12_fault_24 rfl (hQ (P 0 11) ⟨by have q0 := b0_11 hB; omega, by have q0 := b0_11 hB; omega⟩ )
  · refine g_aload_n dX12_fault_4 rfl ?_
    refine m_g10 (z := (P 0 10)) rfl dX12_fault_5 rfl ?_
    refine g_goto (tgt := 24) dX12_fault_8 (by decide) ?_
    exact g_retI dX12_fault_24 rfl (hQ (P 0 10) ⟨by have q0 := b0_10 hB; omega, by have q0 := b0_10 hB; omega⟩ )
set_option maxRecDepth 100000 in
set_option maxHeartbeats 4000000 in
theorem m_X12_refuses (G : GT) (P : PH) (a1 : Int) (h_a1 : 0 ≤ a1 ∧ a1 ≤ 5) (hB : BdM P) (Q : Option PV → PH → Prop) (hQ : ∀ (r : Int) (_ : (-1) ≤ r ∧ r ≤ (-1)) (P1 : PH) (_ : BdM P1) (_ : FrM ([], [28]) P P1), Q (some (vI r)) P1) : Ct WSM G 1 iX12_refuses [vR 0, vI a1] P Q := by
  refine Ct.of (by decide) (l0 := [(0, vR 0), (1, vI a1)]) rfl (Nat.le_of_ble_eq_true rfl) ?_
  refine g_aload_n dX12_refuses_0 rfl ?_
  refine m_g45 rfl dX12_refuses_1 ?_
  refine g_iload_n dX12_refuses_4 rfl ?_
  refine g_dup2 dX12_refuses_5 rfl rfl ?_
  refine m_l28 (z := (P 28 a1)) dX12_refuses_6 ⟨by omega, by omega⟩ rfl ?_
  refine g_iconst dX12_refuses_7 ?_
  refine g_iadd dX12_refuses_8 ?_
  refine g_norm (fun r1 h_r1 e_r1 => ?_)
  refine m_s28 dX12_refuses_9 ⟨by omega, by omega⟩ ?_
  have hB2 := ba_28 (z := r1) (k := a1) hB ⟨by omega, by omega⟩
  refine g_iconst dX12_refuses_10 ?_
  exact g_retI dX12_refuses_11 rfl (hQ (-1) (by decide) _ hB2 (FrM.a FrM.rf rfl rfl) )
set_option maxRecDepth 100000 in
set_option maxHeartbeats 4000000 in
theorem m_X12_status (G : GT) (P : PH) (a1 : Int) (h_a1 : (-2147483648) ≤ a1 ∧ a1 ≤ 2147483647) (hB : BdM P) (Q : Option PV → PH → Prop) (hQ : ∀ (r : Int) (_ : (-2147483648) ≤ r ∧ r ≤ 2147483647), Q (some (vI r)) P) : Ct WSM G 2 iX12_status [vR 0, vI a1] P Q := by
  refine Ct.of (by decide) (l0 := [(0, vR 0), (1, vI a1)]) rfl (Nat.le_of_ble_eq_true rfl) ?_
  refine g_iload_n dX12_status_0 rfl ?_
  refine g_iconst dX12_status_1 ?_
  refine g_iconst dX12_status_2 ?_
  refine g_sI (av := [vI a1, vI 0, vI 5]) (st := []) (m_X12_is G P a1 0 5 ⟨by omega, by omega⟩ (by decide) (by decide) hB  _ (fun rc1 hc1 gc1_is => ⟨rc1, rfl, ?_⟩)) cf_X12_is t_1800 rfl (Nat.le_of_ble_eq_true rfl) (by decide) rfl dX12_status_3
  refine g_if_eq (tgt := 18) dX12_status_6 (by decide) ⟨by omega, by omega⟩ (fun k2 => ?_) (fun k2 => ?_)
  · refine g_iconst dX12_status_18 ?_
    exact g_retI dX12_status_19 rfl (hQ (-1) (by decide) )
  · refine g_aload_n dX12_status_9 rfl ?_
    refine m_g45 rfl dX12_status_10 ?_
    refine g_iload_n dX12_status_13 rfl ?_
    refine m_l28 (z := (P 28 a1)) dX12_status_14 ⟨by omega, by omega⟩ rfl ?_
    refine g_goto (tgt := 19) dX12_status_15 (by decide) ?_
    exact g_retI dX12_status_19 rfl (hQ (P 28 a1) ⟨by have q0 := bl_28 (k := a1) hB; omega, by have q0 := bl_28 (k := a1) hB; omega⟩ )
