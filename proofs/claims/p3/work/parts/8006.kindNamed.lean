/-! What the reference answers: X12_kindNamed. -/
set_option maxRecDepth 100000 in
set_option maxHeartbeats 4000000 in
theorem f_X12_kindNamed (G : GT) (P : PH) (a1 : Int) (h_a1 : (-9223372036854775808) ≤ a1 ∧ a1 ≤ 9223372036854775807) (hB : BdM P) (Q : Option PV → PH → Prop) (hQ : ∀ (r : Int) (_ : (-1) ≤ r ∧ r ≤ 3) (_ : r < P 2 (P 0 37)) (_ : r = fxi (fun i => P 22 (4 * P 0 37 + i)) a1 (P 2 (P 0 37)).toNat), Q (some (vI r)) P) : Ct WSM G 1 iX12_kindNamed [vR 0, vL a1] P Q := by
  refine Ct.of (by decide) (l0 := [(0, vR 0), (1, vL a1)]) rfl (Nat.le_of_ble_eq_true rfl) ?_
  refine g_iconst dX12_kindNamed_0 ?_
  refine g_istore_n (l1 := [(3, vI 0), (0, vR 0), (1, vL a1)]) dX12_kindNamed_1 (by decide) rfl ?_
  have L2_0 : ∀ (n2_0 : Nat) (x2_3_0 : Int) (h_x2_3_0 : 0 ≤ x2_3_0 ∧ x2_3_0 ≤ 4) (i2_0_0 : ∀ q : Int, 0 ≤ q → q < x2_3_0 → P 22 (4 * P 0 37 + q) ≠ a1) (hm2_0 : ((5 - x2_3_0) : Int).toNat < n2_0), Go WSM G 1 iX12_kindNamed 2 [(0, vR 0), (1, vL a1), (3, vI x2_3_0)] [] P Q := by
    intro n2_0
    induction n2_0 with
    | zero => intro x2_3_0 h_x2_3_0 i2_0_0 hm2_0; exact absurd hm2_0 (Nat.not_lt_zero _)
    | succ n2_0 ih2_0 =>
    intro x2_3_0 h_x2_3_0 i2_0_0 hm2_0
    refine g_iload_n dX12_kindNamed_2 rfl ?_
    refine g_aload_n dX12_kindNamed_3 rfl ?_
    refine m_g14 rfl dX12_kindNamed_4 ?_
    refine g_aload_n dX12_kindNamed_7 rfl ?_
    refine m_g37 (z := (P 0 37)) rfl dX12_kindNamed_8 rfl ?_
    refine m_l2 (z := (P 2 (P 0 37))) dX12_kindNamed_11 ⟨by have q0 := b0_37 hB; omega, by have q0 := b0_37 hB; omega⟩ rfl ?_
    have f30 := bl_2 (k := (P 0 37)) hB
    refine g_icmp_ge (tgt := 41) dX12_kindNamed_12 (by decide) ⟨by omega, by omega⟩ ⟨by have q0 := bl_2 (k := (P 0 37)) hB; omega, by have q0 := bl_2 (k := (P 0 37)) hB; omega⟩ (fun k31 => ?_) (fun k31 => ?_)
    · refine g_iconst dX12_kindNamed_41 ?_
      exact g_retI dX12_kindNamed_42 rfl (hQ (-1) (by decide) (by have q0 := bl_2 (k := (P 0 37)) hB; omega) ((fxi_none (g := fun i => P 22 (4 * P 0 37 + i)) _ (fun q q0 q1 => i2_0_0 q q0 (by omega))).symm))
    · refine g_aload_n dX12_kindNamed_15 rfl ?_
      refine m_g34 rfl dX12_kindNamed_16 ?_
      refine g_iconst dX12_kindNamed_19 ?_
      refine g_aload_n dX12_kindNamed_20 rfl ?_
      refine m_g37 (z := (P 0 37)) rfl dX12_kindNamed_21 rfl ?_
      refine g_imul dX12_kindNamed_24 ?_
      refine g_iload_n dX12_kindNamed_25 rfl ?_
      refine g_iadd dX12_kindNamed_26 ?_
      refine m_l22 (z := (P 22 ((4 * (P 0 37)) + x2_3_0))) dX12_kindNamed_27 ⟨by have q0 := b0_37 hB; omega, by have q0 := b0_37 hB; omega⟩ rfl ?_
      refine g_lload_n dX12_kindNamed_28 rfl ?_
      refine g_lcmp dX12_kindNamed_29 ⟨by have q0 := bl_22 (k := ((4 * (P 0 37)) + x2_3_0)) hB; omega, by have q0 := bl_22 (k := ((4 * (P 0 37)) + x2_3_0)) hB; omega⟩ ⟨by omega, by omega⟩ ?_
      refine g_nm (fun b32 e_b32 => ?_)
      have h_b32 := lcmpv_b (P 22 ((4 * (P 0 37)) + x2_3_0)) a1
      have h0_b32 := lcmpv_0 (x := (P 22 ((4 * (P 0 37)) + x2_3_0))) (y := a1)
      have h1_b32 := lcmpv_lt (x := (P 22 ((4 * (P 0 37)) + x2_3_0))) (y := a1)
      have h2_b32 := lcmpv_gt (x := (P 22 ((4 * (P 0 37)) + x2_3_0))) (y := a1)
      rw [← e_b32] at h_b32 h0_b32 h1_b32 h2_b32
      refine g_if_ne (tgt := 35) dX12_kindNamed_30 (by decide) ⟨by omega, by omega⟩ (fun k33 => ?_) (fun k33 => ?_)
      · have hnx : ∀ q : Int, 0 ≤ q → q < x2_3_0 + 1 → P 22 (4 * P 0 37 + q) ≠ a1 := by
          intro q q0 q1
          by_cases e : q = x2_3_0
          · rw [e]; omega
          · exact i2_0_0 q q0 (by omega)
        refine g_iinc (l1 := [(3, vI (x2_3_0 + 1)), (0, vR 0), (1, vL a1)]) dX12_kindNamed_35 rfl (by decide) rfl ?_
        refine g_goto (tgt := 2) dX12_kindNamed_38 (by decide) ?_
        refine g_forget (l1 := [(0, vR 0), (1, vL a1), (3, vI (x2_3_0 + 1))]) (by intro q hq; simp only [List.mem_cons, List.not_mem_nil, or_false] at hq ⊢; rcases hq with rfl | rfl | rfl <;> simp) ?_
        exact ih2_0 (x2_3_0 + 1) ⟨by omega, by omega⟩ (by first | exact hnx | (intro q q0 q1; exfalso; omega)) (by omega)
      · refine g_iload_n dX12_kindNamed_33 rfl ?_
        exact g_retI dX12_kindNamed_34 rfl (hQ x2_3_0 ⟨by omega, by omega⟩ (by have q0 := bl_2 (k := (P 0 37)) hB; omega) ((fxi_some (g := fun i => P 22 (4 * P 0 37 + i)) (by omega) (by show P 22 (4 * P 0 37 + _) = a1; omega) (fun q q0 q1 => i2_0_0 q q0 q1) _ (by omega)).symm))
  refine g_forget (l1 := [(0, vR 0), (1, vL a1), (3, vI 0)]) (by intro q hq; simp only [List.mem_cons, List.not_mem_nil, or_false] at hq ⊢; rcases hq with rfl | rfl | rfl <;> simp) ?_
  exact L2_0 _ 0 (by decide) (by first | exact hnx | (intro q q0 q1; exfalso; omega)) (Nat.lt_succ_self _)
