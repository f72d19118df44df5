/-! What the reference answers: X12_conNamed. -/
set_option maxRecDepth 100000 in
set_option maxHeartbeats 4000000 in
theorem f_X12_conNamed (G : GT) (P : PH) (a1 : Int) (a2 : Int) (h_a1 : 0 ≤ a1 ∧ a1 ≤ 1) (h_a2 : (-9223372036854775808) ≤ a2 ∧ a2 ≤ 9223372036854775807) (hB : BdM P) (Q : Option PV → PH → Prop) (hQ : ∀ (r : Int) (_ : (-1) ≤ r ∧ r ≤ 23) (_ : r < P 5 a1 ∨ r = -1) (_ : r = fxi (fun i => P 23 (24 * a1 + i)) a2 (P 5 (a1)).toNat), Q (some (vI r)) P) : Ct WSM G 1 iX12_conNamed [vR 0, vI a1, vL a2] P Q := by
  refine Ct.of (by decide) (l0 := [(0, vR 0), (1, vI a1), (2, vL a2)]) rfl (Nat.le_of_ble_eq_true rfl) ?_
  refine g_iconst dX12_conNamed_0 ?_
  refine g_istore (l1 := [(4, vI 0), (0, vR 0), (1, vI a1), (2, vL a2)]) dX12_conNamed_1 (by decide) rfl ?_
  have L3_0 : ∀ (n3_0 : Nat) (x3_4_0 : Int) (h_x3_4_0 : 0 ≤ x3_4_0 ∧ x3_4_0 ≤ 24) (i3_0_0 : ∀ q : Int, 0 ≤ q → q < x3_4_0 → P 23 (24 * a1 + q) ≠ a2) (hm3_0 : ((25 - x3_4_0) : Int).toNat < n3_0), Go WSM G 1 iX12_conNamed 3 [(0, vR 0), (1, vI a1), (2, vL a2), (4, vI x3_4_0)] [] P Q := by
    intro n3_0
    induction n3_0 with
    | zero => intro x3_4_0 h_x3_4_0 i3_0_0 hm3_0; exact absurd hm3_0 (Nat.not_lt_zero _)
    | succ n3_0 ih3_0 =>
    intro x3_4_0 h_x3_4_0 i3_0_0 hm3_0
    refine g_iload dX12_conNamed_3 rfl ?_
    refine g_aload_n dX12_conNamed_5 rfl ?_
    refine m_g17 rfl dX12_conNamed_6 ?_
    refine g_iload_n dX12_conNamed_9 rfl ?_
    refine m_l5 (z := (P 5 a1)) dX12_conNamed_10 ⟨by omega, by omega⟩ rfl ?_
    have f42 := bl_5 (k := a1) hB
    refine g_icmp_ge (tgt := 40) dX12_conNamed_11 (by decide) ⟨by omega, by omega⟩ ⟨by have q0 := bl_5 (k := a1) hB; omega, by have q0 := bl_5 (k := a1) hB; omega⟩ (fun k43 => ?_) (fun k43 => ?_)
    · refine g_iconst dX12_conNamed_40 ?_
      exact g_retI dX12_conNamed_41 rfl (hQ (-1) (by decide) (by have q0 := bl_5 (k := a1) hB; omega) ((fxi_none (g := fun i => P 23 (24 * a1 + i)) _ (fun q q0 q1 => i3_0_0 q q0 (by omega))).symm))
    · refine g_aload_n dX12_conNamed_14 rfl ?_
      refine m_g35 rfl dX12_conNamed_15 ?_
      refine g_bipush dX12_conNamed_18 (by decide) ?_
      refine g_iload_n dX12_conNamed_20 rfl ?_
      refine g_imul dX12_conNamed_21 ?_
      refine g_iload dX12_conNamed_22 rfl ?_
      refine g_iadd dX12_conNamed_24 ?_
      refine m_l23 (z := (P 23 ((24 * a1) + x3_4_0))) dX12_conNamed_25 ⟨by omega, by omega⟩ rfl ?_
      refine g_lload_n dX12_conNamed_26 rfl ?_
      refine g_lcmp dX12_conNamed_27 ⟨by have q0 := bl_23 (k := ((24 * a1) + x3_4_0)) hB; omega, by have q0 := bl_23 (k := ((24 * a1) + x3_4_0)) hB; omega⟩ ⟨by omega, by omega⟩ ?_
      refine g_nm (fun b44 e_b44 => ?_)
      have h_b44 := lcmpv_b (P 23 ((24 * a1) + x3_4_0)) a2
      have h0_b44 := lcmpv_0 (x := (P 23 ((24 * a1) + x3_4_0))) (y := a2)
      have h1_b44 := lcmpv_lt (x := (P 23 ((24 * a1) + x3_4_0))) (y := a2)
      have h2_b44 := lcmpv_gt (x := (P 23 ((24 * a1) + x3_4_0))) (y := a2)
      rw [← e_b44] at h_b44 h0_b44 h1_b44 h2_b44
      refine g_if_ne (tgt := 34) dX12_conNamed_28 (by decide) ⟨by omega, by omega⟩ (fun k45 => ?_) (fun k45 => ?_)
      · have hnx : ∀ q : Int, 0 ≤ q → q < x3_4_0 + 1 → P 23 (24 * a1 + q) ≠ a2 := by
          intro q q0 q1
          by_cases e : q = x3_4_0
          · rw [e]; omega
          · exact i3_0_0 q q0 (by omega)
        refine g_iinc (l1 := [(4, vI (x3_4_0 + 1)), (0, vR 0), (1, vI a1), (2, vL a2)]) dX12_conNamed_34 rfl (by decide) rfl ?_
        refine g_goto (tgt := 3) dX12_conNamed_37 (by decide) ?_
        refine g_forget (l1 := [(0, vR 0), (1, vI a1), (2, vL a2), (4, vI (x3_4_0 + 1))]) (by intro q hq; simp only [List.mem_cons, List.not_mem_nil, or_false] at hq ⊢; rcases hq with rfl | rfl | rfl | rfl <;> simp) ?_
        exact ih3_0 (x3_4_0 + 1) ⟨by omega, by omega⟩ (by first | exact hnx | (intro q q0 q1; exfalso; omega)) (by omega)
      · refine g_iload dX12_conNamed_31 rfl ?_
        exact g_retI dX12_conNamed_33 rfl (hQ x3_4_0 ⟨by omega, by omega⟩ (by have q0 := bl_5 (k := a1) hB; omega) ((fxi_some (g := fun i => P 23 (24 * a1 + i)) (by omega) (by show P 23 (24 * a1 + _) = a2; omega) (fun q q0 q1 => i3_0_0 q q0 q1) _ (by omega)).symm))
  refine g_forget (l1 := [(0, vR 0), (1, vI a1), (2, vL a2), (4, vI 0)]) (by intro q hq; simp only [List.mem_cons, List.not_mem_nil, or_false] at hq ⊢; rcases hq with rfl | rfl | rfl | rfl <;> simp) ?_
  exact L3_0 _ 0 (by decide) (by first | exact hnx | (intro q q0 q1; exfalso; omega)) (Nat.lt_succ_self _)
