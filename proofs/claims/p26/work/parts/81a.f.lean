section
/-! What the class answers: X3_isKind. -/
set_option maxRecDepth 100000 in
set_option maxHeartbeats 4000000 in
theorem f_X3_isKind (G : GT) (P : PH) (o0 : Nat) (a1 : Int) (k_o0 : kx o0 29) (h_a1 : (-2147483648) ≤ a1 ∧ a1 ≤ 2147483647) (hB : BdX P) (Q : Option PV → PH → Prop) (hQ : ∀ (r : Int) (_ : 0 ≤ r ∧ r ≤ 1) (_ : r = 0 ∨ (0 ≤ a1 ∧ a1 < P o0 9)) (_ : (r = 1 ∧ 0 ≤ a1 ∧ a1 < P o0 9) ∨ (r = 0 ∧ (a1 < 0 ∨ P o0 9 ≤ a1))), Q (some (vI r)) P) : Ct WSX G 1 iX3_isKind [vR o0, vI a1] P Q := by
  refine Ct.of (by decide) (l0 := [(0, vR o0), (1, vI a1)]) rfl (Nat.le_of_ble_eq_true rfl) ?_
  refine g_iload_n dX3_isKind_0 rfl ?_
  refine g_if_lt (tgt := 16) dX3_isKind_1 (by decide) ⟨by omega, by omega⟩ (fun k1 => ?_) (fun k1 => ?_)
  · refine g_iconst dX3_isKind_16 ?_
    exact g_retZ dX3_isKind_17 rfl (by decide) (hQ 0 (by decide) (by omega) (by omega))
  · refine g_iload_n dX3_isKind_4 rfl ?_
    refine g_aload_n dX3_isKind_5 rfl ?_
    refine x_g29_9 (z := (P o0 9)) k_o0 ffX3_39 dX3_isKind_6 rfl ?_
    have f2 := bx_29_9 (o := o0) hB k_o0
    refine g_icmp_ge (tgt := 16) dX3_isKind_9 (by decide) ⟨by omega, by omega⟩ ⟨by have q0 := bx_29_9 (o := o0) hB k_o0; omega, by have q0 := bx_29_9 (o := o0) hB k_o0; omega⟩ (fun k3 => ?_) (fun k3 => ?_)
    · refine g_iconst dX3_isKind_16 ?_
      exact g_retZ dX3_isKind_17 rfl (by decide) (hQ 0 (by decide) (by omega) (by omega))
    · refine g_iconst dX3_isKind_12 ?_
      refine g_goto (tgt := 17) dX3_isKind_13 (by decide) ?_
      exact g_retZ dX3_isKind_17 rfl (by decide) (hQ 1 (by decide) (by omega) (by omega))
/-! What the class answers: X3_sizeOf. -/
set_option maxRecDepth 100000 in
set_option maxHeartbeats 4000000 in
theorem f_X3_sizeOf (G : GT) (P : PH) (K : PH) (o0 : Nat) (a1 : Int) (k_o0 : kx o0 29) (h_a1 : (-2147483648) ≤ a1 ∧ a1 ≤ 2147483647) (hB : BdX P) (p_kb : -1 ≤ a1 ∧ a1 < K 0 0) (z0 : XK K o0 P) (Q : Option PV → PH → Prop) (hQ : ∀ (r : Int) (_ : (-2147483648) ≤ r ∧ r ≤ 2147483647) (_ : r = sz K a1), Q (some (vI r)) P) : Ct WSX G 1 iX3_sizeOf [vR o0, vI a1] P Q := by
  refine Ct.of (by decide) (l0 := [(0, vR o0), (1, vI a1)]) rfl (Nat.le_of_ble_eq_true rfl) ?_
  have hb := z0.b
  have hk : 0 ≤ a1 → P (crX o0 3) a1 = K 2 a1 := fun h => (z0.k h p_kb.2).2.2.2
  have hsz := sz_s K a1
  refine g_iload_n dX3_sizeOf_0 rfl ?_
  refine g_iconst dX3_sizeOf_1 ?_
  refine g_icmp_ne (tgt := 8) dX3_sizeOf_2 (by decide) ⟨by (clear hb hk hsz; omega), by (clear hb hk hsz; omega)⟩ (by decide) (fun k1 => ?_) (fun k1 => ?_)
  · skip
    refine g_iload_n dX3_sizeOf_8 rfl ?_
    refine g_if_lt (tgt := 29) dX3_sizeOf_9 (by decide) ⟨by (clear hb hk hsz k1; omega), by (clear hb hk hsz k1; omega)⟩ (fun k2 => ?_) (fun k2 => ?_)
    · have r_hsz := (hsz.resolve_right (by (clear hb hk hsz k1; omega)))
      refine g_iconst dX3_sizeOf_29 ?_
      exact g_retI dX3_sizeOf_30 rfl (hQ 0 (by decide) (by (clear hb hk hsz; omega)))
    · have r_hsz := (hsz.resolve_left (by (clear hb hk hsz k1; omega)))
      refine g_iload_n dX3_sizeOf_12 rfl ?_
      refine g_aload_n dX3_sizeOf_13 rfl ?_
      refine x_g29_9 (z := (P o0 9)) k_o0 ffX3_39 dX3_sizeOf_14 rfl ?_
      have f3 := bx_29_9 (o := o0) hB k_o0
      refine g_icmp_ge (tgt := 29) dX3_sizeOf_17 (by decide) ⟨by (clear hb hk hsz k1; omega), by (clear hb hk hsz k1; omega)⟩ ⟨by have q0 := bx_29_9 (o := o0) hB k_o0; (clear hb hk hsz k1; omega), by have q0 := bx_29_9 (o := o0) hB k_o0; (clear hb hk hsz k1; omega)⟩ (fun k4 => ?_) (fun k4 => ?_)
      · skip
        refine g_iconst dX3_sizeOf_29 ?_
        exact g_retI dX3_sizeOf_30 rfl (hQ 0 (by decide) (by (clear hk hsz k1; omega)))
      · skip
        refine g_aload_n dX3_sizeOf_20 rfl ?_
        refine x_g29_3 (n := (crX o0 3)) k_o0 ffX3_21 dX3_sizeOf_21 rfl ?_
        refine g_iload_n dX3_sizeOf_24 rfl ?_
        refine x_l33 (z := (P (crX o0 3) a1)) (ck_29_3 k_o0) dX3_sizeOf_25 ⟨by (clear hb hk hsz k1; omega), by (clear hb hk hsz k1; omega)⟩ rfl ?_
        refine g_goto (tgt := 30) dX3_sizeOf_26 (by decide) ?_
        exact g_retI dX3_sizeOf_30 rfl (hQ (P (crX o0 3) a1) ⟨by have q0 := bx_33 (o := (crX o0 3)) (k := a1) hB (ck_29_3 k_o0); (clear hb hk hsz k1; omega), by have q0 := bx_33 (o := (crX o0 3)) (k := a1) hB (ck_29_3 k_o0); (clear hb hk hsz k1; omega)⟩ (by have q0 := bx_33 (o := (crX o0 3)) (k := a1) hB (ck_29_3 k_o0); (clear hb hsz k1; omega)))
  · skip
    refine g_bipush dX3_sizeOf_5 (by decide) ?_
    exact g_retI dX3_sizeOf_7 rfl (hQ 20 (by decide) (by (clear hb hk; omega)))
/-! What the class answers: X3_consOf. -/
set_option maxRecDepth 100000 in
set_option maxHeartbeats 4000000 in
theorem f_X3_consOf (G : GT) (P : PH) (K : PH) (o0 : Nat) (a1 : Int) (k_o0 : kx o0 29) (h_a1 : (-2147483648) ≤ a1 ∧ a1 ≤ 2147483647) (hB : BdX P) (z0 : XK K o0 P) (Q : Option PV → PH → Prop) (hQ : ∀ (r : Int) (_ : (-2147483648) ≤ r ∧ r ≤ 2147483647) (_ : (0 ≤ a1 ∧ a1 < K 0 0 ∧ r = K 3 a1) ∨ ((a1 < 0 ∨ K 0 0 ≤ a1) ∧ r = 0)), Q (some (vI r)) P) : Ct WSX G 2 iX3_consOf [vR o0, vI a1] P Q := by
  refine Ct.of (by decide) (l0 := [(0, vR o0), (1, vI a1)]) rfl (Nat.le_of_ble_eq_true rfl) ?_
  have hb := z0.b
  have hk : 0 ≤ a1 → a1 < K 0 0 → P (crX o0 2) a1 = K 3 a1 := fun h h1 => (z0.k h h1).2.2.1
  refine g_aload_n dX3_consOf_0 rfl ?_
  refine g_iload_n dX3_consOf_1 rfl ?_
  refine g_vI (av := [vI a1]) (o := o0) (st := []) (f_X3_isKind G P o0 a1 k_o0 ⟨by (clear hb hk; omega), by (clear hb hk; omega)⟩ hB  _ (fun rc1 hc1 gc1_k gc1_f => ⟨rc1, rfl, ?_⟩)) cf_X3_isKind t_760 rfl (show kx o0 29 from k_o0).1 ((show kx o0 29 from k_o0).sh rfl) rfl rfl (Nat.le_of_ble_eq_true rfl) (by decide) rfl dX3_consOf_2
  have f2 := bx_29_9 (o := o0) hB k_o0
  refine g_if_eq (tgt := 17) dX3_consOf_5 (by decide) ⟨by (clear hb hk gc1_k gc1_f; omega), by (clear hb hk gc1_k gc1_f; omega)⟩ (fun k3 => ?_) (fun k3 => ?_)
  · have r_gc1_f := (gc1_f.resolve_left (by (clear hb hk gc1_k gc1_f; omega)))
    have r_gc1_k := (gc1_k.resolve_right (by (clear hb hk gc1_k gc1_f; omega)))
    refine g_iconst dX3_consOf_17 ?_
    exact g_retI dX3_consOf_18 rfl (hQ 0 (by decide) (by (clear hk gc1_k gc1_f; omega)))
  · have k3n : 1 ≤ rc1 := by (clear hb hk gc1_k gc1_f; omega)
    clear k3
    have r_gc1_f := (gc1_f.resolve_right (by (clear hb hk gc1_k gc1_f; omega)))
    have r_gc1_k := (gc1_k.resolve_left (by (clear hb hk gc1_k gc1_f; omega)))
    refine g_aload_n dX3_consOf_8 rfl ?_
    refine x_g29_2 (n := (crX o0 2)) k_o0 ffX3_18 dX3_consOf_9 rfl ?_
    refine g_iload_n dX3_consOf_12 rfl ?_
    refine x_l32 (z := (P (crX o0 2) a1)) (ck_29_2 k_o0) dX3_consOf_13 ⟨by (clear hb hk gc1_k gc1_f; omega), by (clear hb hk gc1_k gc1_f; omega)⟩ rfl ?_
    refine g_goto (tgt := 18) dX3_consOf_14 (by decide) ?_
    exact g_retI dX3_consOf_18 rfl (hQ (P (crX o0 2) a1) ⟨by have q0 := bx_32 (o := (crX o0 2)) (k := a1) hB (ck_29_2 k_o0); (clear hb hk gc1_k gc1_f; omega), by have q0 := bx_32 (o := (crX o0 2)) (k := a1) hB (ck_29_2 k_o0); (clear hb hk gc1_k gc1_f; omega)⟩ (by have q0 := bx_32 (o := (crX o0 2)) (k := a1) hB (ck_29_2 k_o0); (omega)))
/-! What the class answers: X3_kindNamed. -/
set_option maxRecDepth 100000 in
set_option maxHeartbeats 4000000 in
theorem f_X3_kindNamed (G : GT) (P : PH) (K : PH) (o0 : Nat) (a1 : Int) (k_o0 : kx o0 29) (h_a1 : (-2147483648) ≤ a1 ∧ a1 ≤ 2147483647) (hB : BdX P) (z0 : XK K o0 P) (Q : Option PV → PH → Prop) (hQ : ∀ (r : Int) (_ : (-1) ≤ r ∧ r ≤ 3) (_ : r = kNm K a1), Q (some (vI r)) P) : Ct WSX G 1 iX3_kindNamed [vR o0, vI a1] P Q := by
  refine Ct.of (by decide) (l0 := [(0, vR o0), (1, vI a1)]) rfl (Nat.le_of_ble_eq_true rfl) ?_
  refine g_iconst dX3_kindNamed_0 ?_
  refine g_istore_n (l1 := [(2, vI 0), (0, vR o0), (1, vI a1)]) dX3_kindNamed_1 (by decide) rfl ?_
  have L2_0 : ∀ (n2_0 : Nat) (x2_2_0 : Int) (h_x2_2_0 : 0 ≤ x2_2_0 ∧ x2_2_0 ≤ 4) (i2_0_0 : ∀ q : Int, 0 ≤ q → q < x2_2_0 → P (crX o0 0) q ≠ a1) (hm2_0 : ((5 - x2_2_0) : Int).toNat < n2_0), Go WSX G 1 iX3_kindNamed 2 [(0, vR o0), (1, vI a1), (2, vI x2_2_0)] [] P Q := by
    intro n2_0
    induction n2_0 with
    | zero => intro x2_2_0 h_x2_2_0 i2_0_0 hm2_0; exact absurd hm2_0 (Nat.not_lt_zero _)
    | succ n2_0 ih2_0 =>
    intro x2_2_0 h_x2_2_0 i2_0_0 hm2_0
    refine g_iload_n dX3_kindNamed_2 rfl ?_
    refine g_aload_n dX3_kindNamed_3 rfl ?_
    refine x_g29_9 (z := (P o0 9)) k_o0 ffX3_39 dX3_kindNamed_4 rfl ?_
    have f30 := bx_29_9 (o := o0) hB k_o0
    refine g_icmp_ge (tgt := 28) dX3_kindNamed_7 (by decide) ⟨by omega, by omega⟩ ⟨by have q0 := bx_29_9 (o := o0) hB k_o0; omega, by have q0 := bx_29_9 (o := o0) hB k_o0; omega⟩ (fun k31 => ?_) (fun k31 => ?_)
    · refine g_iconst dX3_kindNamed_28 ?_
      exact g_retI dX3_kindNamed_29 rfl (hQ (-1) (by decide) ((fxi_none (g := fun i => P (crX o0 0) i) _ (fun q q0 q1 => i2_0_0 q q0 (by omega))).symm.trans (z0.kn a1)))
    · refine g_aload_n dX3_kindNamed_10 rfl ?_
      refine x_g29_0 (n := (crX o0 0)) k_o0 ffX3_9 dX3_kindNamed_11 rfl ?_
      refine g_iload_n dX3_kindNamed_14 rfl ?_
      refine x_l30 (z := (P (crX o0 0) x2_2_0)) (ck_29_0 k_o0) dX3_kindNamed_15 ⟨by omega, by omega⟩ rfl ?_
      refine g_iload_n dX3_kindNamed_16 rfl ?_
      have f32 := bx_30 (o := (crX o0 0)) (k := x2_2_0) hB (ck_29_0 k_o0)
      refine g_icmp_ne (tgt := 22) dX3_kindNamed_17 (by decide) ⟨by have q0 := bx_30 (o := (crX o0 0)) (k := x2_2_0) hB (ck_29_0 k_o0); omega, by have q0 := bx_30 (o := (crX o0 0)) (k := x2_2_0) hB (ck_29_0 k_o0); omega⟩ ⟨by omega, by omega⟩ (fun k33 => ?_) (fun k33 => ?_)
      · have hnx : ∀ q : Int, 0 ≤ q → q < x2_2_0 + 1 → P (crX o0 0) q ≠ a1 := by
          intro q q0 q1
          by_cases e : q = x2_2_0
          · rw [e]; (omega)
          · exact i2_0_0 q q0 (by (clear k33; omega))
        refine g_iinc (l1 := [(2, vI (x2_2_0 + 1)), (0, vR o0), (1, vI a1)]) dX3_kindNamed_22 rfl (by decide) rfl ?_
        refine g_goto (tgt := 2) dX3_kindNamed_25 (by decide) ?_
        refine g_forget (l1 := [(0, vR o0), (1, vI a1), (2, vI (x2_2_0 + 1))]) (by intro q hq; simp only [List.mem_cons, List.not_mem_nil, or_false] at hq ⊢; rcases hq with rfl | rfl | rfl <;> simp) ?_
        exact ih2_0 (x2_2_0 + 1) ⟨by (clear k33; omega), by (clear k33; omega)⟩ (by first | exact hnx | (intro q q0 q1; exfalso; (first | (clear k33; omega) | omega))) (by (clear k33; omega))
      · refine g_iload_n dX3_kindNamed_20 rfl ?_
        exact g_retI dX3_kindNamed_21 rfl (hQ x2_2_0 ⟨by (clear k33; omega), by (clear k33; omega)⟩ ((fxi_some (g := fun i => P (crX o0 0) i) (by (clear k33; omega)) (by show P (crX o0 0) _ = a1; (omega)) (fun q q0 q1 => i2_0_0 q q0 q1) _ (by (clear k33; omega))).symm.trans (z0.kn a1)))
  refine g_forget (l1 := [(0, vR o0), (1, vI a1), (2, vI 0)]) (by intro q hq; simp only [List.mem_cons, List.not_mem_nil, or_false] at hq ⊢; rcases hq with rfl | rfl | rfl <;> simp) ?_
  exact L2_0 _ 0 (by decide) (by first | exact hnx | (intro q q0 q1; exfalso; omega)) (Nat.lt_succ_self _)
/-! What the class answers: X3_conNamed. -/
set_option maxRecDepth 100000 in
set_option maxHeartbeats 4000000 in
theorem f_X3_conNamed (G : GT) (P : PH) (K : PH) (o0 : Nat) (a1 : Int) (k_o0 : kx o0 29) (h_a1 : (-2147483648) ≤ a1 ∧ a1 ≤ 2147483647) (hB : BdX P) (z0 : XK K o0 P) (Q : Option PV → PH → Prop) (hQ : ∀ (r : Int) (_ : (-1) ≤ r ∧ r ≤ 23) (_ : r = cNm K a1), Q (some (vI r)) P) : Ct WSX G 1 iX3_conNamed [vR o0, vI a1] P Q := by
  refine Ct.of (by decide) (l0 := [(0, vR o0), (1, vI a1)]) rfl (Nat.le_of_ble_eq_true rfl) ?_
  refine g_iconst dX3_conNamed_0 ?_
  refine g_istore_n (l1 := [(2, vI 0), (0, vR o0), (1, vI a1)]) dX3_conNamed_1 (by decide) rfl ?_
  have L2_0 : ∀ (n2_0 : Nat) (x2_2_0 : Int) (h_x2_2_0 : 0 ≤ x2_2_0 ∧ x2_2_0 ≤ 24) (i2_0_0 : ∀ q : Int, 0 ≤ q → q < x2_2_0 → P (crX o0 4) q ≠ a1) (hm2_0 : ((25 - x2_2_0) : Int).toNat < n2_0), Go WSX G 1 iX3_conNamed 2 [(0, vR o0), (1, vI a1), (2, vI x2_2_0)] [] P Q := by
    intro n2_0
    induction n2_0 with
    | zero => intro x2_2_0 h_x2_2_0 i2_0_0 hm2_0; exact absurd hm2_0 (Nat.not_lt_zero _)
    | succ n2_0 ih2_0 =>
    intro x2_2_0 h_x2_2_0 i2_0_0 hm2_0
    refine g_iload_n dX3_conNamed_2 rfl ?_
    refine g_aload_n dX3_conNamed_3 rfl ?_
    refine x_g29_10 (z := (P o0 10)) k_o0 ffX3_43 dX3_conNamed_4 rfl ?_
    have f42 := bx_29_10 (o := o0) hB k_o0
    refine g_icmp_ge (tgt := 28) dX3_conNamed_7 (by decide) ⟨by omega, by omega⟩ ⟨by have q0 := bx_29_10 (o := o0) hB k_o0; omega, by have q0 := bx_29_10 (o := o0) hB k_o0; omega⟩ (fun k43 => ?_) (fun k43 => ?_)
    · refine g_iconst dX3_conNamed_28 ?_
      exact g_retI dX3_conNamed_29 rfl (hQ (-1) (by decide) ((fxi_none (g := fun i => P (crX o0 4) i) _ (fun q q0 q1 => i2_0_0 q q0 (by omega))).symm.trans (z0.cn a1)))
    · refine g_aload_n dX3_conNamed_10 rfl ?_
      refine x_g29_4 (n := (crX o0 4)) k_o0 ffX3_24 dX3_conNamed_11 rfl ?_
      refine g_iload_n dX3_conNamed_14 rfl ?_
      refine x_l34 (z := (P (crX o0 4) x2_2_0)) (ck_29_4 k_o0) dX3_conNamed_15 ⟨by omega, by omega⟩ rfl ?_
      refine g_iload_n dX3_conNamed_16 rfl ?_
      have f44 := bx_34 (o := (crX o0 4)) (k := x2_2_0) hB (ck_29_4 k_o0)
      refine g_icmp_ne (tgt := 22) dX3_conNamed_17 (by decide) ⟨by have q0 := bx_34 (o := (crX o0 4)) (k := x2_2_0) hB (ck_29_4 k_o0); omega, by have q0 := bx_34 (o := (crX o0 4)) (k := x2_2_0) hB (ck_29_4 k_o0); omega⟩ ⟨by omega, by omega⟩ (fun k45 => ?_) (fun k45 => ?_)
      · have hnx : ∀ q : Int, 0 ≤ q → q < x2_2_0 + 1 → P (crX o0 4) q ≠ a1 := by
          intro q q0 q1
          by_cases e : q = x2_2_0
          · rw [e]; (omega)
          · exact i2_0_0 q q0 (by (clear k45; omega))
        refine g_iinc (l1 := [(2, vI (x2_2_0 + 1)), (0, vR o0), (1, vI a1)]) dX3_conNamed_22 rfl (by decide) rfl ?_
        refine g_goto (tgt := 2) dX3_conNamed_25 (by decide) ?_
        refine g_forget (l1 := [(0, vR o0), (1, vI a1), (2, vI (x2_2_0 + 1))]) (by intro q hq; simp only [List.mem_cons, List.not_mem_nil, or_false] at hq ⊢; rcases hq with rfl | rfl | rfl <;> simp) ?_
        exact ih2_0 (x2_2_0 + 1) ⟨by (clear k45; omega), by (clear k45; omega)⟩ (by first | exact hnx | (intro q q0 q1; exfalso; (first | (clear k45; omega) | omega))) (by (clear k45; omega))
      · refine g_iload_n dX3_conNamed_20 rfl ?_
        exact g_retI dX3_conNamed_21 rfl (hQ x2_2_0 ⟨by (clear k45; omega), by (clear k45; omega)⟩ ((fxi_some (g := fun i => P (crX o0 4) i) (by (clear k45; omega)) (by show P (crX o0 4) _ = a1; (omega)) (fun q q0 q1 => i2_0_0 q q0 q1) _ (by (clear k45; omega))).symm.trans (z0.cn a1)))
  refine g_forget (l1 := [(0, vR o0), (1, vI a1), (2, vI 0)]) (by intro q hq; simp only [List.mem_cons, List.not_mem_nil, or_false] at hq ⊢; rcases hq with rfl | rfl | rfl <;> simp) ?_
  exact L2_0 _ 0 (by decide) (by first | exact hnx | (intro q q0 q1; exfalso; omega)) (Nat.lt_succ_self _)
/-! What the class answers: X3_conNamedOf. -/
set_option maxRecDepth 100000 in
set_option maxHeartbeats 4000000 in
theorem f_X3_conNamedOf (G : GT) (P : PH) (K : PH) (o0 : Nat) (a1 : Int) (a2 : Int) (k_o0 : kx o0 29) (h_a1 : (-2147483648) ≤ a1 ∧ a1 ≤ 2147483647) (h_a2 : (-2147483648) ≤ a2 ∧ a2 ≤ 2147483647) (hB : BdX P) (p_aw : AW K) (p_kb : 0 ≤ a1 ∧ a1 < K 0 0) (z0 : XK K o0 P) (Q : Option PV → PH → Prop) (hQ : ∀ (r : Int) (_ : (-1) ≤ r ∧ r ≤ 23) (_ : (r = -1 ∧ (cNm K a2 = -1 ∨ K 5 (cNm K a2) ≠ a1)) ∨ (r = cNm K a2 ∧ 0 ≤ r ∧ r < K 0 1 ∧ K 5 (cNm K a2) = a1)), Q (some (vI r)) P) : Ct WSX G 2 iX3_conNamedOf [vR o0, vI a1, vI a2] P Q := by
  refine Ct.of (by decide) (l0 := [(0, vR o0), (1, vI a1), (2, vI a2)]) rfl (Nat.le_of_ble_eq_true rfl) ?_
  have hb := z0.b
  have hb9 := p_aw.2.1 a1 p_kb.1 p_kb.2
  have hk0 := p_aw.1
  have hk := z0.k p_kb.1 p_kb.2
  have hcb := cNm_b p_aw a2
  have hif := p_aw.2.2.2 (cNm K a2) a1
  have hif2 : cNm K a2 = -1 ∨ (K 5 (cNm K a2) = a1 ∧ K 9 a1 ≤ cNm K a2 ∧ cNm K a2 < K 9 a1 + K 3 a1) ∨ (K 5 (cNm K a2) ≠ a1 ∧ ¬ (K 9 a1 ≤ cNm K a2 ∧ cNm K a2 < K 9 a1 + K 3 a1)) := by
    by_cases z : cNm K a2 = -1
    · exact Or.inl z
    · have q := hif (by (clear hb; omega)) (by (clear hb; omega)) p_kb.1 p_kb.2
      by_cases w : K 5 (cNm K a2) = a1
      · exact Or.inr (Or.inl ⟨w, q.mp w⟩)
      · exact Or.inr (Or.inr ⟨w, fun u => w (q.mpr u)⟩)
  clear hif
  refine g_aload_n dX3_conNamedOf_0 rfl ?_
  refine g_iload_n dX3_conNamedOf_1 rfl ?_
  refine g_vI (av := [vI a2]) (o := o0) (st := []) (f_X3_conNamed G P K o0 a2 k_o0 ⟨by (clear hb hif2; omega), by (clear hb hif2; omega)⟩ hB (z0) _ (fun rc1 hc1 gc1_fx => ⟨rc1, rfl, ?_⟩)) cf_X3_conNamed t_831 rfl (show kx o0 29 from k_o0).1 ((show kx o0 29 from k_o0).sh rfl) rfl rfl (Nat.le_of_ble_eq_true rfl) (by decide) rfl dX3_conNamedOf_2
  refine g_istore_n (l1 := [(3, vI rc1), (0, vR o0), (1, vI a1), (2, vI a2)]) dX3_conNamedOf_5 (by decide) rfl ?_
  refine g_iload_n dX3_conNamedOf_6 rfl ?_
  refine g_iconst dX3_conNamedOf_7 ?_
  refine g_icmp_eq (tgt := 19) dX3_conNamedOf_8 (by decide) ⟨by (clear hb hif2; omega), by (clear hb hif2; omega)⟩ (by decide) (fun k2 => ?_) (fun k2 => ?_)
  · skip
    refine g_iconst dX3_conNamedOf_19 ?_
    exact g_retI dX3_conNamedOf_20 rfl (hQ (-1) (by decide) (by (clear hb hif2; omega)))
  · have k2n : 0 ≤ rc1 := by (clear hb hif2; omega)
    clear k2
    skip
    refine g_aload_n dX3_conNamedOf_11 rfl ?_
    refine g_iload_n dX3_conNamedOf_12 rfl ?_
    refine g_vI (av := [vI a1]) (o := o0) (st := []) (f_X3_isKind G P o0 a1 k_o0 ⟨by (clear hb hif2; omega), by (clear hb hif2; omega)⟩ hB  _ (fun rc3 hc3 gc3_k gc3_f => ⟨rc3, rfl, ?_⟩)) cf_X3_isKind t_760 rfl (show kx o0 29 from k_o0).1 ((show kx o0 29 from k_o0).sh rfl) rfl rfl (Nat.le_of_ble_eq_true rfl) (by decide) rfl dX3_conNamedOf_13
    have f4 := bx_29_9 (o := o0) hB k_o0
    refine g_if_ne (tgt := 21) dX3_conNamedOf_16 (by decide) ⟨by (clear hb hif2 gc3_k gc3_f; omega), by (clear hb hif2 gc3_k gc3_f; omega)⟩ (fun k5 => ?_) (fun k5 => ?_)
    · have k5n : 1 ≤ rc3 := by (clear hb hif2 gc3_k gc3_f; omega)
      clear k5
      have r_gc3_f := (gc3_f.resolve_right (by (clear hb hif2 gc3_k gc3_f; omega)))
      have r_gc3_k := (gc3_k.resolve_left (by (clear hb hif2 gc3_k gc3_f; omega)))
      skip
      refine g_aload_n dX3_conNamedOf_21 rfl ?_
      refine x_g29_1 (n := (crX o0 1)) k_o0 ffX3_15 dX3_conNamedOf_22 rfl ?_
      refine g_iload_n dX3_conNamedOf_25 rfl ?_
      refine x_l31 (z := (P (crX o0 1) a1)) (ck_29_1 k_o0) dX3_conNamedOf_26 ⟨by (clear hb hif2 gc3_k gc3_f; omega), by (clear hb hif2 gc3_k gc3_f; omega)⟩ rfl ?_
      refine g_istore (l1 := [(4, vI (P (crX o0 1) a1)), (3, vI rc1), (0, vR o0), (1, vI a1), (2, vI a2)]) dX3_conNamedOf_27 (by decide) rfl ?_
      refine g_iload_n dX3_conNamedOf_29 rfl ?_
      refine g_iload dX3_conNamedOf_30 rfl ?_
      have f6 := bx_31 (o := (crX o0 1)) (k := a1) hB (ck_29_1 k_o0)
      refine g_icmp_lt (tgt := 52) dX3_conNamedOf_32 (by decide) ⟨by (clear hb hif2 gc3_k gc3_f; omega), by (clear hb hif2 gc3_k gc3_f; omega)⟩ ⟨by have q0 := bx_31 (o := (crX o0 1)) (k := a1) hB (ck_29_1 k_o0); (clear hb hif2 gc3_k gc3_f; omega), by have q0 := bx_31 (o := (crX o0 1)) (k := a1) hB (ck_29_1 k_o0); (clear hb hif2 gc3_k gc3_f; omega)⟩ (fun k7 => ?_) (fun k7 => ?_)
      · skip
        skip
        have r_hif2 := ((hif2.resolve_left (by (clear hb hif2 gc3_k gc3_f; omega))).resolve_left (by (clear hb hif2 gc3_k gc3_f; omega)))
        refine g_iconst dX3_conNamedOf_52 ?_
        exact g_retI dX3_conNamedOf_53 rfl (hQ (-1) (by decide) (by (clear hb hif2 gc3_k gc3_f; omega)))
      · skip
        skip
        skip
        refine g_iload_n dX3_conNamedOf_35 rfl ?_
        refine g_iload dX3_conNamedOf_36 rfl ?_
        refine g_aload_n dX3_conNamedOf_38 rfl ?_
        refine x_g29_2 (n := (crX o0 2)) k_o0 ffX3_18 dX3_conNamedOf_39 rfl ?_
        refine g_iload_n dX3_conNamedOf_42 rfl ?_
        refine x_l32 (z := (P (crX o0 2) a1)) (ck_29_2 k_o0) dX3_conNamedOf_43 ⟨by (clear hb hif2 gc3_k gc3_f; omega), by (clear hb hif2 gc3_k gc3_f; omega)⟩ rfl ?_
        refine g_iadd dX3_conNamedOf_44 ?_
        have f8 := bx_32 (o := (crX o0 2)) (k := a1) hB (ck_29_2 k_o0)
        refine g_icmp_ge (tgt := 52) dX3_conNamedOf_45 (by decide) ⟨by (clear hb hif2 gc3_k gc3_f; omega), by (clear hb hif2 gc3_k gc3_f; omega)⟩ ⟨by have q0 := bx_31 (o := (crX o0 1)) (k := a1) hB (ck_29_1 k_o0); have q1 := bx_32 (o := (crX o0 2)) (k := a1) hB (ck_29_2 k_o0); (clear hb hif2 gc3_k gc3_f; omega), by have q0 := bx_31 (o := (crX o0 1)) (k := a1) hB (ck_29_1 k_o0); have q1 := bx_32 (o := (crX o0 2)) (k := a1) hB (ck_29_2 k_o0); (clear hb hif2 gc3_k gc3_f; omega)⟩ (fun k9 => ?_) (fun k9 => ?_)
        · skip
          skip
          skip
          refine g_iconst dX3_conNamedOf_52 ?_
          exact g_retI dX3_conNamedOf_53 rfl (hQ (-1) (by decide) (by (clear hb; omega)))
        · skip
          skip
          skip
          refine g_iload_n dX3_conNamedOf_48 rfl ?_
          refine g_goto (tgt := 53) dX3_conNamedOf_49 (by decide) ?_
          exact g_retI dX3_conNamedOf_53 rfl (hQ rc1 ⟨by (clear hb hif2 gc3_k gc3_f k9; omega), by (clear hb hif2 gc3_k gc3_f k9; omega)⟩ (by (clear hb; omega)))
    · skip
      skip
      skip
      refine g_iconst dX3_conNamedOf_19 ?_
      exact g_retI dX3_conNamedOf_20 rfl (hQ (-1) (by decide) (by (omega)))
/-! What the class answers: X3_clear. -/
set_option maxRecDepth 100000 in
set_option maxHeartbeats 4000000 in
theorem f_X3_clear (G : GT) (P : PH) (o0 : Nat) (k_o0 : kx o0 29) (hB : BdX P) (Q : Option PV → PH → Prop) (hQ : ∀ (P1 : PH) (_ : BdX P1) (_ : FrX ([(29, 9), (29, 10)], []) P P1) (_ : XK K0 o0 P1) (_ : KT (tbX o0) P P1), Q none P1) : Ct WSX G 1 iX3_clear [vR o0] P Q := by
  refine Ct.of (by decide) (l0 := [(0, vR o0)]) rfl (Nat.le_of_ble_eq_true rfl) ?_
  have kt0 : KT (tbX o0) P P := KT.rf
  refine g_aload_n dX3_clear_0 rfl ?_
  refine g_iconst dX3_clear_1 ?_
  refine x_p29_9 k_o0 pfX3_39 dX3_clear_2 ?_
  have hB1 := by_29_9 (z := 0) hB k_o0 (by decide)
  have kt2 : KT (tbX o0) P (up P o0 9 0) := KT.w kt0 (Or.inl rfl)
  refine g_aload_n dX3_clear_5 rfl ?_
  refine g_iconst dX3_clear_6 ?_
  refine x_p29_10 k_o0 pfX3_43 dX3_clear_7 ?_
  have hB3 := by_29_10 (z := 0) hB1 k_o0 (by decide)
  have kt4 : KT (tbX o0) P (up (up P o0 9 0) o0 10 0) := KT.w kt2 (Or.inl rfl)
  exact g_retV dX3_clear_10 rfl (hQ _ hB3 (FrX.s (FrX.s FrX.rf k_o0 rfl) k_o0 rfl) (XK.zero k_o0 ((up_k (by decide)).trans up_same) up_same) (kt4))
/-! What the class answers: X3_addKind. -/
set_option maxRecDepth 100000 in
set_option maxHeartbeats 4000000 in
theorem f_X3_addKind (G : GT) (P : PH) (K : PH) (o0 : Nat) (a1 : Int) (k_o0 : kx o0 29) (h_a1 : (-2147483648) ≤ a1 ∧ a1 ≤ 2147483647) (hB : BdX P) (p_k3 : 0 ≤ K 0 0 ∧ K 0 0 ≤ 3) (z0 : XK K o0 P) (Q : Option PV → PH → Prop) (hQ : ∀ (P1 : PH) (_ : BdX P1) (_ : FrX ([(29, 9)], [30, 31, 32, 33]) P P1) (_ : XK (kNew K a1) o0 P1) (_ : KT (tbX o0) P P1), Q none P1) : Ct WSX G 1 iX3_addKind [vR o0, vI a1] P Q := by
  refine Ct.of (by decide) (l0 := [(0, vR o0), (1, vI a1)]) rfl (Nat.le_of_ble_eq_true rfl) ?_
  have kt0 : KT (tbX o0) P P := KT.rf
  have hb := z0.b
  refine g_aload_n dX3_addKind_0 rfl ?_
  refine x_g29_9 (z := (P o0 9)) k_o0 ffX3_39 dX3_addKind_1 rfl ?_
  refine g_iconst dX3_addKind_4 ?_
  have f1 := bx_29_9 (o := o0) hB k_o0
  refine g_icmp_ge (tgt := 61) dX3_addKind_5 (by decide) ⟨by have q0 := bx_29_9 (o := o0) hB k_o0; (clear hb; omega), by have q0 := bx_29_9 (o := o0) hB k_o0; (clear hb; omega)⟩ (by decide) (fun k2 => ?_) (fun k2 => ?_)
  · exact g_retV dX3_addKind_61 rfl (hQ _ hB FrX.rf (by first | exact z0.kind rfl rfl rfl (fun j hj => rfl) rfl (fun j hj => rfl) rfl (fun j hj => rfl) rfl (fun j hj => rfl) (fun j => rfl) (fun j => rfl) (fun j => rfl) (fun j => rfl) (fun j => rfl) | (exfalso; (omega))) (kt0))
  · refine g_aload_n dX3_addKind_8 rfl ?_
    refine x_g29_0 (n := (crX o0 0)) k_o0 ffX3_9 dX3_addKind_9 rfl ?_
    refine g_aload_n dX3_addKind_12 rfl ?_
    refine x_g29_9 (z := (P o0 9)) k_o0 ffX3_39 dX3_addKind_13 rfl ?_
    refine g_iload_n dX3_addKind_16 rfl ?_
    refine x_s30 (ck_29_0 k_o0) dX3_addKind_17 ⟨by have q0 := bx_29_9 (o := o0) hB k_o0; (clear hb; omega), by have q0 := bx_29_9 (o := o0) hB k_o0; (clear hb; omega)⟩ ?_
    have hB3 := by_30 (z := a1) (k := (P o0 9)) hB (ck_29_0 k_o0) ⟨by (clear hb; omega), by (clear hb; omega)⟩
    have kt4 : KT (tbX o0) P (up P (crX o0 0) (P o0 9) a1) := KT.w kt0 (TB.c (Or.inl rfl) (k_o0).1 (by decide))
    refine g_aload_n dX3_addKind_18 rfl ?_
    refine x_g29_1 (n := (crX o0 1)) k_o0 ffX3_15 dX3_addKind_19 rfl ?_
    refine g_aload_n dX3_addKind_22 rfl ?_
    refine x_g29_9 (z := (P o0 9)) k_o0 ffX3_39 dX3_addKind_23 ((up_o (kx.ne k_o0 (ck_29_0 k_o0) rfl)).trans rfl) ?_
    refine g_aload_n dX3_addKind_26 rfl ?_
    refine x_g29_10 (z := (P o0 10)) k_o0 ffX3_43 dX3_addKind_27 ((up_o (kx.ne k_o0 (ck_29_0 k_o0) rfl)).trans rfl) ?_
    refine x_s31 (ck_29_1 k_o0) dX3_addKind_30 ⟨by have q0 := bx_29_9 (o := o0) hB k_o0; (clear hb; omega), by have q0 := bx_29_9 (o := o0) hB k_o0; (clear hb; omega)⟩ ?_
    have hB5 := by_31 (z := (P o0 10)) (k := (P o0 9)) hB3 (ck_29_1 k_o0) ⟨by have q0 := bx_29_10 (o := o0) hB k_o0; (clear hb; omega), by have q0 := bx_29_10 (o := o0) hB k_o0; (clear hb; omega)⟩
    have kt6 : KT (tbX o0) P (up (up P (crX o0 0) (P o0 9) a1) (crX o0 1) (P o0 9) (P o0 10)) := KT.w kt4 (TB.c (Or.inl rfl) (k_o0).1 (by decide))
    refine g_aload_n dX3_addKind_31 rfl ?_
    refine x_g29_2 (n := (crX o0 2)) k_o0 ffX3_18 dX3_addKind_32 rfl ?_
    refine g_aload_n dX3_addKind_35 rfl ?_
    refine x_g29_9 (z := (P o0 9)) k_o0 ffX3_39 dX3_addKind_36 ((up_o (kx.ne k_o0 (ck_29_1 k_o0) rfl)).trans ((up_o (kx.ne k_o0 (ck_29_0 k_o0) rfl)).trans rfl)) ?_
    refine g_iconst dX3_addKind_39 ?_
    refine x_s32 (ck_29_2 k_o0) dX3_addKind_40 ⟨by have q0 := bx_29_9 (o := o0) hB k_o0; (clear hb; omega), by have q0 := bx_29_9 (o := o0) hB k_o0; (clear hb; omega)⟩ ?_
    have hB7 := by_32 (z := 0) (k := (P o0 9)) hB5 (ck_29_2 k_o0) (by decide)
    have kt8 : KT (tbX o0) P (up (up (up P (crX o0 0) (P o0 9) a1) (crX o0 1) (P o0 9) (P o0 10)) (crX o0 2) (P o0 9) 0) := KT.w kt6 (TB.c (Or.inl rfl) (k_o0).1 (by decide))
    refine g_aload_n dX3_addKind_41 rfl ?_
    refine x_g29_3 (n := (crX o0 3)) k_o0 ffX3_21 dX3_addKind_42 rfl ?_
    refine g_aload_n dX3_addKind_45 rfl ?_
    refine x_g29_9 (z := (P o0 9)) k_o0 ffX3_39 dX3_addKind_46 ((up_o (kx.ne k_o0 (ck_29_2 k_o0) rfl)).trans ((up_o (kx.ne k_o0 (ck_29_1 k_o0) rfl)).trans ((up_o (kx.ne k_o0 (ck_29_0 k_o0) rfl)).trans rfl))) ?_
    refine g_iconst dX3_addKind_49 ?_
    refine x_s33 (ck_29_3 k_o0) dX3_addKind_50 ⟨by have q0 := bx_29_9 (o := o0) hB k_o0; (clear hb; omega), by have q0 := bx_29_9 (o := o0) hB k_o0; (clear hb; omega)⟩ ?_
    have hB9 := by_33 (z := 0) (k := (P o0 9)) hB7 (ck_29_3 k_o0) (by decide)
    have kt10 : KT (tbX o0) P (up (up (up (up P (crX o0 0) (P o0 9) a1) (crX o0 1) (P o0 9) (P o0 10)) (crX o0 2) (P o0 9) 0) (crX o0 3) (P o0 9) 0) := KT.w kt8 (TB.c (Or.inl rfl) (k_o0).1 (by decide))
    refine g_aload_n dX3_addKind_51 rfl ?_
    refine g_dup dX3_addKind_52 rfl ?_
    refine x_g29_9 (z := (P o0 9)) k_o0 ffX3_39 dX3_addKind_53 ((up_o (kx.ne k_o0 (ck_29_3 k_o0) rfl)).trans ((up_o (kx.ne k_o0 (ck_29_2 k_o0) rfl)).trans ((up_o (kx.ne k_o0 (ck_29_1 k_o0) rfl)).trans ((up_o (kx.ne k_o0 (ck_29_0 k_o0) rfl)).trans rfl)))) ?_
    refine g_iconst dX3_addKind_56 ?_
    refine g_iadd dX3_addKind_57 ?_
    refine x_p29_9 k_o0 pfX3_39 dX3_addKind_58 ?_
    have hB11 := by_29_9 (z := ((P o0 9) + 1)) hB9 k_o0 ⟨by have q0 := bx_29_9 (o := o0) hB k_o0; (clear hb; omega), by have q0 := bx_29_9 (o := o0) hB k_o0; (clear hb; omega)⟩
    have kt12 : KT (tbX o0) P (up (up (up (up (up P (crX o0 0) (P o0 9) a1) (crX o0 1) (P o0 9) (P o0 10)) (crX o0 2) (P o0 9) 0) (crX o0 3) (P o0 9) 0) o0 9 ((P o0 9) + 1)) := KT.w kt10 (Or.inl rfl)
    exact g_retV dX3_addKind_61 rfl (hQ _ hB11 (FrX.s (FrX.s (FrX.s (FrX.s (FrX.s FrX.rf (ck_29_0 k_o0) rfl) (ck_29_1 k_o0) rfl) (ck_29_2 k_o0) rfl) (ck_29_3 k_o0) rfl) k_o0 rfl) (by first | exact z0.kind up_same ((up_k (by decide)).trans ((up_o (kx.ne k_o0 (ck_29_3 k_o0) rfl)).trans ((up_o (kx.ne k_o0 (ck_29_2 k_o0) rfl)).trans ((up_o (kx.ne k_o0 (ck_29_1 k_o0) rfl)).trans ((up_o (kx.ne k_o0 (ck_29_0 k_o0) rfl)).trans rfl))))) ((up_o (kx.ne (ck_29_0 k_o0) k_o0 rfl)).trans ((up_o (kx.ne (ck_29_0 k_o0) (ck_29_3 k_o0) rfl)).trans ((up_o (kx.ne (ck_29_0 k_o0) (ck_29_2 k_o0) rfl)).trans ((up_o (kx.ne (ck_29_0 k_o0) (ck_29_1 k_o0) rfl)).trans up_same)))) (fun j hj => ((up_o (kx.ne (ck_29_0 k_o0) k_o0 rfl)).trans ((up_o (kx.ne (ck_29_0 k_o0) (ck_29_3 k_o0) rfl)).trans ((up_o (kx.ne (ck_29_0 k_o0) (ck_29_2 k_o0) rfl)).trans ((up_o (kx.ne (ck_29_0 k_o0) (ck_29_1 k_o0) rfl)).trans ((up_k hj).trans rfl)))))) ((up_o (kx.ne (ck_29_1 k_o0) k_o0 rfl)).trans ((up_o (kx.ne (ck_29_1 k_o0) (ck_29_3 k_o0) rfl)).trans ((up_o (kx.ne (ck_29_1 k_o0) (ck_29_2 k_o0) rfl)).trans up_same))) (fun j hj => ((up_o (kx.ne (ck_29_1 k_o0) k_o0 rfl)).trans ((up_o (kx.ne (ck_29_1 k_o0) (ck_29_3 k_o0) rfl)).trans ((up_o (kx.ne (ck_29_1 k_o0) (ck_29_2 k_o0) rfl)).trans ((up_k hj).trans ((up_o (kx.ne (ck_29_1 k_o0) (ck_29_0 k_o0) rfl)).trans rfl)))))) ((up_o (kx.ne (ck_29_2 k_o0) k_o0 rfl)).trans ((up_o (kx.ne (ck_29_2 k_o0) (ck_29_3 k_o0) rfl)).trans up_same)) (fun j hj => ((up_o (kx.ne (ck_29_2 k_o0) k_o0 rfl)).trans ((up_o (kx.ne (ck_29_2 k_o0) (ck_29_3 k_o0) rfl)).trans ((up_k hj).trans ((up_o (kx.ne (ck_29_2 k_o0) (ck_29_1 k_o0) rfl)).trans ((up_o (kx.ne (ck_29_2 k_o0) (ck_29_0 k_o0) rfl)).trans rfl)))))) ((up_o (kx.ne (ck_29_3 k_o0) k_o0 rfl)).trans up_same) (fun j hj => ((up_o (kx.ne (ck_29_3 k_o0) k_o0 rfl)).trans ((up_k hj).trans ((up_o (kx.ne (ck_29_3 k_o0) (ck_29_2 k_o0) rfl)).trans ((up_o (kx.ne (ck_29_3 k_o0) (ck_29_1 k_o0) rfl)).trans ((up_o (kx.ne (ck_29_3 k_o0) (ck_29_0 k_o0) rfl)).trans rfl)))))) (fun j => ((up_o (kx.ne (ck_29_4 k_o0) k_o0 rfl)).trans ((up_o (kx.ne (ck_29_4 k_o0) (ck_29_3 k_o0) rfl)).trans ((up_o (kx.ne (ck_29_4 k_o0) (ck_29_2 k_o0) rfl)).trans ((up_o (kx.ne (ck_29_4 k_o0) (ck_29_1 k_o0) rfl)).trans ((up_o (kx.ne (ck_29_4 k_o0) (ck_29_0 k_o0) rfl)).trans rfl)))))) (fun j => ((up_o (kx.ne (ck_29_5 k_o0) k_o0 rfl)).trans ((up_o (kx.ne (ck_29_5 k_o0) (ck_29_3 k_o0) rfl)).trans ((up_o (kx.ne (ck_29_5 k_o0) (ck_29_2 k_o0) rfl)).trans ((up_o (kx.ne (ck_29_5 k_o0) (ck_29_1 k_o0) rfl)).trans ((up_o (kx.ne (ck_29_5 k_o0) (ck_29_0 k_o0) rfl)).trans rfl)))))) (fun j => ((up_o (kx.ne (ck_29_6 k_o0) k_o0 rfl)).trans ((up_o (kx.ne (ck_29_6 k_o0) (ck_29_3 k_o0) rfl)).trans ((up_o (kx.ne (ck_29_6 k_o0) (ck_29_2 k_o0) rfl)).trans ((up_o (kx.ne (ck_29_6 k_o0) (ck_29_1 k_o0) rfl)).trans ((up_o (kx.ne (ck_29_6 k_o0) (ck_29_0 k_o0) rfl)).trans rfl)))))) (fun j => ((up_o (kx.ne (ck_29_7 k_o0) k_o0 rfl)).trans ((up_o (kx.ne (ck_29_7 k_o0) (ck_29_3 k_o0) rfl)).trans ((up_o (kx.ne (ck_29_7 k_o0) (ck_29_2 k_o0) rfl)).trans ((up_o (kx.ne (ck_29_7 k_o0) (ck_29_1 k_o0) rfl)).trans ((up_o (kx.ne (ck_29_7 k_o0) (ck_29_0 k_o0) rfl)).trans rfl)))))) (fun j => ((up_o (kx.ne (ck_29_8 k_o0) k_o0 rfl)).trans ((up_o (kx.ne (ck_29_8 k_o0) (ck_29_3 k_o0) rfl)).trans ((up_o (kx.ne (ck_29_8 k_o0) (ck_29_2 k_o0) rfl)).trans ((up_o (kx.ne (ck_29_8 k_o0) (ck_29_1 k_o0) rfl)).trans ((up_o (kx.ne (ck_29_8 k_o0) (ck_29_0 k_o0) rfl)).trans rfl)))))) | (exfalso; (first | (clear hb; omega) | omega))) (kt12))
end
section
/-! What the class answers: X3_addCon. -/
set_option maxRecDepth 100000 in
set_option maxHeartbeats 4000000 in
theorem f_X3_addCon (G : GT) (P : PH) (K : PH) (o0 : Nat) (a1 : Int) (a2 : Int) (a3 : Int) (a4 : Int) (a5 : Int) (k_o0 : kx o0 29) (h_a1 : (-2147483648) ≤ a1 ∧ a1 ≤ 2147483647) (h_a2 : (-2147483648) ≤ a2 ∧ a2 ≤ 2147483647) (h_a3 : (-2147483648) ≤ a3 ∧ a3 ≤ 2147483647) (h_a4 : (-2147483648) ≤ a4 ∧ a4 ≤ 2147483647) (h_a5 : (-2147483648) ≤ a5 ∧ a5 ≤ 2147483647) (hB : BdX P) (p_aw : AW K) (p_l5 : 1 ≤ K 0 0 ∧ K 3 (K 0 0 - 1) ≤ 5) (p_ib : 1 ≤ a5 ∧ a5 ≤ 4012000) (z0 : XK K o0 P) (Q : Option PV → PH → Prop) (hQ : ∀ (P1 : PH) (_ : BdX P1) (_ : FrX ([(29, 10)], [32, 33, 34, 35, 36, 37, 38]) P P1) (_ : XK (cNew K a1 a2 a3 a4 a5) o0 P1) (_ : KT (tbX o0) P P1), Q none P1) : Ct WSX G 2 iX3_addCon [vR o0, vI a1, vI a2, vI a3, vI a4, vI a5] P Q := by
  refine Ct.of (by decide) (l0 := [(0, vR o0), (1, vI a1), (2, vI a2), (3, vI a3), (4, vI a4), (5, vI a5)]) rfl (Nat.le_of_ble_eq_true rfl) ?_
  have kt0 : KT (tbX o0) P P := KT.rf
  have hb := z0.b
  have hk3 : P (crX o0 3) ((P o0 9) - 1) = K 2 (K 0 0 - 1) := by
    have q := (z0.k (k := P o0 9 - 1) (by (omega)) (by (omega))).2.2.2
    rw [show K 2 (P o0 9 - 1) = K 2 (K 0 0 - 1) by rw [hb.1]] at q
    exact q
  have hk := (z0.k (k := P o0 9 - 1) (by (omega)) (by (omega))).2.2.1
  rw [show K 3 (P o0 9 - 1) = K 3 (K 0 0 - 1) by rw [hb.1]] at hk
  have ha := p_aw.1
  have ha1 := p_aw.2.1 (K 0 0 - 1) (by (clear hb; omega)) (by (clear hb; omega))
  refine g_aload_n dX3_addCon_0 rfl ?_
  refine x_g29_9 (z := (P o0 9)) k_o0 ffX3_39 dX3_addCon_1 rfl ?_
  refine g_iconst dX3_addCon_4 ?_
  refine g_isub dX3_addCon_5 ?_
  refine g_istore (l1 := [(6, vI ((P o0 9) - 1)), (0, vR o0), (1, vI a1), (2, vI a2), (3, vI a3), (4, vI a4), (5, vI a5)]) dX3_addCon_6 (by decide) rfl ?_
  refine g_aload_n dX3_addCon_8 rfl ?_
  refine g_iload dX3_addCon_9 rfl ?_
  have f1 := bx_29_9 (o := o0) hB k_o0
  refine g_vI (av := [vI ((P o0 9) - 1)]) (o := o0) (st := []) (f_X3_isKind G P o0 ((P o0 9) - 1) k_o0 ⟨by have q0 := bx_29_9 (o := o0) hB k_o0; (clear hb; omega), by have q0 := bx_29_9 (o := o0) hB k_o0; (clear hb; omega)⟩ hB  _ (fun rc2 hc2 gc2_k gc2_f => ⟨rc2, rfl, ?_⟩)) cf_X3_isKind t_760 rfl (show kx o0 29 from k_o0).1 ((show kx o0 29 from k_o0).sh rfl) rfl rfl (Nat.le_of_ble_eq_true rfl) (by decide) rfl dX3_addCon_11
  refine g_if_eq (tgt := 131) dX3_addCon_14 (by decide) ⟨by (clear hb gc2_k gc2_f; omega), by (clear hb gc2_k gc2_f; omega)⟩ (fun k3 => ?_) (fun k3 => ?_)
  · exact g_retV dX3_addCon_131 rfl (hQ _ hB FrX.rf (by first | exact z0.con rfl rfl rfl (fun j hj => rfl) rfl (fun j hj => rfl) rfl (fun j hj => rfl) rfl (fun j hj => rfl) rfl (fun j hj => rfl) rfl (fun j hj => rfl) rfl (fun j hj => rfl) (fun j => rfl) (fun j => rfl) (by (clear hb gc2_k gc2_f; omega)) | (exfalso; (omega))) (kt0))
  · have k3n : 1 ≤ rc2 := by (clear hb gc2_k gc2_f; omega)
    clear k3
    have r_gc2_f := (gc2_f.resolve_right (by (clear hb gc2_k gc2_f; omega)))
    have r_gc2_k := (gc2_k.resolve_left (by (clear hb gc2_k gc2_f; omega)))
    refine g_aload_n dX3_addCon_17 rfl ?_
    refine x_g29_2 (n := (crX o0 2)) k_o0 ffX3_18 dX3_addCon_18 rfl ?_
    refine g_iload dX3_addCon_21 rfl ?_
    refine x_l32 (z := (P (crX o0 2) ((P o0 9) - 1))) (ck_29_2 k_o0) dX3_addCon_23 ⟨by have q0 := bx_29_9 (o := o0) hB k_o0; (clear hb gc2_k gc2_f; omega), by have q0 := bx_29_9 (o := o0) hB k_o0; (clear hb gc2_k gc2_f; omega)⟩ rfl ?_
    refine g_bipush dX3_addCon_24 (by decide) ?_
    have f4 := bx_32 (o := (crX o0 2)) (k := ((P o0 9) - 1)) hB (ck_29_2 k_o0)
    refine g_icmp_ge (tgt := 131) dX3_addCon_26 (by decide) ⟨by have q0 := bx_32 (o := (crX o0 2)) (k := ((P o0 9) - 1)) hB (ck_29_2 k_o0); (clear hb gc2_k gc2_f; omega), by have q0 := bx_32 (o := (crX o0 2)) (k := ((P o0 9) - 1)) hB (ck_29_2 k_o0); (clear hb gc2_k gc2_f; omega)⟩ (by decide) (fun k5 => ?_) (fun k5 => ?_)
    · exact g_retV dX3_addCon_131 rfl (hQ _ hB FrX.rf (by first | exact z0.con rfl rfl rfl (fun j hj => rfl) rfl (fun j hj => rfl) rfl (fun j hj => rfl) rfl (fun j hj => rfl) rfl (fun j hj => rfl) rfl (fun j hj => rfl) rfl (fun j hj => rfl) (fun j => rfl) (fun j => rfl) (by (clear hb gc2_k gc2_f k5; omega)) | (exfalso; (clear hb gc2_k gc2_f; omega))) (kt0))
    · skip
      skip
      refine g_aload_n dX3_addCon_29 rfl ?_
      refine x_g29_10 (z := (P o0 10)) k_o0 ffX3_43 dX3_addCon_30 rfl ?_
      refine g_aload_n dX3_addCon_33 rfl ?_
      refine x_g29_4 (n := (crX o0 4)) k_o0 ffX3_24 dX3_addCon_34 rfl ?_
      refine x_n34 (ck_29_4 k_o0) dX3_addCon_37 ?_
      have f6 := bx_29_10 (o := o0) hB k_o0
      refine g_icmp_ge (tgt := 131) dX3_addCon_38 (by decide) ⟨by have q0 := bx_29_10 (o := o0) hB k_o0; (clear hb gc2_k gc2_f k5; omega), by have q0 := bx_29_10 (o := o0) hB k_o0; (clear hb gc2_k gc2_f k5; omega)⟩ (by decide) (fun k7 => ?_) (fun k7 => ?_)
      · exact g_retV dX3_addCon_131 rfl (hQ _ hB FrX.rf (by first | exact z0.con rfl rfl rfl (fun j hj => rfl) rfl (fun j hj => rfl) rfl (fun j hj => rfl) rfl (fun j hj => rfl) rfl (fun j hj => rfl) rfl (fun j hj => rfl) rfl (fun j hj => rfl) (fun j => rfl) (fun j => rfl) (by (clear hb gc2_k gc2_f k5; omega)) | (exfalso; (clear gc2_k gc2_f k5; omega))) (kt0))
      · skip
        skip
        refine g_aload_n dX3_addCon_41 rfl ?_
        refine x_g29_4 (n := (crX o0 4)) k_o0 ffX3_24 dX3_addCon_42 rfl ?_
        refine g_aload_n dX3_addCon_45 rfl ?_
        refine x_g29_10 (z := (P o0 10)) k_o0 ffX3_43 dX3_addCon_46 rfl ?_
        refine g_iload_n dX3_addCon_49 rfl ?_
        refine x_s34 (ck_29_4 k_o0) dX3_addCon_50 ⟨by have q0 := bx_29_10 (o := o0) hB k_o0; (clear hb gc2_k gc2_f k5; omega), by have q0 := bx_29_10 (o := o0) hB k_o0; (clear hb gc2_k gc2_f k5; omega)⟩ ?_
        have hB8 := by_34 (z := a1) (k := (P o0 10)) hB (ck_29_4 k_o0) ⟨by (clear hb gc2_k gc2_f k5; omega), by (clear hb gc2_k gc2_f k5; omega)⟩
        have kt9 : KT (tbX o0) P (up P (crX o0 4) (P o0 10) a1) := KT.w kt0 (TB.c (Or.inl rfl) (k_o0).1 (by decide))
        refine g_aload_n dX3_addCon_51 rfl ?_
        refine x_g29_5 (n := (crX o0 5)) k_o0 ffX3_27 dX3_addCon_52 rfl ?_
        refine g_aload_n dX3_addCon_55 rfl ?_
        refine x_g29_10 (z := (P o0 10)) k_o0 ffX3_43 dX3_addCon_56 ((up_o (kx.ne k_o0 (ck_29_4 k_o0) rfl)).trans rfl) ?_
        refine g_aload_n dX3_addCon_59 rfl ?_
        refine x_g29_3 (n := (crX o0 3)) k_o0 ffX3_21 dX3_addCon_60 rfl ?_
        refine g_iload dX3_addCon_63 rfl ?_
        refine x_l33 (z := (P (crX o0 3) ((P o0 9) - 1))) (ck_29_3 k_o0) dX3_addCon_65 ⟨by have q0 := bx_29_9 (o := o0) hB k_o0; (clear hb gc2_k gc2_f k5; omega), by have q0 := bx_29_9 (o := o0) hB k_o0; (clear hb gc2_k gc2_f k5; omega)⟩ ((up_o (kx.ne (ck_29_3 k_o0) (ck_29_4 k_o0) rfl)).trans rfl) ?_
        refine x_s35 (ck_29_5 k_o0) dX3_addCon_66 ⟨by have q0 := bx_29_10 (o := o0) hB k_o0; (clear hb gc2_k gc2_f k5; omega), by have q0 := bx_29_10 (o := o0) hB k_o0; (clear hb gc2_k gc2_f k5; omega)⟩ ?_
        have hB10 := by_35 (z := (P (crX o0 3) ((P o0 9) - 1))) (k := (P o0 10)) hB8 (ck_29_5 k_o0) ⟨by have q0 := bx_33 (o := (crX o0 3)) (k := ((P o0 9) - 1)) hB (ck_29_3 k_o0); (clear hb gc2_k gc2_f k5; omega), by have q0 := bx_33 (o := (crX o0 3)) (k := ((P o0 9) - 1)) hB (ck_29_3 k_o0); (clear hb gc2_k gc2_f k5; omega)⟩
        have kt11 : KT (tbX o0) P (up (up P (crX o0 4) (P o0 10) a1) (crX o0 5) (P o0 10) (P (crX o0 3) ((P o0 9) - 1))) := KT.w kt9 (TB.c (Or.inl rfl) (k_o0).1 (by decide))
        refine g_aload_n dX3_addCon_67 rfl ?_
        refine x_g29_6 (n := (crX o0 6)) k_o0 ffX3_30 dX3_addCon_68 rfl ?_
        refine g_aload_n dX3_addCon_71 rfl ?_
        refine x_g29_10 (z := (P o0 10)) k_o0 ffX3_43 dX3_addCon_72 ((up_o (kx.ne k_o0 (ck_29_5 k_o0) rfl)).trans ((up_o (kx.ne k_o0 (ck_29_4 k_o0) rfl)).trans rfl)) ?_
        refine g_iload_n dX3_addCon_75 rfl ?_
        refine x_s36 (ck_29_6 k_o0) dX3_addCon_76 ⟨by have q0 := bx_29_10 (o := o0) hB k_o0; (clear hb gc2_k gc2_f k5; omega), by have q0 := bx_29_10 (o := o0) hB k_o0; (clear hb gc2_k gc2_f k5; omega)⟩ ?_
        have hB12 := by_36 (z := a2) (k := (P o0 10)) hB10 (ck_29_6 k_o0) ⟨by (clear hb gc2_k gc2_f k5; omega), by (clear hb gc2_k gc2_f k5; omega)⟩
        have kt13 : KT (tbX o0) P (up (up (up P (crX o0 4) (P o0 10) a1) (crX o0 5) (P o0 10) (P (crX o0 3) ((P o0 9) - 1))) (crX o0 6) (P o0 10) a2) := KT.w kt11 (TB.c (Or.inl rfl) (k_o0).1 (by decide))
        refine g_aload_n dX3_addCon_77 rfl ?_
        refine x_g29_7 (n := (crX o0 7)) k_o0 ffX3_33 dX3_addCon_78 rfl ?_
        refine g_aload_n dX3_addCon_81 rfl ?_
        refine x_g29_10 (z := (P o0 10)) k_o0 ffX3_43 dX3_addCon_82 ((up_o (kx.ne k_o0 (ck_29_6 k_o0) rfl)).trans ((up_o (kx.ne k_o0 (ck_29_5 k_o0) rfl)).trans ((up_o (kx.ne k_o0 (ck_29_4 k_o0) rfl)).trans rfl))) ?_
        refine g_iload_n dX3_addCon_85 rfl ?_
        refine x_s37 (ck_29_7 k_o0) dX3_addCon_86 ⟨by have q0 := bx_29_10 (o := o0) hB k_o0; (clear hb gc2_k gc2_f k5; omega), by have q0 := bx_29_10 (o := o0) hB k_o0; (clear hb gc2_k gc2_f k5; omega)⟩ ?_
        have hB14 := by_37 (z := a3) (k := (P o0 10)) hB12 (ck_29_7 k_o0) ⟨by (clear hb gc2_k gc2_f k5; omega), by (clear hb gc2_k gc2_f k5; omega)⟩
        have kt15 : KT (tbX o0) P (up (up (up (up P (crX o0 4) (P o0 10) a1) (crX o0 5) (P o0 10) (P (crX o0 3) ((P o0 9) - 1))) (crX o0 6) (P o0 10) a2) (crX o0 7) (P o0 10) a3) := KT.w kt13 (TB.c (Or.inl rfl) (k_o0).1 (by decide))
        refine g_aload_n dX3_addCon_87 rfl ?_
        refine x_g29_8 (n := (crX o0 8)) k_o0 ffX3_36 dX3_addCon_88 rfl ?_
        refine g_aload_n dX3_addCon_91 rfl ?_
        refine x_g29_10 (z := (P o0 10)) k_o0 ffX3_43 dX3_addCon_92 ((up_o (kx.ne k_o0 (ck_29_7 k_o0) rfl)).trans ((up_o (kx.ne k_o0 (ck_29_6 k_o0) rfl)).trans ((up_o (kx.ne k_o0 (ck_29_5 k_o0) rfl)).trans ((up_o (kx.ne k_o0 (ck_29_4 k_o0) rfl)).trans rfl)))) ?_
        refine g_iload dX3_addCon_95 rfl ?_
        refine x_s38 (ck_29_8 k_o0) dX3_addCon_97 ⟨by have q0 := bx_29_10 (o := o0) hB k_o0; (clear hb gc2_k gc2_f k5; omega), by have q0 := bx_29_10 (o := o0) hB k_o0; (clear hb gc2_k gc2_f k5; omega)⟩ ?_
        have hB16 := by_38 (z := a4) (k := (P o0 10)) hB14 (ck_29_8 k_o0) ⟨by (clear hb gc2_k gc2_f k5; omega), by (clear hb gc2_k gc2_f k5; omega)⟩
        have kt17 : KT (tbX o0) P (up (up (up (up (up P (crX o0 4) (P o0 10) a1) (crX o0 5) (P o0 10) (P (crX o0 3) ((P o0 9) - 1))) (crX o0 6) (P o0 10) a2) (crX o0 7) (P o0 10) a3) (crX o0 8) (P o0 10) a4) := KT.w kt15 (TB.c (Or.inl rfl) (k_o0).1 (by decide))
        refine g_aload_n dX3_addCon_98 rfl ?_
        refine g_dup dX3_addCon_99 rfl ?_
        refine x_g29_10 (z := (P o0 10)) k_o0 ffX3_43 dX3_addCon_100 ((up_o (kx.ne k_o0 (ck_29_8 k_o0) rfl)).trans ((up_o (kx.ne k_o0 (ck_29_7 k_o0) rfl)).trans ((up_o (kx.ne k_o0 (ck_29_6 k_o0) rfl)).trans ((up_o (kx.ne k_o0 (ck_29_5 k_o0) rfl)).trans ((up_o (kx.ne k_o0 (ck_29_4 k_o0) rfl)).trans rfl))))) ?_
        refine g_iconst dX3_addCon_103 ?_
        refine g_iadd dX3_addCon_104 ?_
        refine x_p29_10 k_o0 pfX3_43 dX3_addCon_105 ?_
        have hB18 := by_29_10 (z := ((P o0 10) + 1)) hB16 k_o0 ⟨by have q0 := bx_29_10 (o := o0) hB k_o0; (clear hb gc2_k gc2_f k5; omega), by have q0 := bx_29_10 (o := o0) hB k_o0; (clear hb gc2_k gc2_f k5; omega)⟩
        have kt19 : KT (tbX o0) P (up (up (up (up (up (up P (crX o0 4) (P o0 10) a1) (crX o0 5) (P o0 10) (P (crX o0 3) ((P o0 9) - 1))) (crX o0 6) (P o0 10) a2) (crX o0 7) (P o0 10) a3) (crX o0 8) (P o0 10) a4) o0 10 ((P o0 10) + 1)) := KT.w kt17 (Or.inl rfl)
        refine g_aload_n dX3_addCon_108 rfl ?_
        refine x_g29_2 (n := (crX o0 2)) k_o0 ffX3_18 dX3_addCon_109 rfl ?_
        refine g_iload dX3_addCon_112 rfl ?_
        refine g_dup2 dX3_addCon_114 rfl rfl ?_
        refine x_l32 (z := (P (crX o0 2) ((P o0 9) - 1))) (ck_29_2 k_o0) dX3_addCon_115 ⟨by have q0 := bx_29_9 (o := o0) hB k_o0; (clear hb gc2_k gc2_f k5; omega), by have q0 := bx_29_9 (o := o0) hB k_o0; (clear hb gc2_k gc2_f k5; omega)⟩ ((up_o (kx.ne (ck_29_2 k_o0) k_o0 rfl)).trans ((up_o (kx.ne (ck_29_2 k_o0) (ck_29_8 k_o0) rfl)).trans ((up_o (kx.ne (ck_29_2 k_o0) (ck_29_7 k_o0) rfl)).trans ((up_o (kx.ne (ck_29_2 k_o0) (ck_29_6 k_o0) rfl)).trans ((up_o (kx.ne (ck_29_2 k_o0) (ck_29_5 k_o0) rfl)).trans ((up_o (kx.ne (ck_29_2 k_o0) (ck_29_4 k_o0) rfl)).trans rfl)))))) ?_
        refine g_iconst dX3_addCon_116 ?_
        refine g_iadd dX3_addCon_117 ?_
        refine x_s32 (ck_29_2 k_o0) dX3_addCon_118 ⟨by have q0 := bx_29_9 (o := o0) hB k_o0; (clear hb gc2_k gc2_f k5; omega), by have q0 := bx_29_9 (o := o0) hB k_o0; (clear hb gc2_k gc2_f k5; omega)⟩ ?_
        have hB20 := by_32 (z := ((P (crX o0 2) ((P o0 9) - 1)) + 1)) (k := ((P o0 9) - 1)) hB18 (ck_29_2 k_o0) ⟨by have q0 := bx_32 (o := (crX o0 2)) (k := ((P o0 9) - 1)) hB (ck_29_2 k_o0); (clear hb gc2_k gc2_f k5; omega), by have q0 := bx_32 (o := (crX o0 2)) (k := ((P o0 9) - 1)) hB (ck_29_2 k_o0); (clear hb gc2_k gc2_f k5; omega)⟩
        have kt21 : KT (tbX o0) P (up (up (up (up (up (up (up P (crX o0 4) (P o0 10) a1) (crX o0 5) (P o0 10) (P (crX o0 3) ((P o0 9) - 1))) (crX o0 6) (P o0 10) a2) (crX o0 7) (P o0 10) a3) (crX o0 8) (P o0 10) a4) o0 10 ((P o0 10) + 1)) (crX o0 2) ((P o0 9) - 1) ((P (crX o0 2) ((P o0 9) - 1)) + 1)) := KT.w kt19 (TB.c (Or.inl rfl) (k_o0).1 (by decide))
        refine g_aload_n dX3_addCon_119 rfl ?_
        refine x_g29_3 (n := (crX o0 3)) k_o0 ffX3_21 dX3_addCon_120 rfl ?_
        refine g_iload dX3_addCon_123 rfl ?_
        refine g_dup2 dX3_addCon_125 rfl rfl ?_
        refine x_l33 (z := (P (crX o0 3) ((P o0 9) - 1))) (ck_29_3 k_o0) dX3_addCon_126 ⟨by have q0 := bx_29_9 (o := o0) hB k_o0; (clear hb gc2_k gc2_f k5; omega), by have q0 := bx_29_9 (o := o0) hB k_o0; (clear hb gc2_k gc2_f k5; omega)⟩ ((up_o (kx.ne (ck_29_3 k_o0) (ck_29_2 k_o0) rfl)).trans ((up_o (kx.ne (ck_29_3 k_o0) k_o0 rfl)).trans ((up_o (kx.ne (ck_29_3 k_o0) (ck_29_8 k_o0) rfl)).trans ((up_o (kx.ne (ck_29_3 k_o0) (ck_29_7 k_o0) rfl)).trans ((up_o (kx.ne (ck_29_3 k_o0) (ck_29_6 k_o0) rfl)).trans ((up_o (kx.ne (ck_29_3 k_o0) (ck_29_5 k_o0) rfl)).trans ((up_o (kx.ne (ck_29_3 k_o0) (ck_29_4 k_o0) rfl)).trans rfl))))))) ?_
        refine g_iload dX3_addCon_127 rfl ?_
        refine g_iadd dX3_addCon_129 ?_
        refine x_s33 (ck_29_3 k_o0) dX3_addCon_130 ⟨by have q0 := bx_29_9 (o := o0) hB k_o0; (clear hb gc2_k gc2_f k5; omega), by have q0 := bx_29_9 (o := o0) hB k_o0; (clear hb gc2_k gc2_f k5; omega)⟩ ?_
        have hB22 := by_33 (z := ((P (crX o0 3) ((P o0 9) - 1)) + a5)) (k := ((P o0 9) - 1)) hB20 (ck_29_3 k_o0) ⟨by have q0 := bx_33 (o := (crX o0 3)) (k := ((P o0 9) - 1)) hB (ck_29_3 k_o0); (clear hb gc2_k gc2_f k5; omega), by have q0 := bx_33 (o := (crX o0 3)) (k := ((P o0 9) - 1)) hB (ck_29_3 k_o0); (clear hb gc2_k gc2_f k5; omega)⟩
        have kt23 : KT (tbX o0) P (up (up (up (up (up (up (up (up P (crX o0 4) (P o0 10) a1) (crX o0 5) (P o0 10) (P (crX o0 3) ((P o0 9) - 1))) (crX o0 6) (P o0 10) a2) (crX o0 7) (P o0 10) a3) (crX o0 8) (P o0 10) a4) o0 10 ((P o0 10) + 1)) (crX o0 2) ((P o0 9) - 1) ((P (crX o0 2) ((P o0 9) - 1)) + 1)) (crX o0 3) ((P o0 9) - 1) ((P (crX o0 3) ((P o0 9) - 1)) + a5)) := KT.w kt21 (TB.c (Or.inl rfl) (k_o0).1 (by decide))
        exact g_retV dX3_addCon_131 rfl (hQ _ hB22 (FrX.s (FrX.s (FrX.s (FrX.s (FrX.s (FrX.s (FrX.s (FrX.s FrX.rf (ck_29_4 k_o0) rfl) (ck_29_5 k_o0) rfl) (ck_29_6 k_o0) rfl) (ck_29_7 k_o0) rfl) (ck_29_8 k_o0) rfl) k_o0 rfl) (ck_29_2 k_o0) rfl) (ck_29_3 k_o0) rfl) (by first | exact z0.con ((up_o (kx.ne k_o0 (ck_29_3 k_o0) rfl)).trans ((up_o (kx.ne k_o0 (ck_29_2 k_o0) rfl)).trans ((up_k (by decide)).trans ((up_o (kx.ne k_o0 (ck_29_8 k_o0) rfl)).trans ((up_o (kx.ne k_o0 (ck_29_7 k_o0) rfl)).trans ((up_o (kx.ne k_o0 (ck_29_6 k_o0) rfl)).trans ((up_o (kx.ne k_o0 (ck_29_5 k_o0) rfl)).trans ((up_o (kx.ne k_o0 (ck_29_4 k_o0) rfl)).trans rfl)))))))) ((up_o (kx.ne k_o0 (ck_29_3 k_o0) rfl)).trans ((up_o (kx.ne k_o0 (ck_29_2 k_o0) rfl)).trans up_same)) ((up_o (kx.ne (ck_29_4 k_o0) (ck_29_3 k_o0) rfl)).trans ((up_o (kx.ne (ck_29_4 k_o0) (ck_29_2 k_o0) rfl)).trans ((up_o (kx.ne (ck_29_4 k_o0) k_o0 rfl)).trans ((up_o (kx.ne (ck_29_4 k_o0) (ck_29_8 k_o0) rfl)).trans ((up_o (kx.ne (ck_29_4 k_o0) (ck_29_7 k_o0) rfl)).trans ((up_o (kx.ne (ck_29_4 k_o0) (ck_29_6 k_o0) rfl)).trans ((up_o (kx.ne (ck_29_4 k_o0) (ck_29_5 k_o0) rfl)).trans up_same))))))) (fun j hj => ((up_o (kx.ne (ck_29_4 k_o0) (ck_29_3 k_o0) rfl)).trans ((up_o (kx.ne (ck_29_4 k_o0) (ck_29_2 k_o0) rfl)).trans ((up_o (kx.ne (ck_29_4 k_o0) k_o0 rfl)).trans ((up_o (kx.ne (ck_29_4 k_o0) (ck_29_8 k_o0) rfl)).trans ((up_o (kx.ne (ck_29_4 k_o0) (ck_29_7 k_o0) rfl)).trans ((up_o (kx.ne (ck_29_4 k_o0) (ck_29_6 k_o0) rfl)).trans ((up_o (kx.ne (ck_29_4 k_o0) (ck_29_5 k_o0) rfl)).trans ((up_k hj).trans rfl))))))))) ((up_o (kx.ne (ck_29_5 k_o0) (ck_29_3 k_o0) rfl)).trans ((up_o (kx.ne (ck_29_5 k_o0) (ck_29_2 k_o0) rfl)).trans ((up_o (kx.ne (ck_29_5 k_o0) k_o0 rfl)).trans ((up_o (kx.ne (ck_29_5 k_o0) (ck_29_8 k_o0) rfl)).trans ((up_o (kx.ne (ck_29_5 k_o0) (ck_29_7 k_o0) rfl)).trans ((up_o (kx.ne (ck_29_5 k_o0) (ck_29_6 k_o0) rfl)).trans up_same)))))) (fun j hj => ((up_o (kx.ne (ck_29_5 k_o0) (ck_29_3 k_o0) rfl)).trans ((up_o (kx.ne (ck_29_5 k_o0) (ck_29_2 k_o0) rfl)).trans ((up_o (kx.ne (ck_29_5 k_o0) k_o0 rfl)).trans ((up_o (kx.ne (ck_29_5 k_o0) (ck_29_8 k_o0) rfl)).trans ((up_o (kx.ne (ck_29_5 k_o0) (ck_29_7 k_o0) rfl)).trans ((up_o (kx.ne (ck_29_5 k_o0) (ck_29_6 k_o0) rfl)).trans ((up_k hj).trans ((up_o (kx.ne (ck_29_5 k_o0) (ck_29_4 k_o0) rfl)).trans rfl))))))))) ((up_o (kx.ne (ck_29_6 k_o0) (ck_29_3 k_o0) rfl)).trans ((up_o (kx.ne (ck_29_6 k_o0) (ck_29_2 k_o0) rfl)).trans ((up_o (kx.ne (ck_29_6 k_o0) k_o0 rfl)).trans ((up_o (kx.ne (ck_29_6 k_o0) (ck_29_8 k_o0) rfl)).trans ((up_o (kx.ne (ck_29_6 k_o0) (ck_29_7 k_o0) rfl)).trans up_same))))) (fun j hj => ((up_o (kx.ne (ck_29_6 k_o0) (ck_29_3 k_o0) rfl)).trans ((up_o (kx.ne (ck_29_6 k_o0) (ck_29_2 k_o0) rfl)).trans ((up_o (kx.ne (ck_29_6 k_o0) k_o0 rfl)).trans ((up_o (kx.ne (ck_29_6 k_o0) (ck_29_8 k_o0) rfl)).trans ((up_o (kx.ne (ck_29_6 k_o0) (ck_29_7 k_o0) rfl)).trans ((up_k hj).trans ((up_o (kx.ne (ck_29_6 k_o0) (ck_29_5 k_o0) rfl)).trans ((up_o (kx.ne (ck_29_6 k_o0) (ck_29_4 k_o0) rfl)).trans rfl))))))))) ((up_o (kx.ne (ck_29_7 k_o0) (ck_29_3 k_o0) rfl)).trans ((up_o (kx.ne (ck_29_7 k_o0) (ck_29_2 k_o0) rfl)).trans ((up_o (kx.ne (ck_29_7 k_o0) k_o0 rfl)).trans ((up_o (kx.ne (ck_29_7 k_o0) (ck_29_8 k_o0) rfl)).trans up_same)))) (fun j hj => ((up_o (kx.ne (ck_29_7 k_o0) (ck_29_3 k_o0) rfl)).trans ((up_o (kx.ne (ck_29_7 k_o0) (ck_29_2 k_o0) rfl)).trans ((up_o (kx.ne (ck_29_7 k_o0) k_o0 rfl)).trans ((up_o (kx.ne (ck_29_7 k_o0) (ck_29_8 k_o0) rfl)).trans ((up_k hj).trans ((up_o (kx.ne (ck_29_7 k_o0) (ck_29_6 k_o0) rfl)).trans ((up_o (kx.ne (ck_29_7 k_o0) (ck_29_5 k_o0) rfl)).trans ((up_o (kx.ne (ck_29_7 k_o0) (ck_29_4 k_o0) rfl)).trans rfl))))))))) ((up_o (kx.ne (ck_29_8 k_o0) (ck_29_3 k_o0) rfl)).trans ((up_o (kx.ne (ck_29_8 k_o0) (ck_29_2 k_o0) rfl)).trans ((up_o (kx.ne (ck_29_8 k_o0) k_o0 rfl)).trans up_same))) (fun j hj => ((up_o (kx.ne (ck_29_8 k_o0) (ck_29_3 k_o0) rfl)).trans ((up_o (kx.ne (ck_29_8 k_o0) (ck_29_2 k_o0) rfl)).trans ((up_o (kx.ne (ck_29_8 k_o0) k_o0 rfl)).trans ((up_k hj).trans ((up_o (kx.ne (ck_29_8 k_o0) (ck_29_7 k_o0) rfl)).trans ((up_o (kx.ne (ck_29_8 k_o0) (ck_29_6 k_o0) rfl)).trans ((up_o (kx.ne (ck_29_8 k_o0) (ck_29_5 k_o0) rfl)).trans ((up_o (kx.ne (ck_29_8 k_o0) (ck_29_4 k_o0) rfl)).trans rfl))))))))) ((up_o (kx.ne (ck_29_2 k_o0) (ck_29_3 k_o0) rfl)).trans up_same) (fun j hj => ((up_o (kx.ne (ck_29_2 k_o0) (ck_29_3 k_o0) rfl)).trans ((up_k hj).trans ((up_o (kx.ne (ck_29_2 k_o0) k_o0 rfl)).trans ((up_o (kx.ne (ck_29_2 k_o0) (ck_29_8 k_o0) rfl)).trans ((up_o (kx.ne (ck_29_2 k_o0) (ck_29_7 k_o0) rfl)).trans ((up_o (kx.ne (ck_29_2 k_o0) (ck_29_6 k_o0) rfl)).trans ((up_o (kx.ne (ck_29_2 k_o0) (ck_29_5 k_o0) rfl)).trans ((up_o (kx.ne (ck_29_2 k_o0) (ck_29_4 k_o0) rfl)).trans rfl))))))))) up_same (fun j hj => ((up_k hj).trans ((up_o (kx.ne (ck_29_3 k_o0) (ck_29_2 k_o0) rfl)).trans ((up_o (kx.ne (ck_29_3 k_o0) k_o0 rfl)).trans ((up_o (kx.ne (ck_29_3 k_o0) (ck_29_8 k_o0) rfl)).trans ((up_o (kx.ne (ck_29_3 k_o0) (ck_29_7 k_o0) rfl)).trans ((up_o (kx.ne (ck_29_3 k_o0) (ck_29_6 k_o0) rfl)).trans ((up_o (kx.ne (ck_29_3 k_o0) (ck_29_5 k_o0) rfl)).trans ((up_o (kx.ne (ck_29_3 k_o0) (ck_29_4 k_o0) rfl)).trans rfl))))))))) (fun j => ((up_o (kx.ne (ck_29_0 k_o0) (ck_29_3 k_o0) rfl)).trans ((up_o (kx.ne (ck_29_0 k_o0) (ck_29_2 k_o0) rfl)).trans ((up_o (kx.ne (ck_29_0 k_o0) k_o0 rfl)).trans ((up_o (kx.ne (ck_29_0 k_o0) (ck_29_8 k_o0) rfl)).trans ((up_o (kx.ne (ck_29_0 k_o0) (ck_29_7 k_o0) rfl)).trans ((up_o (kx.ne (ck_29_0 k_o0) (ck_29_6 k_o0) rfl)).trans ((up_o (kx.ne (ck_29_0 k_o0) (ck_29_5 k_o0) rfl)).trans ((up_o (kx.ne (ck_29_0 k_o0) (ck_29_4 k_o0) rfl)).trans rfl))))))))) (fun j => ((up_o (kx.ne (ck_29_1 k_o0) (ck_29_3 k_o0) rfl)).trans ((up_o (kx.ne (ck_29_1 k_o0) (ck_29_2 k_o0) rfl)).trans ((up_o (kx.ne (ck_29_1 k_o0) k_o0 rfl)).trans ((up_o (kx.ne (ck_29_1 k_o0) (ck_29_8 k_o0) rfl)).trans ((up_o (kx.ne (ck_29_1 k_o0) (ck_29_7 k_o0) rfl)).trans ((up_o (kx.ne (ck_29_1 k_o0) (ck_29_6 k_o0) rfl)).trans ((up_o (kx.ne (ck_29_1 k_o0) (ck_29_5 k_o0) rfl)).trans ((up_o (kx.ne (ck_29_1 k_o0) (ck_29_4 k_o0) rfl)).trans rfl))))))))) (by (clear hb gc2_k gc2_f k5; omega)) | (exfalso; (first | (clear hb gc2_k gc2_f k5; omega) | (clear hb gc2_k gc2_f; omega) | (clear hb gc2_k k5; omega) | (clear hb gc2_f k5; omega) | (clear gc2_k gc2_f k5; omega) | (clear hb gc2_k; omega) | omega))) (kt23))
/-! What the class answers: X9_clear. -/
set_option maxRecDepth 100000 in
set_option maxHeartbeats 4000000 in
theorem f_X9_clear (G : GT) (P : PH) (o0 : Nat) (k_o0 : kx o0 28) (hB : BdX P) (Q : Option PV → PH → Prop) (hQ : ∀ (P1 : PH) (_ : BdX P1) (_ : FrX ([(28, 6), (28, 7), (28, 8), (28, 9), (28, 10), (29, 9), (29, 10)], []) P P1) (_ : XK K0 (crX o0 0) P1) (_ : XM M0 o0 P1) (_ : KT (tbX o0) P P1), Q none P1) : Ct WSX G 2 iX9_clear [vR o0] P Q := by
  refine Ct.of (by decide) (l0 := [(0, vR o0)]) rfl (Nat.le_of_ble_eq_true rfl) ?_
  have kt0 : KT (tbX o0) P P := KT.rf
  refine g_aload_n dX9_clear_0 rfl ?_
  refine x_g28_0 (n := (crX o0 0)) k_o0 ffX9_12 dX9_clear_1 rfl ?_
  refine g_vV (av := []) (o := (crX o0 0)) (st := []) (f_X3_clear G P (crX o0 0) (ck_28_0 k_o0) hB  _ (fun Pc1 hBc1 hFc1 ec1_0 ec1_1 => ⟨rfl, ?_⟩)) cf_X3_clear t_691 rfl (show kx (crX o0 0) 29 from (ck_28_0 k_o0)).1 ((show kx (crX o0 0) 29 from (ck_28_0 k_o0)).sh rfl) rfl rfl (Nat.le_of_ble_eq_true rfl) (by decide) rfl dX9_clear_4
  have kt2 : KT (tbX o0) P Pc1 := KT.t kt0 (KT.e ec1_1 (tb28_0 k_o0))
  refine g_aload_n dX9_clear_7 rfl ?_
  refine g_iconst dX9_clear_8 ?_
  refine x_p28_6 k_o0 pfX9_39 dX9_clear_9 ?_
  have hB3 := by_28_6 (z := 0) hBc1 k_o0 (by decide)
  have kt4 : KT (tbX o0) P (up Pc1 o0 6 0) := KT.w kt2 (Or.inl rfl)
  refine g_aload_n dX9_clear_12 rfl ?_
  refine g_iconst dX9_clear_13 ?_
  refine x_p28_7 k_o0 pfX9_43 dX9_clear_14 ?_
  have hB5 := by_28_7 (z := 0) hB3 k_o0 (by decide)
  have kt6 : KT (tbX o0) P (up (up Pc1 o0 6 0) o0 7 0) := KT.w kt4 (Or.inl rfl)
  refine g_aload_n dX9_clear_17 rfl ?_
  refine g_iconst dX9_clear_18 ?_
  refine x_p28_8 k_o0 pfX9_46 dX9_clear_19 ?_
  have hB7 := by_28_8 (z := 0) hB5 k_o0 (by decide)
  have kt8 : KT (tbX o0) P (up (up (up Pc1 o0 6 0) o0 7 0) o0 8 0) := KT.w kt6 (Or.inl rfl)
  refine g_aload_n dX9_clear_22 rfl ?_
  refine g_iconst dX9_clear_23 ?_
  refine x_p28_9 k_o0 pfX9_49 dX9_clear_24 ?_
  have hB9 := by_28_9 (z := 0) hB7 k_o0 (by decide)
  have kt10 : KT (tbX o0) P (up (up (up (up Pc1 o0 6 0) o0 7 0) o0 8 0) o0 9 0) := KT.w kt8 (Or.inl rfl)
  refine g_aload_n dX9_clear_27 rfl ?_
  refine g_sipush dX9_clear_28 (by decide) ?_
  refine x_p28_10 k_o0 pfX9_52 dX9_clear_31 ?_
  have hB11 := by_28_10 (z := 300) hB9 k_o0 (by decide)
  have kt12 : KT (tbX o0) P (up (up (up (up (up Pc1 o0 6 0) o0 7 0) o0 8 0) o0 9 0) o0 10 300) := KT.w kt10 (Or.inl rfl)
  exact g_retV dX9_clear_34 rfl (hQ _ hB11 (FrX.s (FrX.s (FrX.s (FrX.s (FrX.s (FrX.c FrX.rf hFc1 rfl) k_o0 rfl) k_o0 rfl) k_o0 rfl) k_o0 rfl) k_o0 rfl) ((XK.fr (F := ([(28, 6), (28, 7), (28, 8), (28, 9), (28, 10)], [])) ec1_0 (FrX.s (FrX.s (FrX.s (FrX.s (FrX.s FrX.rf k_o0 rfl) k_o0 rfl) k_o0 rfl) k_o0 rfl) k_o0 rfl) rfl)) (XM.zero k_o0 ((up_k (by decide)).trans ((up_k (by decide)).trans ((up_k (by decide)).trans ((up_k (by decide)).trans up_same)))) ((up_k (by decide)).trans ((up_k (by decide)).trans ((up_k (by decide)).trans up_same))) ((up_k (by decide)).trans ((up_k (by decide)).trans up_same)) ((up_k (by decide)).trans up_same) up_same) (kt12))
end
section
/-! What the class answers: X7_isName. -/
set_option maxRecDepth 100000 in
set_option maxHeartbeats 4000000 in
theorem f_X7_isName (G : GT) (P : PH) (T : TT) (p : Int) (hB : BdX P) (z0 : XS T p P) (Q : Option PV → PH → Prop) (hQ : ∀ (r : Int) (_ : 0 ≤ r ∧ r ≤ 1) (_ : (r = 1 ∧ tK T p = 1 ∧ tO T p = -1) ∨ (r = 0 ∧ (tK T p ≠ 1 ∨ tO T p ≠ -1))), Q (some (vI r)) P) : Ct WSX G 1 iX7_isName [vR 111] P Q := by
  refine Ct.of (by decide) (l0 := [(0, vR 111)]) rfl (Nat.le_of_ble_eq_true rfl) ?_
  have hb := z0.b
  refine g_aload_n dX7_isName_0 rfl ?_
  refine x_g46_4 (z := (P 111 4)) (⟨by decide, rfl⟩ : kx 111 46) ffX7_75 dX7_isName_1 rfl ?_
  refine g_iconst dX7_isName_4 ?_
  have f1 := bx_46_4 (o := 111) hB (⟨by decide, rfl⟩ : kx 111 46)
  refine g_icmp_ne (tgt := 20) dX7_isName_5 (by decide) ⟨by have q0 := bx_46_4 (o := 111) hB (⟨by decide, rfl⟩ : kx 111 46); (clear hb; omega), by have q0 := bx_46_4 (o := 111) hB (⟨by decide, rfl⟩ : kx 111 46); (clear hb; omega)⟩ (by decide) (fun k2 => ?_) (fun k2 => ?_)
  · refine g_iconst dX7_isName_20 ?_
    exact g_retZ dX7_isName_21 rfl (by decide) (hQ 0 (by decide) (by (omega)))
  · refine g_aload_n dX7_isName_8 rfl ?_
    refine x_g46_8 (z := (P 111 8)) (⟨by decide, rfl⟩ : kx 111 46) ffX7_87 dX7_isName_9 rfl ?_
    refine g_iconst dX7_isName_12 ?_
    have f3 := bx_46_8 (o := 111) hB (⟨by decide, rfl⟩ : kx 111 46)
    refine g_icmp_ne (tgt := 20) dX7_isName_13 (by decide) ⟨by have q0 := bx_46_8 (o := 111) hB (⟨by decide, rfl⟩ : kx 111 46); (clear hb k2; omega), by have q0 := bx_46_8 (o := 111) hB (⟨by decide, rfl⟩ : kx 111 46); (clear hb k2; omega)⟩ (by decide) (fun k4 => ?_) (fun k4 => ?_)
    · refine g_iconst dX7_isName_20 ?_
      exact g_retZ dX7_isName_21 rfl (by decide) (hQ 0 (by decide) (by (omega)))
    · refine g_iconst dX7_isName_16 ?_
      refine g_goto (tgt := 21) dX7_isName_17 (by decide) ?_
      exact g_retZ dX7_isName_21 rfl (by decide) (hQ 1 (by decide) (by (omega)))
/-! What the class answers: X7_isSign. -/
set_option maxRecDepth 100000 in
set_option maxHeartbeats 4000000 in
theorem f_X7_isSign (G : GT) (P : PH) (T : TT) (p : Int) (a1 : Int) (h_a1 : (-2147483648) ≤ a1 ∧ a1 ≤ 2147483647) (hB : BdX P) (z0 : XS T p P) (Q : Option PV → PH → Prop) (hQ : ∀ (r : Int) (_ : 0 ≤ r ∧ r ≤ 1) (_ : (r = 1 ∧ tK T p = 3 ∧ tV T p = a1) ∨ (r = 0 ∧ (tK T p ≠ 3 ∨ tV T p ≠ a1))), Q (some (vI r)) P) : Ct WSX G 1 iX7_isSign [vR 111, vI a1] P Q := by
  refine Ct.of (by decide) (l0 := [(0, vR 111), (1, vI a1)]) rfl (Nat.le_of_ble_eq_true rfl) ?_
  have hb := z0.b
  have ht : tK T p = 3 → P 111 7 = tV T p := fun h => (z0.tok (by (clear hb; omega))).2
  refine g_aload_n dX7_isSign_0 rfl ?_
  refine x_g46_4 (z := (P 111 4)) (⟨by decide, rfl⟩ : kx 111 46) ffX7_75 dX7_isSign_1 rfl ?_
  refine g_iconst dX7_isSign_4 ?_
  have f1 := bx_46_4 (o := 111) hB (⟨by decide, rfl⟩ : kx 111 46)
  refine g_icmp_ne (tgt := 20) dX7_isSign_5 (by decide) ⟨by have q0 := bx_46_4 (o := 111) hB (⟨by decide, rfl⟩ : kx 111 46); (clear hb ht; omega), by have q0 := bx_46_4 (o := 111) hB (⟨by decide, rfl⟩ : kx 111 46); (clear hb ht; omega)⟩ (by decide) (fun k2 => ?_) (fun k2 => ?_)
  · refine g_iconst dX7_isSign_20 ?_
    exact g_retZ dX7_isSign_21 rfl (by decide) (hQ 0 (by decide) (by (omega)))
  · refine g_aload_n dX7_isSign_8 rfl ?_
    refine x_g46_7 (z := (P 111 7)) (⟨by decide, rfl⟩ : kx 111 46) ffX7_90 dX7_isSign_9 rfl ?_
    refine g_iload_n dX7_isSign_12 rfl ?_
    have f3 := bx_46_7 (o := 111) hB (⟨by decide, rfl⟩ : kx 111 46)
    refine g_icmp_ne (tgt := 20) dX7_isSign_13 (by decide) ⟨by have q0 := bx_46_7 (o := 111) hB (⟨by decide, rfl⟩ : kx 111 46); (clear hb ht k2; omega), by have q0 := bx_46_7 (o := 111) hB (⟨by decide, rfl⟩ : kx 111 46); (clear hb ht k2; omega)⟩ ⟨by (clear hb ht k2; omega), by (clear hb ht k2; omega)⟩ (fun k4 => ?_) (fun k4 => ?_)
    · refine g_iconst dX7_isSign_20 ?_
      exact g_retZ dX7_isSign_21 rfl (by decide) (hQ 0 (by decide) (by (omega)))
    · refine g_iconst dX7_isSign_16 ?_
      refine g_goto (tgt := 21) dX7_isSign_17 (by decide) ?_
      exact g_retZ dX7_isSign_21 rfl (by decide) (hQ 1 (by decide) (by (omega)))
/-! What the class answers: X7_stepNumber. -/
set_option maxRecDepth 100000 in
set_option maxHeartbeats 4000000 in
theorem f_X7_stepNumber (G : GT) (P : PH) (T : TT) (p : Int) (hB : BdX P) (p_st : P 111 3 = tA T p ∧ P 111 5 = tA T p ∧ P 111 7 = 0 ∧ P 111 8 = -1) (p_nn : 0 ≤ p ∧ p ≤ T.2 ∧ tA T p < T.2 ∧ 48 ≤ T.1 (tA T p) ∧ T.1 (tA T p) ≤ 57 ∧ tJn T p = 0) (v_TX : TX P) (z0 : XT T P) (Q : Option PV → PH → Prop) (hQ : ∀ (P1 : PH) (_ : BdX P1) (_ : FrX ([(46, 3), (46, 4), (46, 6), (46, 7)], []) P P1) (_ : XS T p P1), Q none P1) : Ct WSX G 1 iX7_stepNumber [vR 111] P Q := by
  refine Ct.of (by decide) (l0 := [(0, vR 111)]) rfl (Nat.le_of_ble_eq_true rfl) ?_
  have hln := z0.1
  refine g_aload_n dX7_stepNumber_0 rfl ?_
  refine g_iconst dX7_stepNumber_1 ?_
  refine x_p46_4 (⟨by decide, rfl⟩ : kx 111 46) pfX7_75 dX7_stepNumber_2 ?_
  have hB1 := by_46_4 (z := 2) hB (⟨by decide, rfl⟩ : kx 111 46) (by decide)
  refine g_iconst dX7_stepNumber_5 ?_
  refine g_istore_n (l1 := [(1, vI 0), (0, vR 111)]) dX7_stepNumber_6 (by decide) rfl ?_
  have L7_1 : ∀ (n7_1 : Nat) (x7_1_1 : Int) (h_x7_1_1 : 0 ≤ x7_1_1 ∧ x7_1_1 ≤ 4) (H7_1 : PH) (hB7_1 : BdX H7_1) (hE7_1 : FrX ([(46, 3), (46, 7)], []) (up P 111 4 2) H7_1) (i7_0_1 : H7_1 111 3 = tA T p + x7_1_1) (i7_1_1 : rE bN T (tA T p) = rE bN T (tA T p + x7_1_1) ∧ tA T p + x7_1_1 ≤ rE bN T (tA T p)) (i7_2_1 : H7_1 111 7 = e10 (tD T (tA T p)) (x7_1_1).toNat) (hm7_1 : (1601 - H7_1 111 3 : Int).toNat < n7_1), Go WSX G 1 iX7_stepNumber 7 [(0, vR 111), (1, vI x7_1_1)] [] H7_1 Q := by
    intro n7_1
    induction n7_1 with
    | zero => intro x7_1_1 h_x7_1_1 H7_1 hB7_1 hE7_1 i7_0_1 i7_1_1 i7_2_1 hm7_1; exact absurd hm7_1 (Nat.not_lt_zero _)
    | succ n7_1 ih7_1 =>
    intro x7_1_1 h_x7_1_1 H7_1 hB7_1 hE7_1 i7_0_1 i7_1_1 i7_2_1 hm7_1
    have hT : tA T p + x7_1_1 < T.2 → P 2 ((H7_1 111 3)) = T.1 (tA T p + x7_1_1) := fun h => by rw [show ((H7_1 111 3) : Int) = tA T p + x7_1_1 by omega]; exact z0.2 (tA T p + x7_1_1) (by have q := tA_ge T p; omega) h
    have hgn := rE_ge bN T (tA T p)
    refine g_aload_n dX7_stepNumber_7 rfl ?_
    refine x_g46_3 (z := (H7_1 111 3)) (⟨by decide, rfl⟩ : kx 111 46) ffX7_72 dX7_stepNumber_8 rfl ?_
    have f49 := bx_46_3 (o := 111) hB7_1 (⟨by decide, rfl⟩ : kx 111 46)
    refine g_if_lt (tgt := 112) dX7_stepNumber_11 (by decide) ⟨by have q0 := bx_46_3 (o := 111) hB7_1 (⟨by decide, rfl⟩ : kx 111 46); (clear hT; omega), by have q0 := bx_46_3 (o := 111) hB7_1 (⟨by decide, rfl⟩ : kx 111 46); (clear hT; omega)⟩ (fun k50 => by exfalso; have q0 := bx_46_3 (o := 111) hB7_1 (⟨by decide, rfl⟩ : kx 111 46); (clear hT; omega)) (fun k50 => ?_)
    refine g_aload_n dX7_stepNumber_14 rfl ?_
    refine x_g46_3 (z := (H7_1 111 3)) (⟨by decide, rfl⟩ : kx 111 46) ffX7_72 dX7_stepNumber_15 rfl ?_
    refine g_aload_n dX7_stepNumber_18 rfl ?_
    refine x_g46_2 (z := (P 111 2)) (⟨by decide, rfl⟩ : kx 111 46) ffX7_71 dX7_stepNumber_19 ((FrX.g hE7_1 (⟨by decide, rfl⟩ : kx 111 46) rfl).trans ((up_k (by decide)).trans rfl)) ?_
    have f51 := bx_46_2 (o := 111) hB (⟨by decide, rfl⟩ : kx 111 46)
    refine g_icmp_ge (tgt := 112) dX7_stepNumber_22 (by decide) ⟨by have q0 := bx_46_3 (o := 111) hB7_1 (⟨by decide, rfl⟩ : kx 111 46); (clear hT; omega), by have q0 := bx_46_3 (o := 111) hB7_1 (⟨by decide, rfl⟩ : kx 111 46); (clear hT; omega)⟩ ⟨by have q0 := bx_46_2 (o := 111) hB (⟨by decide, rfl⟩ : kx 111 46); (clear hT; omega), by have q0 := bx_46_2 (o := 111) hB (⟨by decide, rfl⟩ : kx 111 46); (clear hT; omega)⟩ (fun k52 => ?_) (fun k52 => ?_)
    · have hrs := i7_1_1.1.trans (rE_st (f := bN) (T := T) (p := tA T p + x7_1_1) (fun h => by have q := bN_t.mp h.2; (clear hT; omega)))
      exact g_retV dX7_stepNumber_112 rfl (hQ _ hB7_1 (FrX.c (FrX.s FrX.rf (⟨by decide, rfl⟩ : kx 111 46) rfl) hE7_1 rfl) (by have q3 := (rfl : H7_1 111 3 = (H7_1 111 3)); have q4 := (((FrX.g hE7_1 (⟨by decide, rfl⟩ : kx 111 46) rfl).trans up_same) : H7_1 111 4 = 2); have q5 := (((FrX.g hE7_1 (⟨by decide, rfl⟩ : kx 111 46) rfl).trans ((up_k (by decide)).trans rfl)) : H7_1 111 5 = (P 111 5)); have q6 := (((FrX.g hE7_1 (⟨by decide, rfl⟩ : kx 111 46) rfl).trans ((up_k (by decide)).trans rfl)) : H7_1 111 6 = (P 111 6)); have q7 := (rfl : H7_1 111 7 = (H7_1 111 7)); have q8 := (((FrX.g hE7_1 (⟨by decide, rfl⟩ : kx 111 46) rfl).trans ((up_k (by decide)).trans rfl)) : H7_1 111 8 = (P 111 8)); exact XS.nu ⟨by (clear hT; omega), by (clear hT; omega)⟩ (by (clear hT; omega)) (by (clear hT; omega)) (by (clear hT; omega)) (by (clear hT; omega)) (by (clear hT; omega)) (by rw [show (rE bN T (tA T p) - tA T p).toNat = (x7_1_1).toNat by (clear hT; omega)]; (clear hT; omega)) (by (clear hT; omega)) (by (clear hT; omega)) (by (clear hT; omega))))
    · refine g_aload_n dX7_stepNumber_25 rfl ?_
      refine x_g46_1 (n := 2) (⟨by decide, rfl⟩ : kx 111 46) ffX7_41 dX7_stepNumber_26 (TX.fr (F := ([(46, 3), (46, 4), (46, 7)], [])) v_TX (FrX.c (FrX.s FrX.rf (⟨by decide, rfl⟩ : kx 111 46) rfl) hE7_1 rfl) rfl) ?_
      refine g_aload_n dX7_stepNumber_29 rfl ?_
      refine x_g46_3 (z := (H7_1 111 3)) (⟨by decide, rfl⟩ : kx 111 46) ffX7_72 dX7_stepNumber_30 rfl ?_
      refine x_l2 (z := (P 2 (H7_1 111 3))) (⟨by decide, rfl⟩ : kx 2 2) dX7_stepNumber_33 ⟨by have q0 := bx_46_3 (o := 111) hB7_1 (⟨by decide, rfl⟩ : kx 111 46); (clear hT; omega), by have q0 := bx_46_3 (o := 111) hB7_1 (⟨by decide, rfl⟩ : kx 111 46); (clear hT; omega)⟩ ((FrX.g hE7_1 (⟨by decide, rfl⟩ : kx 2 2) rfl).trans ((up_o (kx.ne (⟨by decide, rfl⟩ : kx 2 2) (⟨by decide, rfl⟩ : kx 111 46) rfl)).trans rfl)) ?_
      refine g_bipush dX7_stepNumber_34 (by decide) ?_
      have f53 := bx_2 (o := 2) (k := (H7_1 111 3)) hB (⟨by decide, rfl⟩ : kx 2 2)
      refine g_icmp_lt (tgt := 112) dX7_stepNumber_36 (by decide) ⟨by have q0 := bx_2 (o := 2) (k := (H7_1 111 3)) hB (⟨by decide, rfl⟩ : kx 2 2); (clear hT; omega), by have q0 := bx_2 (o := 2) (k := (H7_1 111 3)) hB (⟨by decide, rfl⟩ : kx 2 2); (clear hT; omega)⟩ (by decide) (fun k54 => ?_) (fun k54 => ?_)
      · have hrs := i7_1_1.1.trans (rE_st (f := bN) (T := T) (p := tA T p + x7_1_1) (fun h => by have q := bN_t.mp h.2; (omega)))
        exact g_retV dX7_stepNumber_112 rfl (hQ _ hB7_1 (FrX.c (FrX.s FrX.rf (⟨by decide, rfl⟩ : kx 111 46) rfl) hE7_1 rfl) (by have q3 := (rfl : H7_1 111 3 = (H7_1 111 3)); have q4 := (((FrX.g hE7_1 (⟨by decide, rfl⟩ : kx 111 46) rfl).trans up_same) : H7_1 111 4 = 2); have q5 := (((FrX.g hE7_1 (⟨by decide, rfl⟩ : kx 111 46) rfl).trans ((up_k (by decide)).trans rfl)) : H7_1 111 5 = (P 111 5)); have q6 := (((FrX.g hE7_1 (⟨by decide, rfl⟩ : kx 111 46) rfl).trans ((up_k (by decide)).trans rfl)) : H7_1 111 6 = (P 111 6)); have q7 := (rfl : H7_1 111 7 = (H7_1 111 7)); have q8 := (((FrX.g hE7_1 (⟨by decide, rfl⟩ : kx 111 46) rfl).trans ((up_k (by decide)).trans rfl)) : H7_1 111 8 = (P 111 8)); exact XS.nu ⟨by (clear hT; omega), by (clear hT; omega)⟩ (by (clear hT; omega)) (by (clear hT; omega)) (by (clear hT; omega)) (by (clear hT; omega)) (by (clear hT; omega)) (by rw [show (rE bN T (tA T p) - tA T p).toNat = (x7_1_1).toNat by (clear hT; omega)]; (clear hT; omega)) (by (clear hT; omega)) (by (clear hT; omega)) (by (clear hT; omega))))
      · refine g_aload_n dX7_stepNumber_39 rfl ?_
        refine x_g46_1 (n := 2) (⟨by decide, rfl⟩ : kx 111 46) ffX7_41 dX7_stepNumber_40 (TX.fr (F := ([(46, 3), (46, 4), (46, 7)], [])) v_TX (FrX.c (FrX.s FrX.rf (⟨by decide, rfl⟩ : kx 111 46) rfl) hE7_1 rfl) rfl) ?_
        refine g_aload_n dX7_stepNumber_43 rfl ?_
        refine x_g46_3 (z := (H7_1 111 3)) (⟨by decide, rfl⟩ : kx 111 46) ffX7_72 dX7_stepNumber_44 rfl ?_
        refine x_l2 (z := (P 2 (H7_1 111 3))) (⟨by decide, rfl⟩ : kx 2 2) dX7_stepNumber_47 ⟨by have q0 := bx_46_3 (o := 111) hB7_1 (⟨by decide, rfl⟩ : kx 111 46); (clear hT; omega), by have q0 := bx_46_3 (o := 111) hB7_1 (⟨by decide, rfl⟩ : kx 111 46); (clear hT; omega)⟩ ((FrX.g hE7_1 (⟨by decide, rfl⟩ : kx 2 2) rfl).trans ((up_o (kx.ne (⟨by decide, rfl⟩ : kx 2 2) (⟨by decide, rfl⟩ : kx 111 46) rfl)).trans rfl)) ?_
        refine g_bipush dX7_stepNumber_48 (by decide) ?_
        refine g_icmp_gt (tgt := 112) dX7_stepNumber_50 (by decide) ⟨by have q0 := bx_2 (o := 2) (k := (H7_1 111 3)) hB (⟨by decide, rfl⟩ : kx 2 2); (clear hT; omega), by have q0 := bx_2 (o := 2) (k := (H7_1 111 3)) hB (⟨by decide, rfl⟩ : kx 2 2); (clear hT; omega)⟩ (by decide) (fun k55 => ?_) (fun k55 => ?_)
        · have hrs := i7_1_1.1.trans (rE_st (f := bN) (T := T) (p := tA T p + x7_1_1) (fun h => by have q := bN_t.mp h.2; (omega)))
          exact g_retV dX7_stepNumber_112 rfl (hQ _ hB7_1 (FrX.c (FrX.s FrX.rf (⟨by decide, rfl⟩ : kx 111 46) rfl) hE7_1 rfl) (by have q3 := (rfl : H7_1 111 3 = (H7_1 111 3)); have q4 := (((FrX.g hE7_1 (⟨by decide, rfl⟩ : kx 111 46) rfl).trans up_same) : H7_1 111 4 = 2); have q5 := (((FrX.g hE7_1 (⟨by decide, rfl⟩ : kx 111 46) rfl).trans ((up_k (by decide)).trans rfl)) : H7_1 111 5 = (P 111 5)); have q6 := (((FrX.g hE7_1 (⟨by decide, rfl⟩ : kx 111 46) rfl).trans ((up_k (by decide)).trans rfl)) : H7_1 111 6 = (P 111 6)); have q7 := (rfl : H7_1 111 7 = (H7_1 111 7)); have q8 := (((FrX.g hE7_1 (⟨by decide, rfl⟩ : kx 111 46) rfl).trans ((up_k (by decide)).trans rfl)) : H7_1 111 8 = (P 111 8)); exact XS.nu ⟨by (clear hT; omega), by (clear hT; omega)⟩ (by (clear hT; omega)) (by (clear hT; omega)) (by (clear hT; omega)) (by (clear hT; omega)) (by (clear hT; omega)) (by rw [show (rE bN T (tA T p) - tA T p).toNat = (x7_1_1).toNat by (clear hT; omega)]; (clear hT; omega)) (by (clear hT; omega)) (by (clear hT; omega)) (by (clear hT; omega))))
        · have hgo := rE_go (f := bN) (T := T) (p := tA T p + x7_1_1) (by (clear hT; omega)) (bN_t.mpr (by (omega)))
          have hge := rE_ge bN T (tA T p + x7_1_1 + 1)
          refine g_iload_n dX7_stepNumber_53 rfl ?_
          refine g_iconst dX7_stepNumber_54 ?_
          refine g_icmp_ne (tgt := 72) dX7_stepNumber_55 (by decide) ⟨by (clear hT; omega), by (clear hT; omega)⟩ (by decide) (fun k56 => ?_) (fun k56 => ?_)
          · have k56n : x7_1_1 ≤ 3 := by (clear hT; omega)
            clear k56
            have hvb := e10_b (T := T) (a := tA T p) (x7_1_1).toNat (by (clear hT; omega)) (fun i hi => run_d (T := T) (a := tA T p) (b := tA T p + x7_1_1) (by (clear hT; omega)) (by (clear hT; omega)) i (by (clear hT; omega)))
            refine g_aload_n dX7_stepNumber_72 rfl ?_
            refine g_aload_n dX7_stepNumber_73 rfl ?_
            refine x_g46_7 (z := (H7_1 111 7)) (⟨by decide, rfl⟩ : kx 111 46) ffX7_90 dX7_stepNumber_74 rfl ?_
            refine g_bipush dX7_stepNumber_77 (by decide) ?_
            refine g_imul dX7_stepNumber_79 ?_
            refine g_aload_n dX7_stepNumber_80 rfl ?_
            refine x_g46_1 (n := 2) (⟨by decide, rfl⟩ : kx 111 46) ffX7_41 dX7_stepNumber_81 (TX.fr (F := ([(46, 3), (46, 4), (46, 7)], [])) v_TX (FrX.c (FrX.s FrX.rf (⟨by decide, rfl⟩ : kx 111 46) rfl) hE7_1 rfl) rfl) ?_
            refine g_aload_n dX7_stepNumber_84 rfl ?_
            refine x_g46_3 (z := (H7_1 111 3)) (⟨by decide, rfl⟩ : kx 111 46) ffX7_72 dX7_stepNumber_85 rfl ?_
            refine x_l2 (z := (P 2 (H7_1 111 3))) (⟨by decide, rfl⟩ : kx 2 2) dX7_stepNumber_88 ⟨by have q0 := bx_46_3 (o := 111) hB7_1 (⟨by decide, rfl⟩ : kx 111 46); (clear hT; omega), by have q0 := bx_46_3 (o := 111) hB7_1 (⟨by decide, rfl⟩ : kx 111 46); (clear hT; omega)⟩ ((FrX.g hE7_1 (⟨by decide, rfl⟩ : kx 2 2) rfl).trans ((up_o (kx.ne (⟨by decide, rfl⟩ : kx 2 2) (⟨by decide, rfl⟩ : kx 111 46) rfl)).trans rfl)) ?_
            refine g_iadd dX7_stepNumber_89 ?_
            refine g_bipush dX7_stepNumber_90 (by decide) ?_
            refine g_isub dX7_stepNumber_92 ?_
            have hv9 : ((((H7_1 111 7) * 10) + (P 2 (H7_1 111 3))) - 48) = e10 (tD T (tA T p)) (x7_1_1 + 1).toNat := by
              rw [show (x7_1_1 + 1).toNat = (x7_1_1).toNat + 1 by (clear hT; omega)]
              show _ = e10 (tD T (tA T p)) (x7_1_1).toNat * 10 + (T.1 (tA T p + ((x7_1_1).toNat : Int)) - 48)
              rw [show tA T p + ((x7_1_1).toNat : Int) = tA T p + x7_1_1 by (clear hT; omega)]
              (omega)
            refine x_p46_7 (⟨by decide, rfl⟩ : kx 111 46) pfX7_90 dX7_stepNumber_93 ?_
            have hB57 := by_46_7 (z := ((((H7_1 111 7) * 10) + (P 2 (H7_1 111 3))) - 48)) hB7_1 (⟨by decide, rfl⟩ : kx 111 46) ⟨by have q0 := bx_46_7 (o := 111) hB7_1 (⟨by decide, rfl⟩ : kx 111 46); have q1 := bx_2 (o := 2) (k := (H7_1 111 3)) hB (⟨by decide, rfl⟩ : kx 2 2); (clear hT; omega), by have q0 := bx_46_7 (o := 111) hB7_1 (⟨by decide, rfl⟩ : kx 111 46); have q1 := bx_2 (o := 2) (k := (H7_1 111 3)) hB (⟨by decide, rfl⟩ : kx 2 2); (clear hT; omega)⟩
            refine g_iinc (l1 := [(1, vI (x7_1_1 + 1)), (0, vR 111)]) dX7_stepNumber_96 rfl (by decide) rfl ?_
            refine g_aload_n dX7_stepNumber_99 rfl ?_
            refine g_dup dX7_stepNumber_100 rfl ?_
            refine x_g46_3 (z := (H7_1 111 3)) (⟨by decide, rfl⟩ : kx 111 46) ffX7_72 dX7_stepNumber_101 ((up_k (by decide)).trans rfl) ?_
            refine g_iconst dX7_stepNumber_104 ?_
            refine g_iadd dX7_stepNumber_105 ?_
            refine x_p46_3 (⟨by decide, rfl⟩ : kx 111 46) pfX7_72 dX7_stepNumber_106 ?_
            have hB58 := by_46_3 (z := ((H7_1 111 3) + 1)) hB57 (⟨by decide, rfl⟩ : kx 111 46) ⟨by have q0 := bx_46_3 (o := 111) hB7_1 (⟨by decide, rfl⟩ : kx 111 46); (clear hT; omega), by have q0 := bx_46_3 (o := 111) hB7_1 (⟨by decide, rfl⟩ : kx 111 46); (clear hT; omega)⟩
            refine g_goto (tgt := 7) dX7_stepNumber_109 (by decide) ?_
            refine g_forget (l1 := [(0, vR 111), (1, vI (x7_1_1 + 1))]) (by intro q hq; simp only [List.mem_cons, List.not_mem_nil, or_false] at hq ⊢; rcases hq with rfl | rfl <;> simp) ?_
            exact ih7_1 (x7_1_1 + 1) ⟨by (clear hT; omega), by (clear hT; omega)⟩ _ hB58 (FrX.s (FrX.s (FrX.c FrX.rf hE7_1 rfl) (⟨by decide, rfl⟩ : kx 111 46) rfl) (⟨by decide, rfl⟩ : kx 111 46) rfl) (by have q0 := (up_same : (up (up H7_1 111 7 ((((H7_1 111 7) * 10) + (P 2 (H7_1 111 3))) - 48)) 111 3 ((H7_1 111 3) + 1)) 111 3 = ((H7_1 111 3) + 1)); have q1 := bx_46_3 (o := 111) hB7_1 (⟨by decide, rfl⟩ : kx 111 46); (clear hT; omega)) (by first | (rw [Int.add_zero]; exact ⟨rfl, rE_ge _ _ _⟩) | (rw [show ∀ z : Int, tA T p + (z + 1) = tA T p + z + 1 from fun z => by (clear hT; omega)]; (clear hT; omega))) (by first | (have q7 := (((up_k (by decide)).trans up_same) : (up (up H7_1 111 7 ((((H7_1 111 7) * 10) + (P 2 (H7_1 111 3))) - 48)) 111 3 ((H7_1 111 3) + 1)) 111 7 = ((((H7_1 111 7) * 10) + (P 2 (H7_1 111 3))) - 48)); (clear hT; omega)) | exact (((up_k (by decide)).trans up_same)).trans (p_st.2.2.1.trans rfl)) (by have q0 := (up_same : (up (up H7_1 111 7 ((((H7_1 111 7) * 10) + (P 2 (H7_1 111 3))) - 48)) 111 3 ((H7_1 111 3) + 1)) 111 3 = ((H7_1 111 3) + 1)); have q1 := bx_46_3 (o := 111) hB7_1 (⟨by decide, rfl⟩ : kx 111 46); (clear hT; omega))
          · refine g_aload_n dX7_stepNumber_58 rfl ?_
            refine g_iconst dX7_stepNumber_59 ?_
            refine x_p46_4 (⟨by decide, rfl⟩ : kx 111 46) pfX7_75 dX7_stepNumber_60 ?_
            have hB59 := by_46_4 (z := 4) hB7_1 (⟨by decide, rfl⟩ : kx 111 46) (by decide)
            refine g_aload_n dX7_stepNumber_63 rfl ?_
            refine g_aload_n dX7_stepNumber_64 rfl ?_
            refine x_g46_3 (z := (H7_1 111 3)) (⟨by decide, rfl⟩ : kx 111 46) ffX7_72 dX7_stepNumber_65 ((up_k (by decide)).trans rfl) ?_
            refine x_p46_6 (⟨by decide, rfl⟩ : kx 111 46) pfX7_84 dX7_stepNumber_68 ?_
            have hB60 := by_46_6 (z := (H7_1 111 3)) hB59 (⟨by decide, rfl⟩ : kx 111 46) ⟨by have q0 := bx_46_3 (o := 111) hB7_1 (⟨by decide, rfl⟩ : kx 111 46); (clear hT; omega), by have q0 := bx_46_3 (o := 111) hB7_1 (⟨by decide, rfl⟩ : kx 111 46); (clear hT; omega)⟩
            exact g_retV dX7_stepNumber_71 rfl (hQ _ hB60 (FrX.s (FrX.s (FrX.c (FrX.s FrX.rf (⟨by decide, rfl⟩ : kx 111 46) rfl) hE7_1 rfl) (⟨by decide, rfl⟩ : kx 111 46) rfl) (⟨by decide, rfl⟩ : kx 111 46) rfl) (by have q3 := (((up_k (by decide)).trans ((up_k (by decide)).trans rfl)) : (up (up H7_1 111 4 4) 111 6 (H7_1 111 3)) 111 3 = (H7_1 111 3)); have q4 := (((up_k (by decide)).trans up_same) : (up (up H7_1 111 4 4) 111 6 (H7_1 111 3)) 111 4 = 4); have q5 := (((up_k (by decide)).trans ((up_k (by decide)).trans ((FrX.g hE7_1 (⟨by decide, rfl⟩ : kx 111 46) rfl).trans ((up_k (by decide)).trans rfl)))) : (up (up H7_1 111 4 4) 111 6 (H7_1 111 3)) 111 5 = (P 111 5)); have q6 := (up_same : (up (up H7_1 111 4 4) 111 6 (H7_1 111 3)) 111 6 = (H7_1 111 3)); have q7 := (((up_k (by decide)).trans ((up_k (by decide)).trans rfl)) : (up (up H7_1 111 4 4) 111 6 (H7_1 111 3)) 111 7 = (H7_1 111 7)); have q8 := (((up_k (by decide)).trans ((up_k (by decide)).trans ((FrX.g hE7_1 (⟨by decide, rfl⟩ : kx 111 46) rfl).trans ((up_k (by decide)).trans rfl)))) : (up (up H7_1 111 4 4) 111 6 (H7_1 111 3)) 111 8 = (P 111 8)); exact XS.nub ⟨by (clear hT; omega), by (clear hT; omega)⟩ (by (clear hT; omega)) (by (clear hT; omega)) (by (clear hT; omega)) (by (clear hT; omega)) (by (clear hT; omega)) (by (clear hT; omega)) (by (clear hT; omega)) (by (clear hT; omega))))
  refine g_forget (l1 := [(0, vR 111), (1, vI 0)]) (by intro q hq; simp only [List.mem_cons, List.not_mem_nil, or_false] at hq ⊢; rcases hq with rfl | rfl <;> simp) ?_
  exact L7_1 _ 0 (by decide) _ hB1 FrX.rf (by have q0 := (((up_k (by decide)).trans rfl) : (up P 111 4 2) 111 3 = (P 111 3)); have q1 := bx_46_3 (o := 111) hB (⟨by decide, rfl⟩ : kx 111 46); omega) (by first | (rw [Int.add_zero]; exact ⟨rfl, rE_ge _ _ _⟩) | (rw [show ∀ z : Int, tA T p + (z + 1) = tA T p + z + 1 from fun z => by omega]; omega)) (by first | (have q7 := (((up_k (by decide)).trans rfl) : (up P 111 4 2) 111 7 = (P 111 7)); omega) | exact (((up_k (by decide)).trans rfl)).trans (p_st.2.2.1.trans rfl)) (Nat.lt_succ_self _)
/-! What the class answers: X7_stepWord. -/
set_option maxRecDepth 100000 in
set_option maxHeartbeats 4000000 in
theorem f_X7_stepWord (G : GT) (P : PH) (T : TT) (p : Int) (hB : BdX P) (p_st : P 111 3 = tA T p ∧ P 111 5 = tA T p ∧ P 111 7 = 0 ∧ P 111 8 = -1) (p_nn : 0 ≤ p ∧ p ≤ T.2 ∧ tA T p < T.2 ∧ 97 ≤ T.1 (tA T p) ∧ T.1 (tA T p) ≤ 122 ∧ tJn T p = 0) (v_TX : TX P) (v_OWN : OWN P) (z0 : XT T P) (Q : Option PV → PH → Prop) (hQ : ∀ (P1 : PH) (_ : BdX P1) (_ : FrX ([(46, 3), (46, 4), (46, 6), (46, 7), (46, 8)], []) P P1) (_ : XS T p P1), Q none P1) : Ct WSX G 1 iX7_stepWord [vR 111] P Q := by
  refine Ct.of (by decide) (l0 := [(0, vR 111)]) rfl (Nat.le_of_ble_eq_true rfl) ?_
  have hln := z0.1
  refine g_aload_n dX7_stepWord_0 rfl ?_
  refine g_iconst dX7_stepWord_1 ?_
  refine x_p46_4 (⟨by decide, rfl⟩ : kx 111 46) pfX7_75 dX7_stepWord_2 ?_
  have hB1 := by_46_4 (z := 1) hB (⟨by decide, rfl⟩ : kx 111 46) (by decide)
  refine g_iconst dX7_stepWord_5 ?_
  refine g_istore_n (l1 := [(1, vI 0), (0, vR 111)]) dX7_stepWord_6 (by decide) rfl ?_
  have L7_1 : ∀ (n7_1 : Nat) (x7_1_1 : Int) (h_x7_1_1 : 0 ≤ x7_1_1 ∧ x7_1_1 ≤ 6) (H7_1 : PH) (hB7_1 : BdX H7_1) (hE7_1 : FrX ([(46, 3), (46, 7)], []) (up P 111 4 1) H7_1) (i7_0_1 : H7_1 111 3 = tA T p + x7_1_1) (i7_1_1 : rE bL T (tA T p) = rE bL T (tA T p + x7_1_1) ∧ tA T p + x7_1_1 ≤ rE bL T (tA T p)) (i7_2_1 : H7_1 111 7 = e27 (tL T (tA T p)) (x7_1_1).toNat) (hm7_1 : (1601 - H7_1 111 3 : Int).toNat < n7_1), Go WSX G 1 iX7_stepWord 7 [(0, vR 111), (1, vI x7_1_1)] [] H7_1 Q := by
    intro n7_1
    induction n7_1 with
    | zero => intro x7_1_1 h_x7_1_1 H7_1 hB7_1 hE7_1 i7_0_1 i7_1_1 i7_2_1 hm7_1; exact absurd hm7_1 (Nat.not_lt_zero _)
    | succ n7_1 ih7_1 =>
    intro x7_1_1 h_x7_1_1 H7_1 hB7_1 hE7_1 i7_0_1 i7_1_1 i7_2_1 hm7_1
    have hT : tA T p + x7_1_1 < T.2 → P 2 ((H7_1 111 3)) = T.1 (tA T p + x7_1_1) := fun h => by rw [show ((H7_1 111 3) : Int) = tA T p + x7_1_1 by omega]; exact z0.2 (tA T p + x7_1_1) (by have q := tA_ge T p; omega) h
    have hgn := rE_ge bL T (tA T p)
    refine g_aload_n dX7_stepWord_7 rfl ?_
    refine x_g46_3 (z := (H7_1 111 3)) (⟨by decide, rfl⟩ : kx 111 46) ffX7_72 dX7_stepWord_8 rfl ?_
    have f3885 := bx_46_3 (o := 111) hB7_1 (⟨by decide, rfl⟩ : kx 111 46)
    have J115_4392 : ∀ (i115_0_4392 : rE bL T (tA T p) = tA T p + x7_1_1), Go WSX G 1 iX7_stepWord 115 [(0, vR 111), (1, vI x7_1_1)] [] H7_1 Q := by
      intro i115_0_4392
      obtain ⟨n1, hn1⟩ : ∃ z : Int, z = x7_1_1 := ⟨_, rfl⟩
      have hrl : ∀ i : Nat, i < (n1).toNat → 1 ≤ tL T (tA T p) i ∧ tL T (tA T p) i ≤ 26 := fun i hi => run_l (T := T) (a := tA T p) (b := tA T p + x7_1_1) (by (clear hT; omega)) (by (clear hT; omega)) (by (clear hT; omega)) i (by (clear hT; omega))
      have hp0 := pad_0 (g := tL T (tA T p)) (L := (n1).toNat)
      refine g_iload_n dX7_stepWord_115 rfl ?_
      refine g_istore_n (l1 := [(2, vI x7_1_1), (0, vR 111), (1, vI x7_1_1)]) dX7_stepWord_116 (by decide) rfl ?_
      have L117_4393 : ∀ (n117_4393 : Nat) (x117_2_4393 : Int) (h_x117_2_4393 : 0 ≤ x117_2_4393 ∧ x117_2_4393 ≤ 6) (H117_4393 : PH) (hB117_4393 : BdX H117_4393) (hE117_4393 : FrX ([(46, 7)], []) H7_1 H117_4393) (i117_0_4393 : n1 ≤ x117_2_4393) (i117_1_4393 : H117_4393 111 7 = e27 (tPad (tL T (tA T p)) (n1).toNat) (x117_2_4393).toNat) (hm117_4393 : ((7 - x117_2_4393) : Int).toNat < n117_4393), Go WSX G 1 iX7_stepWord 117 [(0, vR 111), (2, vI x117_2_4393)] [] H117_4393 Q := by
        intro n117_4393
        induction n117_4393 with
        | zero => intro x117_2_4393 h_x117_2_4393 H117_4393 hB117_4393 hE117_4393 i117_0_4393 i117_1_4393 hm117_4393; exact absurd hm117_4393 (Nat.not_lt_zero _)
        | succ n117_4393 ih117_4393 =>
        intro x117_2_4393 h_x117_2_4393 H117_4393 hB117_4393 hE117_4393 i117_0_4393 i117_1_4393 hm117_4393
        refine g_iload_n dX7_stepWord_117 rfl ?_
        refine g_bipush dX7_stepWord_118 (by decide) ?_
        refine g_icmp_ge (tgt := 140) dX7_stepWord_120 (by decide) ⟨by (clear hT; omega), by (clear hT; omega)⟩ (by decide) (fun k4791 => ?_) (fun k4791 => ?_)
        · have hi6 : H117_4393 111 7 = e27 (tPad (tL T (tA T p)) (n1).toNat) 6 := by
            have q := i117_1_4393
            rw [show (x117_2_4393).toNat = 6 by (clear hT; omega)] at q
            exact q
          refine g_iconst dX7_stepWord_140 ?_
          refine g_istore_n (l1 := [(2, vI 0), (0, vR 111)]) dX7_stepWord_141 (by decide) rfl ?_
          have L142_4791 : ∀ (n142_4791 : Nat) (x142_2_4791 : Int) (h_x142_2_4791 : 0 ≤ x142_2_4791 ∧ x142_2_4791 ≤ 11) (H142_4791 : PH) (hB142_4791 : BdX H142_4791) (hE142_4791 : FrX ([(46, 8)], []) H117_4393 H142_4791) (i142_0_4791 : H142_4791 111 8 = oWF (H142_4791 111 7) (x142_2_4791).toNat) (hm142_4791 : ((12 - x142_2_4791) : Int).toNat < n142_4791), Go WSX G 1 iX7_stepWord 142 [(0, vR 111), (2, vI x142_2_4791)] [] H142_4791 Q := by
            intro n142_4791
            induction n142_4791 with
            | zero => intro x142_2_4791 h_x142_2_4791 H142_4791 hB142_4791 hE142_4791 i142_0_4791 hm142_4791; exact absurd hm142_4791 (Nat.not_lt_zero _)
            | succ n142_4791 ih142_4791 =>
            intro x142_2_4791 h_x142_2_4791 H142_4791 hB142_4791 hE142_4791 i142_0_4791 hm142_4791
            refine g_iload_n dX7_stepWord_142 rfl ?_
            refine g_aload_n dX7_stepWord_143 rfl ?_
            refine x_g46_0 (n := 112) (⟨by decide, rfl⟩ : kx 111 46) ffX7_37 dX7_stepWord_144 rfl ?_
            refine x_n47 (⟨by decide, rfl⟩ : kx 112 47) dX7_stepWord_147 ?_
            refine g_icmp_ge (tgt := 175) dX7_stepWord_148 (by decide) ⟨by (clear hT; omega), by (clear hT; omega)⟩ (by decide) (fun k4881 => ?_) (fun k4881 => ?_)
            · exact g_retV dX7_stepWord_175 rfl (hQ _ hB142_4791 (FrX.c (FrX.c (FrX.c (FrX.s FrX.rf (⟨by decide, rfl⟩ : kx 111 46) rfl) hE7_1 rfl) hE117_4393 rfl) hE142_4791 rfl) (by have q3 := (((FrX.g hE142_4791 (⟨by decide, rfl⟩ : kx 111 46) rfl).trans ((FrX.g hE117_4393 (⟨by decide, rfl⟩ : kx 111 46) rfl).trans rfl)) : H142_4791 111 3 = (H7_1 111 3)); have q4 := (((FrX.g hE142_4791 (⟨by decide, rfl⟩ : kx 111 46) rfl).trans ((FrX.g hE117_4393 (⟨by decide, rfl⟩ : kx 111 46) rfl).trans ((FrX.g hE7_1 (⟨by decide, rfl⟩ : kx 111 46) rfl).trans up_same))) : H142_4791 111 4 = 1); have q5 := (((FrX.g hE142_4791 (⟨by decide, rfl⟩ : kx 111 46) rfl).trans ((FrX.g hE117_4393 (⟨by decide, rfl⟩ : kx 111 46) rfl).trans ((FrX.g hE7_1 (⟨by decide, rfl⟩ : kx 111 46) rfl).trans ((up_k (by decide)).trans rfl)))) : H142_4791 111 5 = (P 111 5)); have q6 := (((FrX.g hE142_4791 (⟨by decide, rfl⟩ : kx 111 46) rfl).trans ((FrX.g hE117_4393 (⟨by decide, rfl⟩ : kx 111 46) rfl).trans ((FrX.g hE7_1 (⟨by decide, rfl⟩ : kx 111 46) rfl).trans ((up_k (by decide)).trans rfl)))) : H142_4791 111 6 = (P 111 6)); have q7 := (((FrX.g hE142_4791 (⟨by decide, rfl⟩ : kx 111 46) rfl).trans rfl) : H142_4791 111 7 = (H117_4393 111 7)); have q8 := (rfl : H142_4791 111 8 = (H142_4791 111 8)); exact XS.wo ⟨by (clear hT; omega), by (clear hT; omega)⟩ (by (clear hT; omega)) (by (clear hT; omega)) (by rw [show (11 : Nat) = (x142_2_4791).toNat by (clear hT; omega)]; exact i142_0_4791) (by (clear hT; omega)) (by (clear hT; omega)) (by rw [show (rE bL T (tA T p) - tA T p).toNat = (n1).toNat by (clear hT; omega)]; (clear hT; omega)) (by (clear hT; omega)) (by (clear hT; omega)) (by (clear hT; omega))))
            · have hq112 : H142_4791 112 x142_2_4791 = P 112 x142_2_4791 := ((FrX.g hE142_4791 (⟨by decide, rfl⟩ : kx 112 47) rfl).trans ((FrX.g hE117_4393 (⟨by decide, rfl⟩ : kx 112 47) rfl).trans ((FrX.g hE7_1 (⟨by decide, rfl⟩ : kx 112 47) rfl).trans ((up_o (kx.ne (⟨by decide, rfl⟩ : kx 112 47) (⟨by decide, rfl⟩ : kx 111 46) rfl)).trans rfl))))
              have hq142 : H142_4791 111 8 = oWF ((H117_4393 111 7)) (x142_2_4791).toNat := by
                have q := i142_0_4791
                rw [show H142_4791 111 7 = (H117_4393 111 7) from ((FrX.g hE142_4791 (⟨by decide, rfl⟩ : kx 111 46) rfl).trans rfl)] at q
                exact q
              have hw9 := oWF_s (v := (H117_4393 111 7)) (n := (x142_2_4791).toNat) (((OWN.fr (F := ([(46, 3), (46, 4), (46, 7), (46, 8)], [])) v_OWN (FrX.c (FrX.c (FrX.c (FrX.s FrX.rf (⟨by decide, rfl⟩ : kx 111 46) rfl) hE7_1 rfl) hE117_4393 rfl) hE142_4791 rfl) rfl)) (x142_2_4791).toNat (by (clear hT; omega)))
              rw [show (((x142_2_4791).toNat : Nat) : Int) = x142_2_4791 by (clear hT hw9; omega)] at hw9
              refine g_aload_n dX7_stepWord_151 rfl ?_
              refine x_g46_0 (n := 112) (⟨by decide, rfl⟩ : kx 111 46) ffX7_37 dX7_stepWord_152 rfl ?_
              refine g_iload_n dX7_stepWord_155 rfl ?_
              refine x_l47 (z := (P 112 x142_2_4791)) (⟨by decide, rfl⟩ : kx 112 47) dX7_stepWord_156 ⟨by (clear hT hw9; omega), by (clear hT hw9; omega)⟩ ((FrX.g hE142_4791 (⟨by decide, rfl⟩ : kx 112 47) rfl).trans ((FrX.g hE117_4393 (⟨by decide, rfl⟩ : kx 112 47) rfl).trans ((FrX.g hE7_1 (⟨by decide, rfl⟩ : kx 112 47) rfl).trans ((up_o (kx.ne (⟨by decide, rfl⟩ : kx 112 47) (⟨by decide, rfl⟩ : kx 111 46) rfl)).trans rfl)))) ?_
              refine g_aload_n dX7_stepWord_157 rfl ?_
              refine x_g46_7 (z := (H117_4393 111 7)) (⟨by decide, rfl⟩ : kx 111 46) ffX7_90 dX7_stepWord_158 ((FrX.g hE142_4791 (⟨by decide, rfl⟩ : kx 111 46) rfl).trans rfl) ?_
              have f4882 := bx_47 (o := 112) (k := x142_2_4791) hB (⟨by decide, rfl⟩ : kx 112 47)
              have f4883 := bx_46_7 (o := 111) hB117_4393 (⟨by decide, rfl⟩ : kx 111 46)
              have J169_4885 : ∀ (H169_4885 : PH) (hB169_4885 : BdX H169_4885) (hE169_4885 : FrX ([(46, 8)], []) H142_4791 H169_4885) (i169_0_4885 : H169_4885 111 8 = oWF (H169_4885 111 7) (x142_2_4791 + 1).toNat), Go WSX G 1 iX7_stepWord 169 [(0, vR 111), (2, vI x142_2_4791)] [] H169_4885 Q := by
                intro H169_4885 hB169_4885 hE169_4885 i169_0_4885
                have hnx142 := i169_0_4885
                refine g_iinc (l1 := [(2, vI (x142_2_4791 + 1)), (0, vR 111)]) dX7_stepWord_169 rfl (by decide) rfl ?_
                refine g_goto (tgt := 142) dX7_stepWord_172 (by decide) ?_
                refine g_forget (l1 := [(0, vR 111), (2, vI (x142_2_4791 + 1))]) (by intro q hq; simp only [List.mem_cons, List.not_mem_nil, or_false] at hq ⊢; rcases hq with rfl | rfl <;> simp) ?_
                exact ih142_4791 (x142_2_4791 + 1) ⟨by (clear hT hw9; omega), by (clear hT hw9; omega)⟩ _ hB169_4885 (FrX.c (FrX.c FrX.rf hE142_4791 rfl) hE169_4885 rfl) (by first | exact hnx142 | (have q7 := (((FrX.g hE169_4885 (⟨by decide, rfl⟩ : kx 111 46) rfl).trans ((FrX.g hE142_4791 (⟨by decide, rfl⟩ : kx 111 46) rfl).trans rfl)) : H169_4885 111 7 = (H117_4393 111 7)); have q8 := (rfl : H169_4885 111 8 = (H169_4885 111 8)); rw [q7]; (first | (clear hT hw9; omega) | (clear hT; omega) | (clear hw9; omega) | omega)) | exact (rfl).trans (by first | (first | (clear hT hw9; omega) | (clear hT; omega) | (clear hw9; omega) | omega) | exact (p_st.2.2.2).trans rfl)) (by (clear hT hw9; omega))
              refine g_icmp_ne (tgt := 169) dX7_stepWord_161 (by decide) ⟨by have q0 := bx_47 (o := 112) (k := x142_2_4791) hB (⟨by decide, rfl⟩ : kx 112 47); (clear hT hw9; omega), by have q0 := bx_47 (o := 112) (k := x142_2_4791) hB (⟨by decide, rfl⟩ : kx 112 47); (clear hT hw9; omega)⟩ ⟨by have q0 := bx_46_7 (o := 111) hB117_4393 (⟨by decide, rfl⟩ : kx 111 46); (clear hT hw9; omega), by have q0 := bx_46_7 (o := 111) hB117_4393 (⟨by decide, rfl⟩ : kx 111 46); (clear hT hw9; omega)⟩ (fun k4887 => ?_) (fun k4887 => ?_)
              · skip
                refine g_forget (l1 := [(0, vR 111), (2, vI x142_2_4791)]) (by intro q hq; simp only [List.mem_cons, List.not_mem_nil, or_false] at hq ⊢; rcases hq with rfl | rfl <;> simp) ?_
                exact J169_4885 _ hB142_4791 FrX.rf (by rw [show H142_4791 111 7 = (H117_4393 111 7) from ((FrX.g hE142_4791 (⟨by decide, rfl⟩ : kx 111 46) rfl).trans rfl), show (x142_2_4791 + 1).toNat = (x142_2_4791).toNat + 1 by (clear hT hw9 k4887; omega)]; have q8 := (rfl : H142_4791 111 8 = (H142_4791 111 8)); (clear hT; omega))
              · skip
                refine g_aload_n dX7_stepWord_164 rfl ?_
                refine g_iload_n dX7_stepWord_165 rfl ?_
                refine x_p46_8 (⟨by decide, rfl⟩ : kx 111 46) pfX7_87 dX7_stepWord_166 ?_
                have hB4888 := by_46_8 (z := x142_2_4791) hB142_4791 (⟨by decide, rfl⟩ : kx 111 46) ⟨by (clear hT hw9 k4887; omega), by (clear hT hw9 k4887; omega)⟩
                refine g_forget (l1 := [(0, vR 111), (2, vI x142_2_4791)]) (by intro q hq; simp only [List.mem_cons, List.not_mem_nil, or_false] at hq ⊢; rcases hq with rfl | rfl <;> simp) ?_
                exact J169_4885 _ hB4888 (FrX.s FrX.rf (⟨by decide, rfl⟩ : kx 111 46) rfl) (by rw [show (up H142_4791 111 8 x142_2_4791) 111 7 = (H117_4393 111 7) from ((up_k (by decide)).trans ((FrX.g hE142_4791 (⟨by decide, rfl⟩ : kx 111 46) rfl).trans rfl)), show (x142_2_4791 + 1).toNat = (x142_2_4791).toNat + 1 by (clear hT hw9 k4887; omega)]; have q8 := (up_same : (up H142_4791 111 8 x142_2_4791) 111 8 = x142_2_4791); (clear hT; omega))
          refine g_forget (l1 := [(0, vR 111), (2, vI 0)]) (by intro q hq; simp only [List.mem_cons, List.not_mem_nil, or_false] at hq ⊢; rcases hq with rfl | rfl <;> simp) ?_
          exact L142_4791 _ 0 (by decide) _ hB117_4393 FrX.rf (by first | exact hnx142 | (have q7 := (rfl : H117_4393 111 7 = (H117_4393 111 7)); have q8 := (((FrX.g hE117_4393 (⟨by decide, rfl⟩ : kx 111 46) rfl).trans ((FrX.g hE7_1 (⟨by decide, rfl⟩ : kx 111 46) rfl).trans ((up_k (by decide)).trans rfl))) : H117_4393 111 8 = (P 111 8)); rw [q7]; (first | (clear hT; omega) | omega)) | exact (((FrX.g hE117_4393 (⟨by decide, rfl⟩ : kx 111 46) rfl).trans ((FrX.g hE7_1 (⟨by decide, rfl⟩ : kx 111 46) rfl).trans ((up_k (by decide)).trans rfl)))).trans (by first | (first | (clear hT; omega) | omega) | exact (p_st.2.2.2).trans rfl)) (Nat.lt_succ_self _)
        · have hpb := pad_lt (g := tL T (tA T p)) (L := (n1).toNat) (k := (x117_2_4393).toNat) (by (clear hT; omega)) hrl
          have hp1 := pad_one (g := tL T (tA T p)) (L := (n1).toNat) (k := (x117_2_4393).toNat) (by (clear hT; omega))
          have hnx9 : (H117_4393 111 7) * 27 = e27 (tPad (tL T (tA T p)) (n1).toNat) (x117_2_4393 + 1).toNat := by rw [show (x117_2_4393 + 1).toNat = (x117_2_4393).toNat + 1 by (clear hT; omega), hp1, ← i117_1_4393]
          refine g_aload_n dX7_stepWord_123 rfl ?_
          refine g_dup dX7_stepWord_124 rfl ?_
          refine x_g46_7 (z := (H117_4393 111 7)) (⟨by decide, rfl⟩ : kx 111 46) ffX7_90 dX7_stepWord_125 rfl ?_
          refine g_bipush dX7_stepWord_128 (by decide) ?_
          refine g_imul dX7_stepWord_130 ?_
          refine x_p46_7 (⟨by decide, rfl⟩ : kx 111 46) pfX7_90 dX7_stepWord_131 ?_
          have hB4889 := by_46_7 (z := ((H117_4393 111 7) * 27)) hB117_4393 (⟨by decide, rfl⟩ : kx 111 46) ⟨by have q0 := bx_46_7 (o := 111) hB117_4393 (⟨by decide, rfl⟩ : kx 111 46); (clear hT; omega), by have q0 := bx_46_7 (o := 111) hB117_4393 (⟨by decide, rfl⟩ : kx 111 46); (clear hT; omega)⟩
          refine g_iinc (l1 := [(2, vI (x117_2_4393 + 1)), (0, vR 111)]) dX7_stepWord_134 rfl (by decide) rfl ?_
          refine g_goto (tgt := 117) dX7_stepWord_137 (by decide) ?_
          refine g_forget (l1 := [(0, vR 111), (2, vI (x117_2_4393 + 1))]) (by intro q hq; simp only [List.mem_cons, List.not_mem_nil, or_false] at hq ⊢; rcases hq with rfl | rfl <;> simp) ?_
          exact ih117_4393 (x117_2_4393 + 1) ⟨by (clear hT; omega), by (clear hT; omega)⟩ _ hB4889 (FrX.s (FrX.c FrX.rf hE117_4393 rfl) (⟨by decide, rfl⟩ : kx 111 46) rfl) (by (clear hT; omega)) (by first | exact (up_same).trans hnx9 | exact (up_same).trans (i7_2_1.trans (by rw [← hn1]; exact hp0.symm))) (by (clear hT; omega))
      refine g_forget (l1 := [(0, vR 111), (2, vI x7_1_1)]) (by intro q hq; simp only [List.mem_cons, List.not_mem_nil, or_false] at hq ⊢; rcases hq with rfl | rfl <;> simp) ?_
      exact L117_4393 _ x7_1_1 ⟨by (clear hT; omega), by (clear hT; omega)⟩ _ hB7_1 FrX.rf (by (clear hT; omega)) (by first | exact (rfl).trans hnx9 | exact (rfl).trans (i7_2_1.trans (by rw [← hn1]; exact hp0.symm))) (Nat.lt_succ_self _)
    refine g_if_lt (tgt := 115) dX7_stepWord_11 (by decide) ⟨by have q0 := bx_46_3 (o := 111) hB7_1 (⟨by decide, rfl⟩ : kx 111 46); (clear hT; omega), by have q0 := bx_46_3 (o := 111) hB7_1 (⟨by decide, rfl⟩ : kx 111 46); (clear hT; omega)⟩ (fun k4890 => by exfalso; have q0 := bx_46_3 (o := 111) hB7_1 (⟨by decide, rfl⟩ : kx 111 46); (clear hT; omega)) (fun k4890 => ?_)
    refine g_aload_n dX7_stepWord_14 rfl ?_
    refine x_g46_3 (z := (H7_1 111 3)) (⟨by decide, rfl⟩ : kx 111 46) ffX7_72 dX7_stepWord_15 rfl ?_
    refine g_aload_n dX7_stepWord_18 rfl ?_
    refine x_g46_2 (z := (P 111 2)) (⟨by decide, rfl⟩ : kx 111 46) ffX7_71 dX7_stepWord_19 ((FrX.g hE7_1 (⟨by decide, rfl⟩ : kx 111 46) rfl).trans ((up_k (by decide)).trans rfl)) ?_
    have f4891 := bx_46_2 (o := 111) hB (⟨by decide, rfl⟩ : kx 111 46)
    refine g_icmp_ge (tgt := 115) dX7_stepWord_22 (by decide) ⟨by have q0 := bx_46_3 (o := 111) hB7_1 (⟨by decide, rfl⟩ : kx 111 46); (clear hT; omega), by have q0 := bx_46_3 (o := 111) hB7_1 (⟨by decide, rfl⟩ : kx 111 46); (clear hT; omega)⟩ ⟨by have q0 := bx_46_2 (o := 111) hB (⟨by decide, rfl⟩ : kx 111 46); (clear hT; omega), by have q0 := bx_46_2 (o := 111) hB (⟨by decide, rfl⟩ : kx 111 46); (clear hT; omega)⟩ (fun k4892 => ?_) (fun k4892 => ?_)
    · refine g_forget (l1 := [(0, vR 111), (1, vI x7_1_1)]) (by intro q hq; simp only [List.mem_cons, List.not_mem_nil, or_false] at hq ⊢; rcases hq with rfl | rfl <;> simp) ?_
      exact J115_4392 (i7_1_1.1.trans (rE_st (f := bL) (T := T) (p := tA T p + x7_1_1) (fun h => by have q := bL_t.mp h.2; (clear hT; omega))))
    · refine g_aload_n dX7_stepWord_25 rfl ?_
      refine x_g46_1 (n := 2) (⟨by decide, rfl⟩ : kx 111 46) ffX7_41 dX7_stepWord_26 (TX.fr (F := ([(46, 3), (46, 4), (46, 7)], [])) v_TX (FrX.c (FrX.s FrX.rf (⟨by decide, rfl⟩ : kx 111 46) rfl) hE7_1 rfl) rfl) ?_
      refine g_aload_n dX7_stepWord_29 rfl ?_
      refine x_g46_3 (z := (H7_1 111 3)) (⟨by decide, rfl⟩ : kx 111 46) ffX7_72 dX7_stepWord_30 rfl ?_
      refine x_l2 (z := (P 2 (H7_1 111 3))) (⟨by decide, rfl⟩ : kx 2 2) dX7_stepWord_33 ⟨by have q0 := bx_46_3 (o := 111) hB7_1 (⟨by decide, rfl⟩ : kx 111 46); (clear hT; omega), by have q0 := bx_46_3 (o := 111) hB7_1 (⟨by decide, rfl⟩ : kx 111 46); (clear hT; omega)⟩ ((FrX.g hE7_1 (⟨by decide, rfl⟩ : kx 2 2) rfl).trans ((up_o (kx.ne (⟨by decide, rfl⟩ : kx 2 2) (⟨by decide, rfl⟩ : kx 111 46) rfl)).trans rfl)) ?_
      refine g_bipush dX7_stepWord_34 (by decide) ?_
      have f4893 := bx_2 (o := 2) (k := (H7_1 111 3)) hB (⟨by decide, rfl⟩ : kx 2 2)
      refine g_icmp_lt (tgt := 115) dX7_stepWord_36 (by decide) ⟨by have q0 := bx_2 (o := 2) (k := (H7_1 111 3)) hB (⟨by decide, rfl⟩ : kx 2 2); (clear hT; omega), by have q0 := bx_2 (o := 2) (k := (H7_1 111 3)) hB (⟨by decide, rfl⟩ : kx 2 2); (clear hT; omega)⟩ (by decide) (fun k4894 => ?_) (fun k4894 => ?_)
      · refine g_forget (l1 := [(0, vR 111), (1, vI x7_1_1)]) (by intro q hq; simp only [List.mem_cons, List.not_mem_nil, or_false] at hq ⊢; rcases hq with rfl | rfl <;> simp) ?_
        exact J115_4392 (i7_1_1.1.trans (rE_st (f := bL) (T := T) (p := tA T p + x7_1_1) (fun h => by have q := bL_t.mp h.2; (omega))))
      · refine g_aload_n dX7_stepWord_39 rfl ?_
        refine x_g46_1 (n := 2) (⟨by decide, rfl⟩ : kx 111 46) ffX7_41 dX7_stepWord_40 (TX.fr (F := ([(46, 3), (46, 4), (46, 7)], [])) v_TX (FrX.c (FrX.s FrX.rf (⟨by decide, rfl⟩ : kx 111 46) rfl) hE7_1 rfl) rfl) ?_
        refine g_aload_n dX7_stepWord_43 rfl ?_
        refine x_g46_3 (z := (H7_1 111 3)) (⟨by decide, rfl⟩ : kx 111 46) ffX7_72 dX7_stepWord_44 rfl ?_
        refine x_l2 (z := (P 2 (H7_1 111 3))) (⟨by decide, rfl⟩ : kx 2 2) dX7_stepWord_47 ⟨by have q0 := bx_46_3 (o := 111) hB7_1 (⟨by decide, rfl⟩ : kx 111 46); (clear hT; omega), by have q0 := bx_46_3 (o := 111) hB7_1 (⟨by decide, rfl⟩ : kx 111 46); (clear hT; omega)⟩ ((FrX.g hE7_1 (⟨by decide, rfl⟩ : kx 2 2) rfl).trans ((up_o (kx.ne (⟨by decide, rfl⟩ : kx 2 2) (⟨by decide, rfl⟩ : kx 111 46) rfl)).trans rfl)) ?_
        refine g_bipush dX7_stepWord_48 (by decide) ?_
        refine g_icmp_gt (tgt := 115) dX7_stepWord_50 (by decide) ⟨by have q0 := bx_2 (o := 2) (k := (H7_1 111 3)) hB (⟨by decide, rfl⟩ : kx 2 2); (clear hT; omega), by have q0 := bx_2 (o := 2) (k := (H7_1 111 3)) hB (⟨by decide, rfl⟩ : kx 2 2); (clear hT; omega)⟩ (by decide) (fun k4895 => ?_) (fun k4895 => ?_)
        · refine g_forget (l1 := [(0, vR 111), (1, vI x7_1_1)]) (by intro q hq; simp only [List.mem_cons, List.not_mem_nil, or_false] at hq ⊢; rcases hq with rfl | rfl <;> simp) ?_
          exact J115_4392 (i7_1_1.1.trans (rE_st (f := bL) (T := T) (p := tA T p + x7_1_1) (fun h => by have q := bL_t.mp h.2; (omega))))
        · have hgo := rE_go (f := bL) (T := T) (p := tA T p + x7_1_1) (by (clear hT; omega)) (bL_t.mpr (by (omega)))
          have hge := rE_ge bL T (tA T p + x7_1_1 + 1)
          refine g_iload_n dX7_stepWord_53 rfl ?_
          refine g_bipush dX7_stepWord_54 (by decide) ?_
          refine g_icmp_ne (tgt := 73) dX7_stepWord_56 (by decide) ⟨by (clear hT; omega), by (clear hT; omega)⟩ (by decide) (fun k4896 => ?_) (fun k4896 => ?_)
          · have k4896n : x7_1_1 ≤ 5 := by (clear hT; omega)
            clear k4896
            have hrl : ∀ i : Nat, i < (x7_1_1).toNat → 1 ≤ tL T (tA T p) i ∧ tL T (tA T p) i ≤ 26 := fun i hi => run_l (T := T) (a := tA T p) (b := tA T p + x7_1_1) (by (clear hT; omega)) (by (clear hT; omega)) (by (clear hT; omega)) i (by (clear hT; omega))
            have hvb := e27_lt (T := T) (a := tA T p) (n := (x7_1_1).toNat) (by (clear hT; omega)) hrl
            refine g_aload_n dX7_stepWord_73 rfl ?_
            refine g_aload_n dX7_stepWord_74 rfl ?_
            refine x_g46_7 (z := (H7_1 111 7)) (⟨by decide, rfl⟩ : kx 111 46) ffX7_90 dX7_stepWord_75 rfl ?_
            refine g_bipush dX7_stepWord_78 (by decide) ?_
            refine g_imul dX7_stepWord_80 ?_
            refine g_aload_n dX7_stepWord_81 rfl ?_
            refine x_g46_1 (n := 2) (⟨by decide, rfl⟩ : kx 111 46) ffX7_41 dX7_stepWord_82 (TX.fr (F := ([(46, 3), (46, 4), (46, 7)], [])) v_TX (FrX.c (FrX.s FrX.rf (⟨by decide, rfl⟩ : kx 111 46) rfl) hE7_1 rfl) rfl) ?_
            refine g_aload_n dX7_stepWord_85 rfl ?_
            refine x_g46_3 (z := (H7_1 111 3)) (⟨by decide, rfl⟩ : kx 111 46) ffX7_72 dX7_stepWord_86 rfl ?_
            refine x_l2 (z := (P 2 (H7_1 111 3))) (⟨by decide, rfl⟩ : kx 2 2) dX7_stepWord_89 ⟨by have q0 := bx_46_3 (o := 111) hB7_1 (⟨by decide, rfl⟩ : kx 111 46); (clear hT; omega), by have q0 := bx_46_3 (o := 111) hB7_1 (⟨by decide, rfl⟩ : kx 111 46); (clear hT; omega)⟩ ((FrX.g hE7_1 (⟨by decide, rfl⟩ : kx 2 2) rfl).trans ((up_o (kx.ne (⟨by decide, rfl⟩ : kx 2 2) (⟨by decide, rfl⟩ : kx 111 46) rfl)).trans rfl)) ?_
            refine g_iadd dX7_stepWord_90 ?_
            refine g_bipush dX7_stepWord_91 (by decide) ?_
            refine g_isub dX7_stepWord_93 ?_
            refine g_iconst dX7_stepWord_94 ?_
            refine g_iadd dX7_stepWord_95 ?_
            have hv9 : (((((H7_1 111 7) * 27) + (P 2 (H7_1 111 3))) - 97) + 1) = e27 (tL T (tA T p)) (x7_1_1 + 1).toNat := by
              rw [show (x7_1_1 + 1).toNat = (x7_1_1).toNat + 1 by (clear hT; omega)]
              exact e27_one (by (clear hT; omega)) (by rw [show tA T p + ((x7_1_1).toNat : Int) = tA T p + x7_1_1 by (clear hT; omega)]; (omega))
            refine x_p46_7 (⟨by decide, rfl⟩ : kx 111 46) pfX7_90 dX7_stepWord_96 ?_
            have hB4897 := by_46_7 (z := (((((H7_1 111 7) * 27) + (P 2 (H7_1 111 3))) - 97) + 1)) hB7_1 (⟨by decide, rfl⟩ : kx 111 46) ⟨by have q0 := bx_46_7 (o := 111) hB7_1 (⟨by decide, rfl⟩ : kx 111 46); have q1 := bx_2 (o := 2) (k := (H7_1 111 3)) hB (⟨by decide, rfl⟩ : kx 2 2); (clear hT; omega), by have q0 := bx_46_7 (o := 111) hB7_1 (⟨by decide, rfl⟩ : kx 111 46); have q1 := bx_2 (o := 2) (k := (H7_1 111 3)) hB (⟨by decide, rfl⟩ : kx 2 2); (clear hT; omega)⟩
            refine g_iinc (l1 := [(1, vI (x7_1_1 + 1)), (0, vR 111)]) dX7_stepWord_99 rfl (by decide) rfl ?_
            refine g_aload_n dX7_stepWord_102 rfl ?_
            refine g_dup dX7_stepWord_103 rfl ?_
            refine x_g46_3 (z := (H7_1 111 3)) (⟨by decide, rfl⟩ : kx 111 46) ffX7_72 dX7_stepWord_104 ((up_k (by decide)).trans rfl) ?_
            refine g_iconst dX7_stepWord_107 ?_
            refine g_iadd dX7_stepWord_108 ?_
            refine x_p46_3 (⟨by decide, rfl⟩ : kx 111 46) pfX7_72 dX7_stepWord_109 ?_
            have hB4898 := by_46_3 (z := ((H7_1 111 3) + 1)) hB4897 (⟨by decide, rfl⟩ : kx 111 46) ⟨by have q0 := bx_46_3 (o := 111) hB7_1 (⟨by decide, rfl⟩ : kx 111 46); (clear hT; omega), by have q0 := bx_46_3 (o := 111) hB7_1 (⟨by decide, rfl⟩ : kx 111 46); (clear hT; omega)⟩
            refine g_goto (tgt := 7) dX7_stepWord_112 (by decide) ?_
            refine g_forget (l1 := [(0, vR 111), (1, vI (x7_1_1 + 1))]) (by intro q hq; simp only [List.mem_cons, List.not_mem_nil, or_false] at hq ⊢; rcases hq with rfl | rfl <;> simp) ?_
            exact ih7_1 (x7_1_1 + 1) ⟨by (clear hT; omega), by (clear hT; omega)⟩ _ hB4898 (FrX.s (FrX.s (FrX.c FrX.rf hE7_1 rfl) (⟨by decide, rfl⟩ : kx 111 46) rfl) (⟨by decide, rfl⟩ : kx 111 46) rfl) (by have q0 := (up_same : (up (up H7_1 111 7 (((((H7_1 111 7) * 27) + (P 2 (H7_1 111 3))) - 97) + 1)) 111 3 ((H7_1 111 3) + 1)) 111 3 = ((H7_1 111 3) + 1)); have q1 := bx_46_3 (o := 111) hB7_1 (⟨by decide, rfl⟩ : kx 111 46); (clear hT; omega)) (by first | (rw [Int.add_zero]; exact ⟨rfl, rE_ge _ _ _⟩) | (rw [show ∀ z : Int, tA T p + (z + 1) = tA T p + z + 1 from fun z => by (clear hT; omega)]; (clear hT; omega))) (by first | (have q7 := (((up_k (by decide)).trans up_same) : (up (up H7_1 111 7 (((((H7_1 111 7) * 27) + (P 2 (H7_1 111 3))) - 97) + 1)) 111 3 ((H7_1 111 3) + 1)) 111 7 = (((((H7_1 111 7) * 27) + (P 2 (H7_1 111 3))) - 97) + 1)); (clear hT; omega)) | exact (((up_k (by decide)).trans up_same)).trans (p_st.2.2.1.trans rfl)) (by have q0 := (up_same : (up (up H7_1 111 7 (((((H7_1 111 7) * 27) + (P 2 (H7_1 111 3))) - 97) + 1)) 111 3 ((H7_1 111 3) + 1)) 111 3 = ((H7_1 111 3) + 1)); have q1 := bx_46_3 (o := 111) hB7_1 (⟨by decide, rfl⟩ : kx 111 46); (clear hT; omega))
          · refine g_aload_n dX7_stepWord_59 rfl ?_
            refine g_iconst dX7_stepWord_60 ?_
            refine x_p46_4 (⟨by decide, rfl⟩ : kx 111 46) pfX7_75 dX7_stepWord_61 ?_
            have hB4899 := by_46_4 (z := 4) hB7_1 (⟨by decide, rfl⟩ : kx 111 46) (by decide)
            refine g_aload_n dX7_stepWord_64 rfl ?_
            refine g_aload_n dX7_stepWord_65 rfl ?_
            refine x_g46_3 (z := (H7_1 111 3)) (⟨by decide, rfl⟩ : kx 111 46) ffX7_72 dX7_stepWord_66 ((up_k (by decide)).trans rfl) ?_
            refine x_p46_6 (⟨by decide, rfl⟩ : kx 111 46) pfX7_84 dX7_stepWord_69 ?_
            have hB4900 := by_46_6 (z := (H7_1 111 3)) hB4899 (⟨by decide, rfl⟩ : kx 111 46) ⟨by have q0 := bx_46_3 (o := 111) hB7_1 (⟨by decide, rfl⟩ : kx 111 46); (clear hT; omega), by have q0 := bx_46_3 (o := 111) hB7_1 (⟨by decide, rfl⟩ : kx 111 46); (clear hT; omega)⟩
            exact g_retV dX7_stepWord_72 rfl (hQ _ hB4900 (FrX.s (FrX.s (FrX.c (FrX.s FrX.rf (⟨by decide, rfl⟩ : kx 111 46) rfl) hE7_1 rfl) (⟨by decide, rfl⟩ : kx 111 46) rfl) (⟨by decide, rfl⟩ : kx 111 46) rfl) (by have q3 := (((up_k (by decide)).trans ((up_k (by decide)).trans rfl)) : (up (up H7_1 111 4 4) 111 6 (H7_1 111 3)) 111 3 = (H7_1 111 3)); have q4 := (((up_k (by decide)).trans up_same) : (up (up H7_1 111 4 4) 111 6 (H7_1 111 3)) 111 4 = 4); have q5 := (((up_k (by decide)).trans ((up_k (by decide)).trans ((FrX.g hE7_1 (⟨by decide, rfl⟩ : kx 111 46) rfl).trans ((up_k (by decide)).trans rfl)))) : (up (up H7_1 111 4 4) 111 6 (H7_1 111 3)) 111 5 = (P 111 5)); have q6 := (up_same : (up (up H7_1 111 4 4) 111 6 (H7_1 111 3)) 111 6 = (H7_1 111 3)); have q7 := (((up_k (by decide)).trans ((up_k (by decide)).trans rfl)) : (up (up H7_1 111 4 4) 111 6 (H7_1 111 3)) 111 7 = (H7_1 111 7)); have q8 := (((up_k (by decide)).trans ((up_k (by decide)).trans ((FrX.g hE7_1 (⟨by decide, rfl⟩ : kx 111 46) rfl).trans ((up_k (by decide)).trans rfl)))) : (up (up H7_1 111 4 4) 111 6 (H7_1 111 3)) 111 8 = (P 111 8)); exact XS.wob ⟨by (clear hT; omega), by (clear hT; omega)⟩ (by (clear hT; omega)) (by (clear hT; omega)) (by (clear hT; omega)) (by (clear hT; omega)) (by (clear hT; omega)) (by (clear hT; omega)) (by (clear hT; omega)) (by (clear hT; omega))))
  refine g_forget (l1 := [(0, vR 111), (1, vI 0)]) (by intro q hq; simp only [List.mem_cons, List.not_mem_nil, or_false] at hq ⊢; rcases hq with rfl | rfl <;> simp) ?_
  exact L7_1 _ 0 (by decide) _ hB1 FrX.rf (by have q0 := (((up_k (by decide)).trans rfl) : (up P 111 4 1) 111 3 = (P 111 3)); have q1 := bx_46_3 (o := 111) hB (⟨by decide, rfl⟩ : kx 111 46); omega) (by first | (rw [Int.add_zero]; exact ⟨rfl, rE_ge _ _ _⟩) | (rw [show ∀ z : Int, tA T p + (z + 1) = tA T p + z + 1 from fun z => by omega]; omega)) (by first | (have q7 := (((up_k (by decide)).trans rfl) : (up P 111 4 1) 111 7 = (P 111 7)); omega) | exact (((up_k (by decide)).trans rfl)).trans (p_st.2.2.1.trans rfl)) (Nat.lt_succ_self _)
end
